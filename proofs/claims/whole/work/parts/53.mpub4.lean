/-! ===== the reference's public methods: of, rival, pays, blocks, group, without ===== -/
theorem rv_step {S : SaleN} {k j : Nat} : andn (hdTo S.st (S.st k) (j + 1) &&& S.ac) (1 <<< k) = if j ≠ k ∧ S.ac.testBit j = true ∧ S.st j &&& S.st k ≠ 0 then andn (hdTo S.st (S.st k) j &&& S.ac) (1 <<< k) ||| 1 <<< j else andn (hdTo S.st (S.st k) j &&& S.ac) (1 <<< k) := by
  apply Nat.eq_of_testBit_eq
  intro i
  have e1 : (1 <<< k).testBit i = decide (k = i) := by rw [Nat.one_shiftLeft, Nat.testBit_two_pow]
  have e3 : (hdTo S.st (S.st k) (j + 1)).testBit i = ((hdTo S.st (S.st k) j).testBit i || (decide (j = i) && decide (S.st j &&& S.st k ≠ 0))) := by
    rw [hdTo_s]
    by_cases hc : S.st j &&& S.st k ≠ 0
    · rw [if_pos hc, tb_or]
      simp [hc]
    · rw [if_neg hc]
      simp [hc]
  split
  · rename_i hc
    rw [tb_or, andn_bit, andn_bit, Nat.testBit_and, Nat.testBit_and, e1, e3]
    by_cases e : j = i
    · subst e
      have h1 : ¬ k = j := fun z => hc.1 z.symm
      simp [hc.2.1, hc.2.2, h1]
    · simp [e]
  · rename_i hc
    rw [andn_bit, andn_bit, Nat.testBit_and, Nat.testBit_and, e1, e3]
    by_cases e : j = i
    · subst e
      by_cases h1 : k = j
      · simp [h1]
      · by_cases h2 : S.ac.testBit j = true
        · have h3 : ¬ S.st j &&& S.st k ≠ 0 := fun z => hc ⟨fun q => h1 q.symm, h2, z⟩
          simp [h3]
        · simp [h2]
    · simp [e]
theorem rv_0 {S : SaleN} {k : Nat} : 0 = andn (hdTo S.st (S.st k) 0 &&& S.ac) (1 <<< k) := by
  show 0 = andn (0 &&& S.ac) (1 <<< k)
  rw [Nat.zero_and, andn_zero]
theorem rv_win {S : SaleN} (hS : SaleOK S) {k : Nat} (h : (winB S 1023).testBit k = true) : andn (hdTo S.st (S.st k) S.ca &&& S.ac) (1 <<< k) &&& winB S 1023 = 0 := by
  apply Nat.eq_of_testBit_eq
  intro i
  rw [Nat.zero_testBit, Nat.testBit_and, andn_bit, Nat.testBit_and]
  have e1 : (1 <<< k).testBit i = decide (k = i) := by rw [Nat.one_shiftLeft, Nat.testBit_two_pow]
  cases hw : (winB S 1023).testBit i with
  | false => simp
  | true =>
    cases hh : (hdTo S.st (S.st k) S.ca).testBit i with
    | false => simp
    | true =>
      have h1 := (hd_bit S.ca i).mp hh
      have hd := (dsj_iff S.ca).mp (out_dsj (win_spec hS 1023).1)
      by_cases e : k = i
      · rw [e1]
        simp [e]
      · exfalso
        have hk := (win_tb hS h).2
        rcases Nat.lt_or_gt_of_ne e with hlt | hlt
        · exact h1.2 (by rw [Nat.and_comm]; exact hd k i hlt h1.1 h hw)
        · exact h1.2 (hd i k hlt hk hw h)
/-- what the bids of a group won is what its bidders won -/
theorem pr_or {pr : Nat → Nat} {x y : Nat} (h : x &&& y = 0) : ∀ n, prTo pr (x ||| y) n = prTo pr x n + prTo pr y n
  | 0 => rfl
  | n + 1 => by
    rw [prTo_s, prTo_s, prTo_s, pr_or h n, Nat.testBit_or]
    have h2 := and_no h n
    cases hx : x.testBit n <;> cases hy : y.testBit n
    · simp
    · simp; omega
    · simp; omega
    · exact absurd ⟨hx, hy⟩ h2
theorem own_bit {bd : Nat → Nat} {b : Nat} : ∀ n k, (ownTo bd b n).testBit k = true ↔ k < n ∧ bd k = b
  | 0, k => by
    show Nat.testBit 0 k = true ↔ _
    rw [Nat.zero_testBit]
    constructor
    · intro h; cases h
    · intro h; exact absurd h.1 (Nat.not_lt_zero k)
  | n + 1, k => by
    rw [ownTo_s]
    have ih := own_bit (bd := bd) (b := b) n k
    split
    · rename_i hc
      rw [tb_or, Bool.or_eq_true, decide_eq_true_eq, ih]
      constructor
      · rintro (h | rfl)
        · exact ⟨by omega, h.2⟩
        · exact ⟨by omega, hc⟩
      · rintro ⟨h1, h2⟩
        by_cases e : n = k
        · exact Or.inr e
        · exact Or.inl ⟨by omega, h2⟩
    · rename_i hc
      rw [ih]
      constructor
      · rintro ⟨h1, h2⟩; exact ⟨by omega, h2⟩
      · rintro ⟨h1, h2⟩
        by_cases e : n = k
        · subst e; exact absurd h2 hc
        · exact ⟨by omega, h2⟩
theorem bg_bit {bd : Nat → Nat} {g n k : Nat} : ∀ m, (bgTo (fun b => ownTo bd b n) g m).testBit k = true → bd k < m
  | 0, h => by
    have h : Nat.testBit 0 k = true := h
    rw [Nat.zero_testBit] at h
    cases h
  | m + 1, h => by
    rw [bgTo_s] at h
    split at h
    · rw [Nat.testBit_or, Bool.or_eq_true] at h
      rcases h with h | h
      · have := bg_bit m h
        omega
      · have := (own_bit n k).mp h
        omega
    · have := bg_bit m h
      omega
theorem pr_bg {S : SaleN} {w g : Nat} : ∀ m, m ≤ 5 → ((prTo S.pr (w &&& bgTo (owF S) g m) S.ca : Nat) : Int) = totZ (fun b => ((prTo S.pr (w &&& owF S b) S.ca : Nat) : Int)) g m
  | 0, _ => by
    show ((prTo S.pr (w &&& 0) S.ca : Nat) : Int) = 0
    rw [Nat.and_zero, prTo_zero]
    rfl
  | m + 1, hm => by
    have ih := pr_bg (S := S) (w := w) (g := g) m (by omega)
    rw [bgTo_s, totZ_s, ← ih]
    by_cases hc : g.testBit m = true
    · rw [if_pos hc, b01_t hc]
      have hd : (w &&& bgTo (owF S) g m) &&& (w &&& owF S m) = 0 := by
        apply Nat.eq_of_testBit_eq
        intro i
        rw [Nat.zero_testBit, Nat.testBit_and, Nat.testBit_and, Nat.testBit_and]
        cases h1 : (bgTo (owF S) g m).testBit i with
        | false => simp
        | true =>
          cases h2 : (owF S m).testBit i with
          | false => simp
          | true =>
            have h3 := bg_bit (bd := S.bd) (n := S.ca) m h1
            have h4 := ((own_bit S.ca i).mp h2).2
            omega
      rw [show w &&& (bgTo (owF S) g m ||| owF S m) = (w &&& bgTo (owF S) g m) ||| (w &&& owF S m) from Nat.and_or_distrib_left w _ _, pr_or hd]
      omega
    · rw [if_neg hc, b01_f hc]
      omega
theorem won_bg {S : SaleN} (hS : SaleOK S) (g : Nat) : ((prTo S.pr (winB S 1023 &&& bgTo S.ow g 5) S.ca : Nat) : Int) = totZ (wonZ S) g 5 := by
  rw [← bg_ow hS, pr_bg 5 (Nat.le_refl _)]
  exact totZ_cong 5 (fun b hb => by rw [won_ow hS hb]; rfl)
theorem harm_bg {S : SaleN} (hS : SaleOK S) (g : Nat) : harmM S (bgTo S.ow g 5) = harmZ S g := by
  unfold harmM harmZ harmF
  rw [won_bg hS]
theorem bX7_of_0_1 {l : Launch} {E : XE} : Snd l E mX7_of 0 1 (xs [x_iload 1]) := Snd.cons (snd_iload_n (i := 1) dX7_of_0 rfl) Snd.nil
theorem bX7_of_4_7 {l : Launch} {E : XE} : Snd l E mX7_of 4 7 (xs [x_aload 0, x_push (.int (-4))]) := Snd.cons (snd_aload_n (i := 0) dX7_of_4 rfl) (Snd.cons (snd_bipush (v := -4) dX7_of_5 (by decide)) Snd.nil)
set_option maxHeartbeats 4000000 in
set_option maxRecDepth 100000 in
theorem q_of_4 {l : Launch} {E : XE} (S : SaleN) (X : ModN) (K : Option (Nat → Nat)) (z1 z2 : Int) (hS : SaleOK S) (hM : MOK S X) (rz1 : -2147483648 ≤ z1 ∧ z1 < 2147483648) (rz2 : -2147483648 ≤ z2 ∧ z2 < 2147483648) (h : z1 < 0) : MetE l E mX7_of (1) 0 0 [.ref 0, .int (zI (z1)), .int (zI (z2))] (modW 0 S X K) (MP S K (X.lt) (X.ty) (X.rr) (X.rn) ((up X.rf 4 (X.rf 4 + 1))) (some (.int (-4)))) := by
  refine MetE.of (by decide +kernel) (Nat.le_of_ble_eq_true rfl) ?_
  have hca := hS.1
  have hpw := pow_ca hS
  have hac := ac_lt hS
  have hshl := shl_le hS
  
  refine ev_eq (lv' := [(0, .ref 0), (1, .int (zI (z1))), (2, .int (zI (z2)))]) (st' := []) (w' := modW 0 S X K) rfl rfl rfl ?_
  refine ev_b bX7_of_0_1 (lv' := [(0, .ref 0), (1, .int (zI (z1))), (2, .int (zI (z2)))]) (st' := [.int (zI (z1))]) (w2 := modW 0 S X K) rfl ?_
  refine ev_if_ge_z (tgt := 11) (by constructor <;> omega) dX7_of_1 (by decide) (fun h1 => (by exfalso; omega)) (fun h1 => ?_)
  refine ev_b bX7_of_4_7 (lv' := [(0, .ref 0), (1, .int (zI (z1))), (2, .int (zI (z2)))]) (st' := [.int (-4), .ref 0]) (w2 := modW 0 S X K) rfl ?_
  refine ev_callM (Yc := mX7_refuses) (st := []) dX7_of_7 tw_1012 kX7_refuses (m_X7_refuses_4 S X K) rfl rfl rfl rfl (by decide) (Nat.le_of_ble_eq_true rfl) (Nat.le_refl _) (Nat.le_refl _) (fun r w' h => by obtain ⟨-, rfl⟩ := h; exact mod_eq) ?_
  rintro _ _ ⟨rfl, rfl⟩
  refine ev_eq (lv' := [(0, .ref 0), (1, .int (zI (z1))), (2, .int (zI (z2)))]) (st' := [.int (-4)]) (w' := modW 0 S (((up X.rf 4 (X.rf 4 + 1)), X.wo, X.ta, X.ow, X.sl, X.sh, X.lt, X.ty, X.pl, X.nu, X.od, X.tt, X.oo, X.on, X.wn, X.pd, X.li, X.rr, X.rn, X.dr) : ModN) K) rfl rfl rfl ?_
  exact ev_iret dX7_of_10 rfl mod_le (Nat.le_refl _) (Nat.le_refl _) ⟨rfl, _, rfl, hM, rfl, rfl, rfl, rfl, rfl⟩
theorem bX7_of_11_17 {l : Launch} {E : XE} : Snd l E mX7_of 11 17 (xs [x_iload 1, x_push (.int (nI 1)), x_aload 0, x_get 8 6]) := Snd.cons (snd_iload_n (i := 1) dX7_of_11 rfl) (Snd.cons (snd_iconst (v := nI 1) dX7_of_12 (by decide)) (Snd.cons (snd_aload_n (i := 0) dX7_of_13 rfl) (Snd.cons (snd_get (ci := 8) (k := 6) dX7_of_14 rfl inX7 (by decide) tw_920) Snd.nil)))
theorem bX7_of_21_24 {l : Launch} {E : XE} : Snd l E mX7_of 21 24 (xs [x_aload 0, x_push (.int (-6))]) := Snd.cons (snd_aload_n (i := 0) dX7_of_21 rfl) (Snd.cons (snd_bipush (v := -6) dX7_of_22 (by decide)) Snd.nil)
set_option maxHeartbeats 4000000 in
set_option maxRecDepth 100000 in
theorem q_of_6 {l : Launch} {E : XE} (S : SaleN) (X : ModN) (K : Option (Nat → Nat)) (x : Nat) (z2 : Int) (hS : SaleOK S) (hM : MOK S X) (hx : x < 2147483648) (h : 1 <<< S.ca ≤ x) : MetE l E mX7_of (1) 0 0 [.ref 0, .int (nI (x)), .int (zI (z2))] (modW 0 S X K) (MP S K (X.lt) (X.ty) (X.rr) (X.rn) ((up X.rf 6 (X.rf 6 + 1))) (some (.int (-6)))) := by
  refine MetE.of (by decide +kernel) (Nat.le_of_ble_eq_true rfl) ?_
  have hca := hS.1
  have hpw := pow_ca hS
  have hac := ac_lt hS
  have hshl := shl_le hS
  
  refine ev_eq (lv' := [(0, .ref 0), (1, .int (nI (x))), (2, .int (zI (z2)))]) (st' := []) (w' := modW 0 S X K) rfl rfl rfl ?_
  refine ev_b bX7_of_0_1 (lv' := [(0, .ref 0), (1, .int (nI (x))), (2, .int (zI (z2)))]) (st' := [.int (nI (x))]) (w2 := modW 0 S X K) rfl ?_
  refine ev_if_ge_n (tgt := 11) (by omega) dX7_of_1 (by decide) (fun h1 => ?_) (fun h1 => (by exfalso; omega))
  refine ev_b bX7_of_11_17 (lv' := [(0, .ref 0), (1, .int (nI (x))), (2, .int (zI (z2)))]) (st' := [.int (nI (S.ca)), .int (nI (1)), .int (nI (x))]) (w2 := modW 0 S X K) rfl ?_
  refine ev_ishl_n (by omega) dX7_of_17 ?_
  refine ev_icmp_lt_n (tgt := 28) (by omega) (by omega) dX7_of_18 (by decide) (fun h18 => (by exfalso; omega)) (fun h18 => ?_)
  refine ev_b bX7_of_21_24 (lv' := [(0, .ref 0), (1, .int (nI (x))), (2, .int (zI (z2)))]) (st' := [.int (-6), .ref 0]) (w2 := modW 0 S X K) rfl ?_
  refine ev_callM (Yc := mX7_refuses) (st := []) dX7_of_24 tw_1012 kX7_refuses (m_X7_refuses_6 S X K) rfl rfl rfl rfl (by decide) (Nat.le_of_ble_eq_true rfl) (Nat.le_refl _) (Nat.le_refl _) (fun r w' h => by obtain ⟨-, rfl⟩ := h; exact mod_eq) ?_
  rintro _ _ ⟨rfl, rfl⟩
  refine ev_eq (lv' := [(0, .ref 0), (1, .int (nI (x))), (2, .int (zI (z2)))]) (st' := [.int (-6)]) (w' := modW 0 S (((up X.rf 6 (X.rf 6 + 1)), X.wo, X.ta, X.ow, X.sl, X.sh, X.lt, X.ty, X.pl, X.nu, X.od, X.tt, X.oo, X.on, X.wn, X.pd, X.li, X.rr, X.rn, X.dr) : ModN) K) rfl rfl rfl ?_
  exact ev_iret dX7_of_27 rfl mod_le (Nat.le_refl _) (Nat.le_refl _) ⟨rfl, _, rfl, hM, rfl, rfl, rfl, rfl, rfl⟩
theorem bX7_of_28_31 {l : Launch} {E : XE} : Snd l E mX7_of 28 31 (xs [x_iload 2, x_push (.int (nI 0)), x_push (.int (nI 1))]) := Snd.cons (snd_iload_n (i := 2) dX7_of_28 rfl) (Snd.cons (snd_iconst (v := nI 0) dX7_of_29 (by decide)) (Snd.cons (snd_iconst (v := nI 1) dX7_of_30 (by decide)) Snd.nil))
theorem bX7_of_37_40 {l : Launch} {E : XE} : Snd l E mX7_of 37 40 (xs [x_aload 0, x_push (.int (-2))]) := Snd.cons (snd_aload_n (i := 0) dX7_of_37 rfl) (Snd.cons (snd_bipush (v := -2) dX7_of_38 (by decide)) Snd.nil)
set_option maxHeartbeats 4000000 in
set_option maxRecDepth 100000 in
theorem q_of_2 {l : Launch} {E : XE} (S : SaleN) (X : ModN) (K : Option (Nat → Nat)) (x : Nat) (z2 : Int) (hS : SaleOK S) (hM : MOK S X) (rz2 : -2147483648 ≤ z2 ∧ z2 < 2147483648) (hx : x < 1 <<< S.ca) (h : ¬ (z2 = 0 ∨ z2 = 1)) : MetE l E mX7_of (1) 0 0 [.ref 0, .int (nI (x)), .int (zI (z2))] (modW 0 S X K) (MP S K (X.lt) (X.ty) (X.rr) (X.rn) ((up X.rf 2 (X.rf 2 + 1))) (some (.int (-2)))) := by
  refine MetE.of (by decide +kernel) (Nat.le_of_ble_eq_true rfl) ?_
  have hca := hS.1
  have hpw := pow_ca hS
  have hac := ac_lt hS
  have hshl := shl_le hS
  
  refine ev_eq (lv' := [(0, .ref 0), (1, .int (nI (x))), (2, .int (zI (z2)))]) (st' := []) (w' := modW 0 S X K) rfl rfl rfl ?_
  refine ev_b bX7_of_0_1 (lv' := [(0, .ref 0), (1, .int (nI (x))), (2, .int (zI (z2)))]) (st' := [.int (nI (x))]) (w2 := modW 0 S X K) rfl ?_
  refine ev_if_ge_n (tgt := 11) (by omega) dX7_of_1 (by decide) (fun h1 => ?_) (fun h1 => (by exfalso; omega))
  refine ev_b bX7_of_11_17 (lv' := [(0, .ref 0), (1, .int (nI (x))), (2, .int (zI (z2)))]) (st' := [.int (nI (S.ca)), .int (nI (1)), .int (nI (x))]) (w2 := modW 0 S X K) rfl ?_
  refine ev_ishl_n (by omega) dX7_of_17 ?_
  refine ev_icmp_lt_n (tgt := 28) (by omega) (by omega) dX7_of_18 (by decide) (fun h18 => ?_) (fun h18 => (by exfalso; omega))
  refine ev_b bX7_of_28_31 (lv' := [(0, .ref 0), (1, .int (nI (x))), (2, .int (zI (z2)))]) (st' := [.int (nI (1)), .int (nI (0)), .int (zI (z2))]) (w2 := modW 0 S X K) rfl ?_
  refine ev_callS (Yc := mX7_isIn) [] dX7_of_31 tw_1036 kX7_isIn (m_X7_isIn_z z2 0 1 rz2 (by decide) (by decide)) rfl (st := []) rfl (by decide) rfl (by decide) (Nat.le_of_ble_eq_true rfl) (Nat.le_refl _) (Nat.le_refl _) (fun r w' h => by obtain ⟨-, rfl⟩ := h; exact Nat.le_of_ble_eq_true rfl) ?_
  rintro _ _ ⟨rfl, rfl⟩
  refine ev_eq (lv' := [(0, .ref 0), (1, .int (nI (x))), (2, .int (zI (z2)))]) (st' := [.int (nI (b01 (((0 : Nat) : Int) ≤ z2 ∧ z2 ≤ ((1 : Nat) : Int))))]) (w' := modW 0 S X K) rfl rfl rfl ?_
  refine ev_ifne_b (tgt := 44) dX7_of_34 (by decide) (fun h34 => (by exfalso; omega)) (fun h34 => ?_)
  refine ev_b bX7_of_37_40 (lv' := [(0, .ref 0), (1, .int (nI (x))), (2, .int (zI (z2)))]) (st' := [.int (-2), .ref 0]) (w2 := modW 0 S X K) rfl ?_
  refine ev_callM (Yc := mX7_refuses) (st := []) dX7_of_40 tw_1012 kX7_refuses (m_X7_refuses_2 S X K) rfl rfl rfl rfl (by decide) (Nat.le_of_ble_eq_true rfl) (Nat.le_refl _) (Nat.le_refl _) (fun r w' h => by obtain ⟨-, rfl⟩ := h; exact mod_eq) ?_
  rintro _ _ ⟨rfl, rfl⟩
  refine ev_eq (lv' := [(0, .ref 0), (1, .int (nI (x))), (2, .int (zI (z2)))]) (st' := [.int (-2)]) (w' := modW 0 S (((up X.rf 2 (X.rf 2 + 1)), X.wo, X.ta, X.ow, X.sl, X.sh, X.lt, X.ty, X.pl, X.nu, X.od, X.tt, X.oo, X.on, X.wn, X.pd, X.li, X.rr, X.rn, X.dr) : ModN) K) rfl rfl rfl ?_
  exact ev_iret dX7_of_43 rfl mod_le (Nat.le_refl _) (Nat.le_refl _) ⟨rfl, _, rfl, hM, rfl, rfl, rfl, rfl, rfl⟩
theorem bX7_of_44_46 {l : Launch} {E : XE} : Snd l E mX7_of 44 46 (xs [x_aload 0, x_iload 1]) := Snd.cons (snd_aload_n (i := 0) dX7_of_44 rfl) (Snd.cons (snd_iload_n (i := 1) dX7_of_45 rfl) Snd.nil)
theorem bX7_of_49_51 {l : Launch} {E : XE} : Snd l E mX7_of 49 51 (xs [x_istore 3, x_iload 2]) := Snd.cons (snd_istore_n (i := 3) dX7_of_49 rfl (by decide)) (Snd.cons (snd_iload_n (i := 2) dX7_of_50 rfl) Snd.nil)
theorem bX7_of_54_64 {l : Launch} {E : XE} : Snd l E mX7_of 54 64 (xs [x_iload 3, x_id]) := Snd.cons (snd_iload_n (i := 3) dX7_of_54 rfl) (Snd.cons (snd_goto (tgt := 64) dX7_of_55 (by decide)) Snd.nil)
set_option maxHeartbeats 4000000 in
set_option maxRecDepth 100000 in
theorem q_of_w0 {l : Launch} {E : XE} (S : SaleN) (X : ModN) (K : Option (Nat → Nat)) (x : Nat) (hS : SaleOK S) (hM : MOK S X) (hx : x < 1 <<< S.ca) : MetE l E mX7_of (5) 0 0 [.ref 0, .int (nI (x)), .int (nI (0))] (modW 0 S X K) (MP S K (X.lt) (X.ty) (X.rr) (X.rn) (X.rf) (some (.int (nI (winB S x))))) := by
  refine MetE.of (by decide +kernel) (Nat.le_of_ble_eq_true rfl) ?_
  have hca := hS.1
  have hpw := pow_ca hS
  have hac := ac_lt hS
  have hshl := shl_le hS
  
  refine ev_eq (lv' := [(0, .ref 0), (1, .int (nI (x))), (2, .int (nI (0)))]) (st' := []) (w' := modW 0 S X K) rfl rfl rfl ?_
  refine ev_b bX7_of_0_1 (lv' := [(0, .ref 0), (1, .int (nI (x))), (2, .int (nI (0)))]) (st' := [.int (nI (x))]) (w2 := modW 0 S X K) rfl ?_
  refine ev_if_ge_n (tgt := 11) (by omega) dX7_of_1 (by decide) (fun h1 => ?_) (fun h1 => (by exfalso; omega))
  refine ev_b bX7_of_11_17 (lv' := [(0, .ref 0), (1, .int (nI (x))), (2, .int (nI (0)))]) (st' := [.int (nI (S.ca)), .int (nI (1)), .int (nI (x))]) (w2 := modW 0 S X K) rfl ?_
  refine ev_ishl_n (by omega) dX7_of_17 ?_
  refine ev_icmp_lt_n (tgt := 28) (by omega) (by omega) dX7_of_18 (by decide) (fun h18 => ?_) (fun h18 => (by exfalso; omega))
  refine ev_b bX7_of_28_31 (lv' := [(0, .ref 0), (1, .int (nI (x))), (2, .int (nI (0)))]) (st' := [.int (nI (1)), .int (nI (0)), .int (nI (0))]) (w2 := modW 0 S X K) rfl ?_
  refine ev_callS (Yc := mX7_isIn) [] dX7_of_31 tw_1036 kX7_isIn (m_X7_isIn_n 0 0 1 (by decide) (by decide) (by decide)) rfl (st := []) rfl (by decide) rfl (by decide) (Nat.le_of_ble_eq_true rfl) (Nat.le_refl _) (Nat.le_refl _) (fun r w' h => by obtain ⟨-, rfl⟩ := h; exact Nat.le_of_ble_eq_true rfl) ?_
  rintro _ _ ⟨rfl, rfl⟩
  refine ev_eq (lv' := [(0, .ref 0), (1, .int (nI (x))), (2, .int (nI (0)))]) (st' := [.int (nI (b01 (0 ≤ 0 ∧ 0 ≤ 1)))]) (w' := modW 0 S X K) rfl rfl rfl ?_
  refine ev_ifne_b (tgt := 44) dX7_of_34 (by decide) (fun h34 => ?_) (fun h34 => (by exfalso; omega))
  refine ev_b bX7_of_44_46 (lv' := [(0, .ref 0), (1, .int (nI (x))), (2, .int (nI (0)))]) (st' := [.int (nI (x)), .ref 0]) (w2 := modW 0 S X K) rfl ?_
  refine ev_callM (Yc := mX7_winnersOf) (st := []) dX7_of_46 tw_1108 kX7_winnersOf (m_X7_winnersOf_g S S.kd S.fg X K x hS (kf_self hM.1) hM.2 (by omega)) rfl rfl rfl rfl (by decide) (Nat.le_of_ble_eq_true rfl) (Nat.le_refl _) (Nat.le_refl _) (fun r w' h => by obtain ⟨-, wo, ta, ow, rfl, -⟩ := h; exact mod_eq) ?_
  rintro _ _ ⟨rfl, wo, ta, ow, rfl, hT⟩
  refine ev_eq (lv' := [(0, .ref 0), (1, .int (nI (x))), (2, .int (nI (0)))]) (st' := [.int (nI (winB S x))]) (w' := modW 0 S ((X.rf, wo, ta, ow, 0, X.sh, X.lt, X.ty, X.pl, X.nu, X.od, X.tt, X.oo, X.on, X.wn, X.pd, X.li, X.rr, X.rn, X.dr) : ModN) K) rfl rfl rfl ?_
  have hwx := winB_lt hS x
  refine ev_b bX7_of_49_51 (lv' := [(3, .int (nI (winB S x))), (0, .ref 0), (1, .int (nI (x))), (2, .int (nI (0)))]) (st' := [.int (nI (0))]) (w2 := modW 0 S ((X.rf, wo, ta, ow, 0, X.sh, X.lt, X.ty, X.pl, X.nu, X.od, X.tt, X.oo, X.on, X.wn, X.pd, X.li, X.rr, X.rn, X.dr) : ModN) K) rfl ?_
  refine ev_if_ne_n (tgt := 58) (by decide) dX7_of_51 (by decide) (fun h51 => (by exfalso; omega)) (fun h51 => ?_)
  refine ev_b bX7_of_54_64 (lv' := [(3, .int (nI (winB S x))), (0, .ref 0), (1, .int (nI (x))), (2, .int (nI (0)))]) (st' := [.int (nI (winB S x))]) (w2 := modW 0 S ((X.rf, wo, ta, ow, 0, X.sh, X.lt, X.ty, X.pl, X.nu, X.od, X.tt, X.oo, X.on, X.wn, X.pd, X.li, X.rr, X.rn, X.dr) : ModN) K) rfl ?_
  exact ev_iret dX7_of_64 rfl mod_le (Nat.le_refl _) (Nat.le_refl _) ⟨rfl, _, rfl, mok_fresh hM.1 rfl hT, rfl, rfl, rfl, rfl, rfl⟩
theorem bX7_of_58_63 {l : Launch} {E : XE} : Snd l E mX7_of 58 63 (xs [x_aload 0, x_get 8 9, x_iload 3]) := Snd.cons (snd_aload_n (i := 0) dX7_of_58 rfl) (Snd.cons (snd_get (ci := 8) (k := 9) dX7_of_59 rfl inX7 (by decide) tw_923) (Snd.cons (snd_iload_n (i := 3) dX7_of_62 rfl) Snd.nil))
set_option maxHeartbeats 4000000 in
set_option maxRecDepth 100000 in
theorem q_of_w1 {l : Launch} {E : XE} (S : SaleN) (X : ModN) (K : Option (Nat → Nat)) (x : Nat) (hS : SaleOK S) (hM : MOK S X) (hx : x < 1 <<< S.ca) : MetE l E mX7_of (5) 0 0 [.ref 0, .int (nI (x)), .int (nI (1))] (modW 0 S X K) (MP S K (X.lt) (X.ty) (X.rr) (X.rn) (X.rf) (some (.int (nI (winW S x))))) := by
  refine MetE.of (by decide +kernel) (Nat.le_of_ble_eq_true rfl) ?_
  have hca := hS.1
  have hpw := pow_ca hS
  have hac := ac_lt hS
  have hshl := shl_le hS
  
  refine ev_eq (lv' := [(0, .ref 0), (1, .int (nI (x))), (2, .int (nI (1)))]) (st' := []) (w' := modW 0 S X K) rfl rfl rfl ?_
  refine ev_b bX7_of_0_1 (lv' := [(0, .ref 0), (1, .int (nI (x))), (2, .int (nI (1)))]) (st' := [.int (nI (x))]) (w2 := modW 0 S X K) rfl ?_
  refine ev_if_ge_n (tgt := 11) (by omega) dX7_of_1 (by decide) (fun h1 => ?_) (fun h1 => (by exfalso; omega))
  refine ev_b bX7_of_11_17 (lv' := [(0, .ref 0), (1, .int (nI (x))), (2, .int (nI (1)))]) (st' := [.int (nI (S.ca)), .int (nI (1)), .int (nI (x))]) (w2 := modW 0 S X K) rfl ?_
  refine ev_ishl_n (by omega) dX7_of_17 ?_
  refine ev_icmp_lt_n (tgt := 28) (by omega) (by omega) dX7_of_18 (by decide) (fun h18 => ?_) (fun h18 => (by exfalso; omega))
  refine ev_b bX7_of_28_31 (lv' := [(0, .ref 0), (1, .int (nI (x))), (2, .int (nI (1)))]) (st' := [.int (nI (1)), .int (nI (0)), .int (nI (1))]) (w2 := modW 0 S X K) rfl ?_
  refine ev_callS (Yc := mX7_isIn) [] dX7_of_31 tw_1036 kX7_isIn (m_X7_isIn_n 1 0 1 (by decide) (by decide) (by decide)) rfl (st := []) rfl (by decide) rfl (by decide) (Nat.le_of_ble_eq_true rfl) (Nat.le_refl _) (Nat.le_refl _) (fun r w' h => by obtain ⟨-, rfl⟩ := h; exact Nat.le_of_ble_eq_true rfl) ?_
  rintro _ _ ⟨rfl, rfl⟩
  refine ev_eq (lv' := [(0, .ref 0), (1, .int (nI (x))), (2, .int (nI (1)))]) (st' := [.int (nI (b01 (0 ≤ 1 ∧ 1 ≤ 1)))]) (w' := modW 0 S X K) rfl rfl rfl ?_
  refine ev_ifne_b (tgt := 44) dX7_of_34 (by decide) (fun h34 => ?_) (fun h34 => (by exfalso; omega))
  refine ev_b bX7_of_44_46 (lv' := [(0, .ref 0), (1, .int (nI (x))), (2, .int (nI (1)))]) (st' := [.int (nI (x)), .ref 0]) (w2 := modW 0 S X K) rfl ?_
  refine ev_callM (Yc := mX7_winnersOf) (st := []) dX7_of_46 tw_1108 kX7_winnersOf (m_X7_winnersOf_g S S.kd S.fg X K x hS (kf_self hM.1) hM.2 (by omega)) rfl rfl rfl rfl (by decide) (Nat.le_of_ble_eq_true rfl) (Nat.le_refl _) (Nat.le_refl _) (fun r w' h => by obtain ⟨-, wo, ta, ow, rfl, -⟩ := h; exact mod_eq) ?_
  rintro _ _ ⟨rfl, wo, ta, ow, rfl, hT⟩
  refine ev_eq (lv' := [(0, .ref 0), (1, .int (nI (x))), (2, .int (nI (1)))]) (st' := [.int (nI (winB S x))]) (w' := modW 0 S ((X.rf, wo, ta, ow, 0, X.sh, X.lt, X.ty, X.pl, X.nu, X.od, X.tt, X.oo, X.on, X.wn, X.pd, X.li, X.rr, X.rn, X.dr) : ModN) K) rfl rfl rfl ?_
  have hwx := winB_lt hS x
  refine ev_b bX7_of_49_51 (lv' := [(3, .int (nI (winB S x))), (0, .ref 0), (1, .int (nI (x))), (2, .int (nI (1)))]) (st' := [.int (nI (1))]) (w2 := modW 0 S ((X.rf, wo, ta, ow, 0, X.sh, X.lt, X.ty, X.pl, X.nu, X.od, X.tt, X.oo, X.on, X.wn, X.pd, X.li, X.rr, X.rn, X.dr) : ModN) K) rfl ?_
  refine ev_if_ne_n (tgt := 58) (by decide) dX7_of_51 (by decide) (fun h51 => ?_) (fun h51 => (by exfalso; omega))
  refine ev_b bX7_of_58_63 (lv' := [(3, .int (nI (winB S x))), (0, .ref 0), (1, .int (nI (x))), (2, .int (nI (1)))]) (st' := [.int (nI (winB S x)), .ref 8]) (w2 := modW 0 S ((X.rf, wo, ta, ow, 0, X.sh, X.lt, X.ty, X.pl, X.nu, X.od, X.tt, X.oo, X.on, X.wn, X.pd, X.li, X.rr, X.rn, X.dr) : ModN) K) rfl ?_
  refine ev_iald_z (f := wo) dX7_of_63 rfl (by omega) (by decide) ?_
  refine ev_top (y := (nI (winW S x))) (by rw [show wo (winB S x) = ((winW S x : Nat) : Int) from by rw [(hT _ (out_shl (win_spec hS (x)).1)).1, out_wt (win_spec hS (x)).1, (win_spec hS (x)).2.2]]; exact zI_nat _) ?_
  exact ev_iret dX7_of_64 rfl mod_le (Nat.le_refl _) (Nat.le_refl _) ⟨rfl, _, rfl, mok_fresh hM.1 rfl hT, rfl, rfl, rfl, rfl, rfl⟩
theorem bX7_without_0_2 {l : Launch} {E : XE} : Snd l E mX7_without 0 2 (xs [x_aload 0, x_iload 1]) := Snd.cons (snd_aload_n (i := 0) dX7_without_0 rfl) (Snd.cons (snd_iload_n (i := 1) dX7_without_1 rfl) Snd.nil)
theorem bX7_without_25_27 {l : Launch} {E : XE} : Snd l E mX7_without 25 27 (xs [x_aload 0, x_push (.int (-1))]) := Snd.cons (snd_aload_n (i := 0) dX7_without_25 rfl) (Snd.cons (snd_iconst (v := -1) dX7_without_26 (by decide)) Snd.nil)
set_option maxHeartbeats 4000000 in
set_option maxRecDepth 100000 in
theorem q_without_1 {l : Launch} {E : XE} (S : SaleN) (X : ModN) (K : Option (Nat → Nat)) (z1 : Int) (hS : SaleOK S) (hM : MOK S X) (rz1 : -2147483648 ≤ z1 ∧ z1 < 2147483648) (h : ¬ (0 ≤ z1 ∧ z1 < S.ca)) : MetE l E mX7_without (2) 0 0 [.ref 0, .int (zI (z1))] (modW 0 S X K) (MP S K (X.lt) (X.ty) (X.rr) (X.rn) ((up X.rf 1 (X.rf 1 + 1))) (some (.int (-1)))) := by
  refine MetE.of (by decide +kernel) (Nat.le_of_ble_eq_true rfl) ?_
  have hca := hS.1
  have hpw := pow_ca hS
  have hac := ac_lt hS
  have hshl := shl_le hS
  
  refine ev_eq (lv' := [(0, .ref 0), (1, .int (zI (z1)))]) (st' := []) (w' := modW 0 S X K) rfl rfl rfl ?_
  refine ev_b bX7_without_0_2 (lv' := [(0, .ref 0), (1, .int (zI (z1)))]) (st' := [.int (zI (z1)), .ref 0]) (w2 := modW 0 S X K) rfl ?_
  refine ev_callM (Yc := mX7_isBid) (st := []) dX7_without_2 tw_1084 kX7_isBid (m_X7_isBid_z S X K z1 hca rz1) rfl rfl rfl rfl (by decide) (Nat.le_of_ble_eq_true rfl) (Nat.le_refl _) (Nat.le_refl _) (fun r w' h => by obtain ⟨-, rfl⟩ := h; exact mod_eq) ?_
  rintro _ _ ⟨rfl, rfl⟩
  refine ev_eq (lv' := [(0, .ref 0), (1, .int (zI (z1)))]) (st' := [.int (nI (b01 (0 ≤ z1 ∧ z1 < S.ca)))]) (w' := modW 0 S X K) rfl rfl rfl ?_
  refine ev_ifeq_b (tgt := 25) dX7_without_5 (by decide) (fun h5 => ?_) (fun h5 => (by exfalso; omega))
  refine ev_b bX7_without_25_27 (lv' := [(0, .ref 0), (1, .int (zI (z1)))]) (st' := [.int (-1), .ref 0]) (w2 := modW 0 S X K) rfl ?_
  refine ev_callM (Yc := mX7_refuses) (st := []) dX7_without_27 tw_1012 kX7_refuses (m_X7_refuses_1 S X K) rfl rfl rfl rfl (by decide) (Nat.le_of_ble_eq_true rfl) (Nat.le_refl _) (Nat.le_refl _) (fun r w' h => by obtain ⟨-, rfl⟩ := h; exact mod_eq) ?_
  rintro _ _ ⟨rfl, rfl⟩
  refine ev_eq (lv' := [(0, .ref 0), (1, .int (zI (z1)))]) (st' := [.int (-1)]) (w' := modW 0 S (((up X.rf 1 (X.rf 1 + 1)), X.wo, X.ta, X.ow, X.sl, X.sh, X.lt, X.ty, X.pl, X.nu, X.od, X.tt, X.oo, X.on, X.wn, X.pd, X.li, X.rr, X.rn, X.dr) : ModN) K) rfl rfl rfl ?_
  exact ev_iret dX7_without_30 rfl mod_le (Nat.le_refl _) (Nat.le_refl _) ⟨rfl, _, rfl, hM, rfl, rfl, rfl, rfl, rfl⟩
theorem bX7_without_8_15 {l : Launch} {E : XE} : Snd l E mX7_without 8 15 (xs [x_aload 0, x_aload 0, x_get 8 7, x_push (.int (nI 1)), x_iload 1]) := Snd.cons (snd_aload_n (i := 0) dX7_without_8 rfl) (Snd.cons (snd_aload_n (i := 0) dX7_without_9 rfl) (Snd.cons (snd_get (ci := 8) (k := 7) dX7_without_10 rfl inX7 (by decide) tw_921) (Snd.cons (snd_iconst (v := nI 1) dX7_without_13 (by decide)) (Snd.cons (snd_iload_n (i := 1) dX7_without_14 rfl) Snd.nil))))
theorem bX7_without_16_18 {l : Launch} {E : XE} : Snd l E mX7_without 16 18 (xs [x_push (.int (-1)), x_i2 (fun x y => x ^^^ y)]) := Snd.cons (snd_iconst (v := -1) dX7_without_16 (by decide)) (Snd.cons (snd_ixor dX7_without_17) Snd.nil)
theorem bX7_without_22_30 {l : Launch} {E : XE} : Snd l E mX7_without 22 30 (xs [x_id]) := Snd.cons (snd_goto (tgt := 30) dX7_without_22 (by decide)) Snd.nil
set_option maxHeartbeats 4000000 in
set_option maxRecDepth 100000 in
theorem q_without_ok {l : Launch} {E : XE} (S : SaleN) (X : ModN) (K : Option (Nat → Nat)) (k : Nat) (hS : SaleOK S) (hM : MOK S X) (hk : k < S.ca) : MetE l E mX7_without (6) 0 0 [.ref 0, .int (nI (k))] (modW 0 S X K) (MP S K (X.lt) (X.ty) (X.rr) (X.rn) (X.rf) (some (.int (nI (winW S (andn 1023 (1 <<< k))))))) := by
  refine MetE.of (by decide +kernel) (Nat.le_of_ble_eq_true rfl) ?_
  have hca := hS.1
  have hpw := pow_ca hS
  have hac := ac_lt hS
  have hshl := shl_le hS
  
  refine ev_eq (lv' := [(0, .ref 0), (1, .int (nI (k)))]) (st' := []) (w' := modW 0 S X K) rfl rfl rfl ?_
  refine ev_b bX7_without_0_2 (lv' := [(0, .ref 0), (1, .int (nI (k)))]) (st' := [.int (nI (k)), .ref 0]) (w2 := modW 0 S X K) rfl ?_
  refine ev_callM (Yc := mX7_isBid) (st := []) dX7_without_2 tw_1084 kX7_isBid (m_X7_isBid_n S X K k hca (by omega)) rfl rfl rfl rfl (by decide) (Nat.le_of_ble_eq_true rfl) (Nat.le_refl _) (Nat.le_refl _) (fun r w' h => by obtain ⟨-, rfl⟩ := h; exact mod_eq) ?_
  rintro _ _ ⟨rfl, rfl⟩
  refine ev_eq (lv' := [(0, .ref 0), (1, .int (nI (k)))]) (st' := [.int (nI (b01 (k < S.ca)))]) (w' := modW 0 S X K) rfl rfl rfl ?_
  refine ev_ifeq_b (tgt := 25) dX7_without_5 (by decide) (fun h5 => (by exfalso; omega)) (fun h5 => ?_)
  refine ev_b bX7_without_8_15 (lv' := [(0, .ref 0), (1, .int (nI (k)))]) (st' := [.int (nI (k)), .int (nI (1)), .int (nI (S.ac)), .ref 0]) (w2 := modW 0 S X K) rfl ?_
  refine ev_ishl_n (by omega) dX7_without_15 ?_
  refine ev_b bX7_without_16_18 (lv' := [(0, .ref 0), (1, .int (nI (k)))]) (st' := [.int (nI (1 <<< k) ^^^ (-1)), .int (nI (S.ac)), .ref 0]) (w2 := modW 0 S X K) rfl ?_
  refine ev_iandn_n dX7_without_18 ?_
  refine ev_callM (Yc := mX7_bestOf) (st := []) dX7_without_19 tw_1167 kX7_bestOf (m_X7_bestOf_g S S.kd S.fg X K (andn S.ac (1 <<< k)) hS (kf_self hM.1) hM.2 (bits_lt hS _)) rfl rfl rfl rfl (by decide) (Nat.le_of_ble_eq_true rfl) (Nat.le_refl _) (Nat.le_refl _) (fun r w' h => by obtain ⟨-, wo, ta, ow, rfl, -⟩ := h; exact mod_eq) ?_
  rintro _ _ ⟨rfl, wo, ta, ow, rfl, hT⟩
  refine ev_eq (lv' := [(0, .ref 0), (1, .int (nI (k)))]) (st' := [.int (nI (winW S (andn S.ac (1 <<< k))))]) (w' := modW 0 S ((X.rf, wo, ta, ow, 0, X.sh, X.lt, X.ty, X.pl, X.nu, X.od, X.tt, X.oo, X.on, X.wn, X.pd, X.li, X.rr, X.rn, X.dr) : ModN) K) rfl rfl rfl ?_
  refine ev_top (y := (nI (winW S (andn 1023 (1 <<< k))))) (congrArg nI (show winW S (andn S.ac (1 <<< k)) = winW S (andn 1023 (1 <<< k)) from by exact (win_but hS _).2)) ?_
  refine ev_b bX7_without_22_30 (lv' := [(0, .ref 0), (1, .int (nI (k)))]) (st' := [.int (nI (winW S (andn 1023 (1 <<< k))))]) (w2 := modW 0 S ((X.rf, wo, ta, ow, 0, X.sh, X.lt, X.ty, X.pl, X.nu, X.od, X.tt, X.oo, X.on, X.wn, X.pd, X.li, X.rr, X.rn, X.dr) : ModN) K) rfl ?_
  exact ev_iret dX7_without_30 rfl mod_le (Nat.le_refl _) (Nat.le_refl _) ⟨rfl, _, rfl, mok_fresh hM.1 rfl hT, rfl, rfl, rfl, rfl, rfl⟩
theorem bX7_rival_0_2 {l : Launch} {E : XE} : Snd l E mX7_rival 0 2 (xs [x_aload 0, x_iload 1]) := Snd.cons (snd_aload_n (i := 0) dX7_rival_0 rfl) (Snd.cons (snd_iload_n (i := 1) dX7_rival_1 rfl) Snd.nil)
theorem bX7_rival_8_10 {l : Launch} {E : XE} : Snd l E mX7_rival 8 10 (xs [x_aload 0, x_push (.int (-1))]) := Snd.cons (snd_aload_n (i := 0) dX7_rival_8 rfl) (Snd.cons (snd_iconst (v := -1) dX7_rival_9 (by decide)) Snd.nil)
set_option maxHeartbeats 4000000 in
set_option maxRecDepth 100000 in
theorem q_rival_1 {l : Launch} {E : XE} (S : SaleN) (X : ModN) (K : Option (Nat → Nat)) (z1 z2 : Int) (hS : SaleOK S) (hM : MOK S X) (rz1 : -2147483648 ≤ z1 ∧ z1 < 2147483648) (rz2 : -2147483648 ≤ z2 ∧ z2 < 2147483648) (h : ¬ (0 ≤ z1 ∧ z1 < S.ca)) : MetE l E mX7_rival (2) 0 0 [.ref 0, .int (zI (z1)), .int (zI (z2))] (modW 0 S X K) (MP S K (X.lt) (X.ty) (X.rr) (X.rn) ((up X.rf 1 (X.rf 1 + 1))) (some (.int (-1)))) := by
  refine MetE.of (by decide +kernel) (Nat.le_of_ble_eq_true rfl) ?_
  have hca := hS.1
  have hpw := pow_ca hS
  have hac := ac_lt hS
  have hshl := shl_le hS
  
  refine ev_eq (lv' := [(0, .ref 0), (1, .int (zI (z1))), (2, .int (zI (z2)))]) (st' := []) (w' := modW 0 S X K) rfl rfl rfl ?_
  refine ev_b bX7_rival_0_2 (lv' := [(0, .ref 0), (1, .int (zI (z1))), (2, .int (zI (z2)))]) (st' := [.int (zI (z1)), .ref 0]) (w2 := modW 0 S X K) rfl ?_
  refine ev_callM (Yc := mX7_isBid) (st := []) dX7_rival_2 tw_1084 kX7_isBid (m_X7_isBid_z S X K z1 hca rz1) rfl rfl rfl rfl (by decide) (Nat.le_of_ble_eq_true rfl) (Nat.le_refl _) (Nat.le_refl _) (fun r w' h => by obtain ⟨-, rfl⟩ := h; exact mod_eq) ?_
  rintro _ _ ⟨rfl, rfl⟩
  refine ev_eq (lv' := [(0, .ref 0), (1, .int (zI (z1))), (2, .int (zI (z2)))]) (st' := [.int (nI (b01 (0 ≤ z1 ∧ z1 < S.ca)))]) (w' := modW 0 S X K) rfl rfl rfl ?_
  refine ev_ifne_b (tgt := 14) dX7_rival_5 (by decide) (fun h5 => (by exfalso; omega)) (fun h5 => ?_)
  refine ev_b bX7_rival_8_10 (lv' := [(0, .ref 0), (1, .int (zI (z1))), (2, .int (zI (z2)))]) (st' := [.int (-1), .ref 0]) (w2 := modW 0 S X K) rfl ?_
  refine ev_callM (Yc := mX7_refuses) (st := []) dX7_rival_10 tw_1012 kX7_refuses (m_X7_refuses_1 S X K) rfl rfl rfl rfl (by decide) (Nat.le_of_ble_eq_true rfl) (Nat.le_refl _) (Nat.le_refl _) (fun r w' h => by obtain ⟨-, rfl⟩ := h; exact mod_eq) ?_
  rintro _ _ ⟨rfl, rfl⟩
  refine ev_eq (lv' := [(0, .ref 0), (1, .int (zI (z1))), (2, .int (zI (z2)))]) (st' := [.int (-1)]) (w' := modW 0 S (((up X.rf 1 (X.rf 1 + 1)), X.wo, X.ta, X.ow, X.sl, X.sh, X.lt, X.ty, X.pl, X.nu, X.od, X.tt, X.oo, X.on, X.wn, X.pd, X.li, X.rr, X.rn, X.dr) : ModN) K) rfl rfl rfl ?_
  exact ev_iret dX7_rival_13 rfl mod_le (Nat.le_refl _) (Nat.le_refl _) ⟨rfl, _, rfl, hM, rfl, rfl, rfl, rfl, rfl⟩
theorem bX7_rival_14_17 {l : Launch} {E : XE} : Snd l E mX7_rival 14 17 (xs [x_iload 2, x_push (.int (nI 0)), x_push (.int (nI 2))]) := Snd.cons (snd_iload_n (i := 2) dX7_rival_14 rfl) (Snd.cons (snd_iconst (v := nI 0) dX7_rival_15 (by decide)) (Snd.cons (snd_iconst (v := nI 2) dX7_rival_16 (by decide)) Snd.nil))
theorem bX7_rival_23_26 {l : Launch} {E : XE} : Snd l E mX7_rival 23 26 (xs [x_aload 0, x_push (.int (-2))]) := Snd.cons (snd_aload_n (i := 0) dX7_rival_23 rfl) (Snd.cons (snd_bipush (v := -2) dX7_rival_24 (by decide)) Snd.nil)
set_option maxHeartbeats 4000000 in
set_option maxRecDepth 100000 in
theorem q_rival_2 {l : Launch} {E : XE} (S : SaleN) (X : ModN) (K : Option (Nat → Nat)) (k : Nat) (z2 : Int) (hS : SaleOK S) (hM : MOK S X) (rz2 : -2147483648 ≤ z2 ∧ z2 < 2147483648) (hk : k < S.ca) (h : z2 < 0 ∨ 2 < z2) : MetE l E mX7_rival (2) 0 0 [.ref 0, .int (nI (k)), .int (zI (z2))] (modW 0 S X K) (MP S K (X.lt) (X.ty) (X.rr) (X.rn) ((up X.rf 2 (X.rf 2 + 1))) (some (.int (-2)))) := by
  refine MetE.of (by decide +kernel) (Nat.le_of_ble_eq_true rfl) ?_
  have hca := hS.1
  have hpw := pow_ca hS
  have hac := ac_lt hS
  have hshl := shl_le hS
  
  refine ev_eq (lv' := [(0, .ref 0), (1, .int (nI (k))), (2, .int (zI (z2)))]) (st' := []) (w' := modW 0 S X K) rfl rfl rfl ?_
  refine ev_b bX7_rival_0_2 (lv' := [(0, .ref 0), (1, .int (nI (k))), (2, .int (zI (z2)))]) (st' := [.int (nI (k)), .ref 0]) (w2 := modW 0 S X K) rfl ?_
  refine ev_callM (Yc := mX7_isBid) (st := []) dX7_rival_2 tw_1084 kX7_isBid (m_X7_isBid_n S X K k hca (by omega)) rfl rfl rfl rfl (by decide) (Nat.le_of_ble_eq_true rfl) (Nat.le_refl _) (Nat.le_refl _) (fun r w' h => by obtain ⟨-, rfl⟩ := h; exact mod_eq) ?_
  rintro _ _ ⟨rfl, rfl⟩
  refine ev_eq (lv' := [(0, .ref 0), (1, .int (nI (k))), (2, .int (zI (z2)))]) (st' := [.int (nI (b01 (k < S.ca)))]) (w' := modW 0 S X K) rfl rfl rfl ?_
  refine ev_ifne_b (tgt := 14) dX7_rival_5 (by decide) (fun h5 => ?_) (fun h5 => (by exfalso; omega))
  refine ev_b bX7_rival_14_17 (lv' := [(0, .ref 0), (1, .int (nI (k))), (2, .int (zI (z2)))]) (st' := [.int (nI (2)), .int (nI (0)), .int (zI (z2))]) (w2 := modW 0 S X K) rfl ?_
  refine ev_callS (Yc := mX7_isIn) [] dX7_rival_17 tw_1036 kX7_isIn (m_X7_isIn_z z2 0 2 rz2 (by decide) (by decide)) rfl (st := []) rfl (by decide) rfl (by decide) (Nat.le_of_ble_eq_true rfl) (Nat.le_refl _) (Nat.le_refl _) (fun r w' h => by obtain ⟨-, rfl⟩ := h; exact Nat.le_of_ble_eq_true rfl) ?_
  rintro _ _ ⟨rfl, rfl⟩
  refine ev_eq (lv' := [(0, .ref 0), (1, .int (nI (k))), (2, .int (zI (z2)))]) (st' := [.int (nI (b01 (((0 : Nat) : Int) ≤ z2 ∧ z2 ≤ ((2 : Nat) : Int))))]) (w' := modW 0 S X K) rfl rfl rfl ?_
  refine ev_ifne_b (tgt := 30) dX7_rival_20 (by decide) (fun h20 => (by exfalso; omega)) (fun h20 => ?_)
  refine ev_b bX7_rival_23_26 (lv' := [(0, .ref 0), (1, .int (nI (k))), (2, .int (zI (z2)))]) (st' := [.int (-2), .ref 0]) (w2 := modW 0 S X K) rfl ?_
  refine ev_callM (Yc := mX7_refuses) (st := []) dX7_rival_26 tw_1012 kX7_refuses (m_X7_refuses_2 S X K) rfl rfl rfl rfl (by decide) (Nat.le_of_ble_eq_true rfl) (Nat.le_refl _) (Nat.le_refl _) (fun r w' h => by obtain ⟨-, rfl⟩ := h; exact mod_eq) ?_
  rintro _ _ ⟨rfl, rfl⟩
  refine ev_eq (lv' := [(0, .ref 0), (1, .int (nI (k))), (2, .int (zI (z2)))]) (st' := [.int (-2)]) (w' := modW 0 S (((up X.rf 2 (X.rf 2 + 1)), X.wo, X.ta, X.ow, X.sl, X.sh, X.lt, X.ty, X.pl, X.nu, X.od, X.tt, X.oo, X.on, X.wn, X.pd, X.li, X.rr, X.rn, X.dr) : ModN) K) rfl rfl rfl ?_
  exact ev_iret dX7_rival_29 rfl mod_le (Nat.le_refl _) (Nat.le_refl _) ⟨rfl, _, rfl, hM, rfl, rfl, rfl, rfl, rfl⟩
theorem bX7_rival_30_35 {l : Launch} {E : XE} : Snd l E mX7_rival 30 35 (xs [x_push (.int (nI 0)), x_istore 3, x_push (.int (nI 0)), x_istore 4]) := Snd.cons (snd_iconst (v := nI 0) dX7_rival_30 (by decide)) (Snd.cons (snd_istore_n (i := 3) dX7_rival_31 rfl (by decide)) (Snd.cons (snd_iconst (v := nI 0) dX7_rival_32 (by decide)) (Snd.cons (snd_istore dX7_rival_33 (by decide)) Snd.nil)))
theorem bX7_rival_35_41 {l : Launch} {E : XE} : Snd l E mX7_rival 35 41 (xs [x_iload 4, x_aload 0, x_get 8 6]) := Snd.cons (snd_iload dX7_rival_35) (Snd.cons (snd_aload_n (i := 0) dX7_rival_37 rfl) (Snd.cons (snd_get (ci := 8) (k := 6) dX7_rival_38 rfl inX7 (by decide) tw_920) Snd.nil))
theorem bX7_rival_96_97 {l : Launch} {E : XE} : Snd l E mX7_rival 96 97 (xs [x_iload 2]) := Snd.cons (snd_iload_n (i := 2) dX7_rival_96 rfl) Snd.nil
theorem bX7_rival_100_101 {l : Launch} {E : XE} : Snd l E mX7_rival 100 101 (xs [x_iload 3]) := Snd.cons (snd_iload_n (i := 3) dX7_rival_100 rfl) Snd.nil
theorem bX7_rival_44_48 {l : Launch} {E : XE} : Snd l E mX7_rival 44 48 (xs [x_iload 3, x_iload 4, x_iload 1]) := Snd.cons (snd_iload_n (i := 3) dX7_rival_44 rfl) (Snd.cons (snd_iload dX7_rival_45) (Snd.cons (snd_iload_n (i := 1) dX7_rival_47 rfl) Snd.nil))
theorem bX7_rival_87_88 {l : Launch} {E : XE} : Snd l E mX7_rival 87 88 (xs [x_push (.int (nI 0))]) := Snd.cons (snd_iconst (v := nI 0) dX7_rival_87 (by decide)) Snd.nil
theorem bX7_rival_89_90 {l : Launch} {E : XE} : Snd l E mX7_rival 89 90 (xs [x_istore 3]) := Snd.cons (snd_istore_n (i := 3) dX7_rival_89 rfl (by decide)) Snd.nil
theorem bX7_rival_93_35 {l : Launch} {E : XE} : Snd l E mX7_rival 93 35 (xs [x_id]) := Snd.cons (snd_goto (tgt := 35) dX7_rival_93 (by decide)) Snd.nil
theorem bX7_rival_51_57 {l : Launch} {E : XE} : Snd l E mX7_rival 51 57 (xs [x_aload 0, x_get 8 7, x_iload 4]) := Snd.cons (snd_aload_n (i := 0) dX7_rival_51 rfl) (Snd.cons (snd_get (ci := 8) (k := 7) dX7_rival_52 rfl inX7 (by decide) tw_921) (Snd.cons (snd_iload dX7_rival_55) Snd.nil))
theorem bX7_rival_63_69 {l : Launch} {E : XE} : Snd l E mX7_rival 63 69 (xs [x_aload 0, x_get 8 4, x_iload 4]) := Snd.cons (snd_aload_n (i := 0) dX7_rival_63 rfl) (Snd.cons (snd_get (ci := 8) (k := 4) dX7_rival_64 rfl inX7 (by decide) tw_918) (Snd.cons (snd_iload dX7_rival_67) Snd.nil))
theorem bX7_rival_70_75 {l : Launch} {E : XE} : Snd l E mX7_rival 70 75 (xs [x_aload 0, x_get 8 4, x_iload 1]) := Snd.cons (snd_aload_n (i := 0) dX7_rival_70 rfl) (Snd.cons (snd_get (ci := 8) (k := 4) dX7_rival_71 rfl inX7 (by decide) tw_918) (Snd.cons (snd_iload_n (i := 1) dX7_rival_74 rfl) Snd.nil))
theorem bX7_rival_80_83 {l : Launch} {E : XE} : Snd l E mX7_rival 80 83 (xs [x_push (.int (nI 1)), x_iload 4]) := Snd.cons (snd_iconst (v := nI 1) dX7_rival_80 (by decide)) (Snd.cons (snd_iload dX7_rival_81) Snd.nil)
theorem bX7_rival_84_88 {l : Launch} {E : XE} : Snd l E mX7_rival 84 88 (xs [x_id]) := Snd.cons (snd_goto (tgt := 88) dX7_rival_84 (by decide)) Snd.nil
set_option maxHeartbeats 4000000 in
set_option maxRecDepth 100000 in
theorem q_rival_w0 {l : Launch} {E : XE} (S : SaleN) (X : ModN) (K : Option (Nat → Nat)) (k : Nat) (hS : SaleOK S) (hM : MOK S X) (hk : k < S.ca) : MetE l E mX7_rival (2) 0 0 [.ref 0, .int (nI (k)), .int (nI (0))] (modW 0 S X K) (MP S K (X.lt) (X.ty) (X.rr) (X.rn) (X.rf) (some (.int (nI (andn (hdTo S.st (S.st k) S.ca &&& S.ac) (1 <<< k)))))) := by
  refine MetE.of (by decide +kernel) (Nat.le_of_ble_eq_true rfl) ?_
  have hca := hS.1
  have hpw := pow_ca hS
  have hac := ac_lt hS
  have hshl := shl_le hS
  have hst := (hS.2.2.1 k hk).2.2.1
  have hprk := (hS.2.2.1 k hk).2.2.2
  have hrvl : (andn (hdTo S.st (S.st k) S.ca &&& S.ac) (1 <<< k)) < 2147483648 := Nat.lt_of_le_of_lt (Nat.le_trans (xor_and_le _ _) Nat.and_le_right) hac
  refine ev_eq (lv' := [(0, .ref 0), (1, .int (nI (k))), (2, .int (nI (0)))]) (st' := []) (w' := modW 0 S X K) rfl rfl rfl ?_
  refine ev_b bX7_rival_0_2 (lv' := [(0, .ref 0), (1, .int (nI (k))), (2, .int (nI (0)))]) (st' := [.int (nI (k)), .ref 0]) (w2 := modW 0 S X K) rfl ?_
  refine ev_callM (Yc := mX7_isBid) (st := []) dX7_rival_2 tw_1084 kX7_isBid (m_X7_isBid_n S X K k hca (by omega)) rfl rfl rfl rfl (by decide) (Nat.le_of_ble_eq_true rfl) (Nat.le_refl _) (Nat.le_refl _) (fun r w' h => by obtain ⟨-, rfl⟩ := h; exact mod_eq) ?_
  rintro _ _ ⟨rfl, rfl⟩
  refine ev_eq (lv' := [(0, .ref 0), (1, .int (nI (k))), (2, .int (nI (0)))]) (st' := [.int (nI (b01 (k < S.ca)))]) (w' := modW 0 S X K) rfl rfl rfl ?_
  refine ev_ifne_b (tgt := 14) dX7_rival_5 (by decide) (fun h5 => ?_) (fun h5 => (by exfalso; omega))
  refine ev_b bX7_rival_14_17 (lv' := [(0, .ref 0), (1, .int (nI (k))), (2, .int (nI (0)))]) (st' := [.int (nI (2)), .int (nI (0)), .int (nI (0))]) (w2 := modW 0 S X K) rfl ?_
  refine ev_callS (Yc := mX7_isIn) [] dX7_rival_17 tw_1036 kX7_isIn (m_X7_isIn_n 0 0 2 (by decide) (by decide) (by decide)) rfl (st := []) rfl (by decide) rfl (by decide) (Nat.le_of_ble_eq_true rfl) (Nat.le_refl _) (Nat.le_refl _) (fun r w' h => by obtain ⟨-, rfl⟩ := h; exact Nat.le_of_ble_eq_true rfl) ?_
  rintro _ _ ⟨rfl, rfl⟩
  refine ev_eq (lv' := [(0, .ref 0), (1, .int (nI (k))), (2, .int (nI (0)))]) (st' := [.int (nI (b01 (0 ≤ 0 ∧ 0 ≤ 2)))]) (w' := modW 0 S X K) rfl rfl rfl ?_
  refine ev_ifne_b (tgt := 30) dX7_rival_20 (by decide) (fun h20 => ?_) (fun h20 => (by exfalso; omega))
  refine ev_b bX7_rival_30_35 (lv' := [(4, .int (nI (0))), (3, .int (nI (0))), (0, .ref 0), (1, .int (nI (k))), (2, .int (nI (0)))]) (st' := []) (w2 := modW 0 S X K) rfl ?_
  have L35 : ∀ (j_ j : Nat), j + j_ = S.ca → Ev l E mX7_rival (2) 0 0 (modW 0 S X K) (MP S K (X.lt) (X.ty) (X.rr) (X.rn) (X.rf) (some (.int (nI (andn (hdTo S.st (S.st k) S.ca &&& S.ac) (1 <<< k)))))) 0 0 35 [(4, .int (nI (j))), (3, .int (nI (andn (hdTo S.st (S.st k) j &&& S.ac) (1 <<< k)))), (0, .ref 0), (1, .int (nI (k))), (2, .int (nI (0)))] [] (modW 0 S X K) := by
    intro j_
    induction j_ with
    | zero =>
      intro j hk35  
      replace hk35 : j = S.ca := hk35
      subst hk35
      refine ev_b bX7_rival_35_41 (lv' := [(4, .int (nI (S.ca))), (3, .int (nI (andn (hdTo S.st (S.st k) S.ca &&& S.ac) (1 <<< k)))), (0, .ref 0), (1, .int (nI (k))), (2, .int (nI (0)))]) (st' := [.int (nI (S.ca)), .int (nI (S.ca))]) (w2 := modW 0 S X K) rfl ?_
      refine ev_icmp_ge_n (tgt := 96) (by omega) (by omega) dX7_rival_41 (by decide) (fun h41 => ?_) (fun h41 => (by exfalso; omega))
      refine ev_b bX7_rival_96_97 (lv' := [(4, .int (nI (S.ca))), (3, .int (nI (andn (hdTo S.st (S.st k) S.ca &&& S.ac) (1 <<< k)))), (0, .ref 0), (1, .int (nI (k))), (2, .int (nI (0)))]) (st' := [.int (nI (0))]) (w2 := modW 0 S X K) rfl ?_
      refine ev_if_ne_n (tgt := 102) (by decide) dX7_rival_97 (by decide) (fun h97 => (by exfalso; omega)) (fun h97 => ?_)
      refine ev_b bX7_rival_100_101 (lv' := [(4, .int (nI (S.ca))), (3, .int (nI (andn (hdTo S.st (S.st k) S.ca &&& S.ac) (1 <<< k)))), (0, .ref 0), (1, .int (nI (k))), (2, .int (nI (0)))]) (st' := [.int (nI (andn (hdTo S.st (S.st k) S.ca &&& S.ac) (1 <<< k)))]) (w2 := modW 0 S X K) rfl ?_
      exact ev_iret dX7_rival_101 rfl mod_le (Nat.le_refl _) (Nat.le_refl _) ⟨rfl, _, rfl, hM, rfl, rfl, rfl, rfl, rfl⟩
    | succ j_ ih35 =>
      intro j hk35  
      have hlt35 : j < S.ca := by omega
      have hst2 := (hS.2.2.1 j hlt35).2.2.1
      refine ev_b bX7_rival_35_41 (lv' := [(4, .int (nI (j))), (3, .int (nI (andn (hdTo S.st (S.st k) j &&& S.ac) (1 <<< k)))), (0, .ref 0), (1, .int (nI (k))), (2, .int (nI (0)))]) (st' := [.int (nI (S.ca)), .int (nI (j))]) (w2 := modW 0 S X K) rfl ?_
      refine ev_icmp_ge_n (tgt := 96) (by omega) (by omega) dX7_rival_41 (by decide) (fun h41 => (by exfalso; omega)) (fun h41 => ?_)
      refine ev_b bX7_rival_44_48 (lv' := [(4, .int (nI (j))), (3, .int (nI (andn (hdTo S.st (S.st k) j &&& S.ac) (1 <<< k)))), (0, .ref 0), (1, .int (nI (k))), (2, .int (nI (0)))]) (st' := [.int (nI (k)), .int (nI (j)), .int (nI (andn (hdTo S.st (S.st k) j &&& S.ac) (1 <<< k)))]) (w2 := modW 0 S X K) rfl ?_
      refine ev_icmp_eq_n (tgt := 87) (by omega) (by omega) dX7_rival_48 (by decide) (fun h48 => ?_) (fun h48 => ?_)
      · skip
        have hrs := (rv_step (S := S) (k := k) (j := j)).trans (if_neg (fun z => z.1 h48))
        refine ev_b bX7_rival_87_88 (lv' := [(4, .int (nI (j))), (3, .int (nI (andn (hdTo S.st (S.st k) j &&& S.ac) (1 <<< k)))), (0, .ref 0), (1, .int (nI (k))), (2, .int (nI (0)))]) (st' := [.int (nI (0)), .int (nI (andn (hdTo S.st (S.st k) j &&& S.ac) (1 <<< k)))]) (w2 := modW 0 S X K) rfl ?_
        refine ev_ior_n dX7_rival_88 ?_
        refine ev_b bX7_rival_89_90 (lv' := [(3, .int (nI ((andn (hdTo S.st (S.st k) j &&& S.ac) (1 <<< k)) ||| 0))), (4, .int (nI (j))), (0, .ref 0), (1, .int (nI (k))), (2, .int (nI (0)))]) (st' := []) (w2 := modW 0 S X K) rfl ?_
        refine ev_iinc_n (x := j) (v := 1) dX7_rival_90 rfl (by decide) ?_
        refine ev_eq (lv' := [(4, .int (nI (j + 1))), (3, .int (nI ((andn (hdTo S.st (S.st k) j &&& S.ac) (1 <<< k)) ||| 0))), (0, .ref 0), (1, .int (nI (k))), (2, .int (nI (0)))]) rfl rfl rfl ?_
        refine ev_b bX7_rival_93_35 (lv' := [(4, .int (nI (j + 1))), (3, .int (nI ((andn (hdTo S.st (S.st k) j &&& S.ac) (1 <<< k)) ||| 0))), (0, .ref 0), (1, .int (nI (k))), (2, .int (nI (0)))]) (st' := []) (w2 := modW 0 S X K) rfl ?_
        rw [show nI (j + 1) = nI ((j + 1)) from congrArg nI (by omega)]
        rw [show nI ((andn (hdTo S.st (S.st k) j &&& S.ac) (1 <<< k)) ||| 0) = nI (andn (hdTo S.st (S.st k) (j + 1) &&& S.ac) (1 <<< k)) from congrArg nI (by first | (rw [hrs, Nat.or_zero]) | rw [hrs])]
        exact ih35 (j + 1) (by omega) 
      · skip
        refine ev_b bX7_rival_51_57 (lv' := [(4, .int (nI (j))), (3, .int (nI (andn (hdTo S.st (S.st k) j &&& S.ac) (1 <<< k)))), (0, .ref 0), (1, .int (nI (k))), (2, .int (nI (0)))]) (st' := [.int (nI (j)), .int (nI (S.ac)), .int (nI (andn (hdTo S.st (S.st k) j &&& S.ac) (1 <<< k)))]) (w2 := modW 0 S X K) rfl ?_
        refine ev_callS (Yc := mX7_has) [] dX7_rival_57 tw_1057 kX7_has (m_X7_has S.ac j hac (by omega)) rfl (st := [.int (nI (andn (hdTo S.st (S.st k) j &&& S.ac) (1 <<< k)))]) rfl (by decide) rfl (by decide) (Nat.le_of_ble_eq_true rfl) (Nat.le_refl _) (Nat.le_refl _) (fun r w' h => by obtain ⟨-, rfl⟩ := h; exact Nat.le_of_ble_eq_true rfl) ?_
        rintro _ _ ⟨rfl, rfl⟩
        refine ev_eq (lv' := [(4, .int (nI (j))), (3, .int (nI (andn (hdTo S.st (S.st k) j &&& S.ac) (1 <<< k)))), (0, .ref 0), (1, .int (nI (k))), (2, .int (nI (0)))]) (st' := [.int (nI (b01 (S.ac.testBit j = true))), .int (nI (andn (hdTo S.st (S.st k) j &&& S.ac) (1 <<< k)))]) (w' := modW 0 S X K) rfl rfl rfl ?_
        refine ev_ifeq_b (tgt := 87) dX7_rival_60 (by decide) (fun h60 => ?_) (fun h60 => ?_)
        · skip
          have hrs := (rv_step (S := S) (k := k) (j := j)).trans (if_neg (fun z => h60 z.2.1))
          refine ev_b bX7_rival_87_88 (lv' := [(4, .int (nI (j))), (3, .int (nI (andn (hdTo S.st (S.st k) j &&& S.ac) (1 <<< k)))), (0, .ref 0), (1, .int (nI (k))), (2, .int (nI (0)))]) (st' := [.int (nI (0)), .int (nI (andn (hdTo S.st (S.st k) j &&& S.ac) (1 <<< k)))]) (w2 := modW 0 S X K) rfl ?_
          refine ev_ior_n dX7_rival_88 ?_
          refine ev_b bX7_rival_89_90 (lv' := [(3, .int (nI ((andn (hdTo S.st (S.st k) j &&& S.ac) (1 <<< k)) ||| 0))), (4, .int (nI (j))), (0, .ref 0), (1, .int (nI (k))), (2, .int (nI (0)))]) (st' := []) (w2 := modW 0 S X K) rfl ?_
          refine ev_iinc_n (x := j) (v := 1) dX7_rival_90 rfl (by decide) ?_
          refine ev_eq (lv' := [(4, .int (nI (j + 1))), (3, .int (nI ((andn (hdTo S.st (S.st k) j &&& S.ac) (1 <<< k)) ||| 0))), (0, .ref 0), (1, .int (nI (k))), (2, .int (nI (0)))]) rfl rfl rfl ?_
          refine ev_b bX7_rival_93_35 (lv' := [(4, .int (nI (j + 1))), (3, .int (nI ((andn (hdTo S.st (S.st k) j &&& S.ac) (1 <<< k)) ||| 0))), (0, .ref 0), (1, .int (nI (k))), (2, .int (nI (0)))]) (st' := []) (w2 := modW 0 S X K) rfl ?_
          rw [show nI (j + 1) = nI ((j + 1)) from congrArg nI (by omega)]
          rw [show nI ((andn (hdTo S.st (S.st k) j &&& S.ac) (1 <<< k)) ||| 0) = nI (andn (hdTo S.st (S.st k) (j + 1) &&& S.ac) (1 <<< k)) from congrArg nI (by first | (rw [hrs, Nat.or_zero]) | rw [hrs])]
          exact ih35 (j + 1) (by omega) 
        · skip
          refine ev_b bX7_rival_63_69 (lv' := [(4, .int (nI (j))), (3, .int (nI (andn (hdTo S.st (S.st k) j &&& S.ac) (1 <<< k)))), (0, .ref 0), (1, .int (nI (k))), (2, .int (nI (0)))]) (st' := [.int (nI (j)), .ref 5, .int (nI (andn (hdTo S.st (S.st k) j &&& S.ac) (1 <<< k)))]) (w2 := modW 0 S X K) rfl ?_
          refine ev_iald_n (f := S.st) dX7_rival_69 rfl (by omega) (by decide) ?_
          refine ev_b bX7_rival_70_75 (lv' := [(4, .int (nI (j))), (3, .int (nI (andn (hdTo S.st (S.st k) j &&& S.ac) (1 <<< k)))), (0, .ref 0), (1, .int (nI (k))), (2, .int (nI (0)))]) (st' := [.int (nI (k)), .ref 5, .int (nI (S.st j)), .int (nI (andn (hdTo S.st (S.st k) j &&& S.ac) (1 <<< k)))]) (w2 := modW 0 S X K) rfl ?_
          refine ev_iald_n (f := S.st) dX7_rival_75 rfl (by omega) (by decide) ?_
          refine ev_iand_n dX7_rival_76 ?_
          refine ev_if_eq_n (tgt := 87) (by exact Nat.lt_of_le_of_lt Nat.and_le_right (by omega)) dX7_rival_77 (by decide) (fun h77 => ?_) (fun h77 => ?_)
          · skip
            have hrs := (rv_step (S := S) (k := k) (j := j)).trans (if_neg (fun z => z.2.2 h77))
            refine ev_b bX7_rival_87_88 (lv' := [(4, .int (nI (j))), (3, .int (nI (andn (hdTo S.st (S.st k) j &&& S.ac) (1 <<< k)))), (0, .ref 0), (1, .int (nI (k))), (2, .int (nI (0)))]) (st' := [.int (nI (0)), .int (nI (andn (hdTo S.st (S.st k) j &&& S.ac) (1 <<< k)))]) (w2 := modW 0 S X K) rfl ?_
            refine ev_ior_n dX7_rival_88 ?_
            refine ev_b bX7_rival_89_90 (lv' := [(3, .int (nI ((andn (hdTo S.st (S.st k) j &&& S.ac) (1 <<< k)) ||| 0))), (4, .int (nI (j))), (0, .ref 0), (1, .int (nI (k))), (2, .int (nI (0)))]) (st' := []) (w2 := modW 0 S X K) rfl ?_
            refine ev_iinc_n (x := j) (v := 1) dX7_rival_90 rfl (by decide) ?_
            refine ev_eq (lv' := [(4, .int (nI (j + 1))), (3, .int (nI ((andn (hdTo S.st (S.st k) j &&& S.ac) (1 <<< k)) ||| 0))), (0, .ref 0), (1, .int (nI (k))), (2, .int (nI (0)))]) rfl rfl rfl ?_
            refine ev_b bX7_rival_93_35 (lv' := [(4, .int (nI (j + 1))), (3, .int (nI ((andn (hdTo S.st (S.st k) j &&& S.ac) (1 <<< k)) ||| 0))), (0, .ref 0), (1, .int (nI (k))), (2, .int (nI (0)))]) (st' := []) (w2 := modW 0 S X K) rfl ?_
            rw [show nI (j + 1) = nI ((j + 1)) from congrArg nI (by omega)]
            rw [show nI ((andn (hdTo S.st (S.st k) j &&& S.ac) (1 <<< k)) ||| 0) = nI (andn (hdTo S.st (S.st k) (j + 1) &&& S.ac) (1 <<< k)) from congrArg nI (by first | (rw [hrs, Nat.or_zero]) | rw [hrs])]
            exact ih35 (j + 1) (by omega) 
          · skip
            have hrs := (rv_step (S := S) (k := k) (j := j)).trans (if_pos ⟨h48, h60, h77⟩)
            refine ev_b bX7_rival_80_83 (lv' := [(4, .int (nI (j))), (3, .int (nI (andn (hdTo S.st (S.st k) j &&& S.ac) (1 <<< k)))), (0, .ref 0), (1, .int (nI (k))), (2, .int (nI (0)))]) (st' := [.int (nI (j)), .int (nI (1)), .int (nI (andn (hdTo S.st (S.st k) j &&& S.ac) (1 <<< k)))]) (w2 := modW 0 S X K) rfl ?_
            refine ev_ishl_n (by omega) dX7_rival_83 ?_
            refine ev_b bX7_rival_84_88 (lv' := [(4, .int (nI (j))), (3, .int (nI (andn (hdTo S.st (S.st k) j &&& S.ac) (1 <<< k)))), (0, .ref 0), (1, .int (nI (k))), (2, .int (nI (0)))]) (st' := [.int (nI (1 <<< j)), .int (nI (andn (hdTo S.st (S.st k) j &&& S.ac) (1 <<< k)))]) (w2 := modW 0 S X K) rfl ?_
            refine ev_ior_n dX7_rival_88 ?_
            refine ev_b bX7_rival_89_90 (lv' := [(3, .int (nI ((andn (hdTo S.st (S.st k) j &&& S.ac) (1 <<< k)) ||| (1 <<< j)))), (4, .int (nI (j))), (0, .ref 0), (1, .int (nI (k))), (2, .int (nI (0)))]) (st' := []) (w2 := modW 0 S X K) rfl ?_
            refine ev_iinc_n (x := j) (v := 1) dX7_rival_90 rfl (by decide) ?_
            refine ev_eq (lv' := [(4, .int (nI (j + 1))), (3, .int (nI ((andn (hdTo S.st (S.st k) j &&& S.ac) (1 <<< k)) ||| (1 <<< j)))), (0, .ref 0), (1, .int (nI (k))), (2, .int (nI (0)))]) rfl rfl rfl ?_
            refine ev_b bX7_rival_93_35 (lv' := [(4, .int (nI (j + 1))), (3, .int (nI ((andn (hdTo S.st (S.st k) j &&& S.ac) (1 <<< k)) ||| (1 <<< j)))), (0, .ref 0), (1, .int (nI (k))), (2, .int (nI (0)))]) (st' := []) (w2 := modW 0 S X K) rfl ?_
            rw [show nI (j + 1) = nI ((j + 1)) from congrArg nI (by omega)]
            rw [show nI ((andn (hdTo S.st (S.st k) j &&& S.ac) (1 <<< k)) ||| (1 <<< j)) = nI (andn (hdTo S.st (S.st k) (j + 1) &&& S.ac) (1 <<< k)) from congrArg nI (by first | (rw [hrs, Nat.or_zero]) | rw [hrs])]
            exact ih35 (j + 1) (by omega) 
  refine ev_pick (lv' := [(4, .int (nI (0))), (3, .int (nI (0))), (0, .ref 0), (1, .int (nI (k))), (2, .int (nI (0)))]) rfl ?_
  refine ev_eq (lv' := [(4, .int (nI (0))), (3, .int (nI (andn (hdTo S.st (S.st k) 0 &&& S.ac) (1 <<< k)))), (0, .ref 0), (1, .int (nI (k))), (2, .int (nI (0)))]) (by rw [← rv_0]) rfl rfl ?_
  exact L35 S.ca 0 (by omega) 
theorem bX7_rival_102_103 {l : Launch} {E : XE} : Snd l E mX7_rival 102 103 (xs [x_aload 0]) := Snd.cons (snd_aload_n (i := 0) dX7_rival_102 rfl) Snd.nil
theorem bX7_rival_106_110 {l : Launch} {E : XE} : Snd l E mX7_rival 106 110 (xs [x_istore 4, x_iload 2, x_push (.int (nI 1))]) := Snd.cons (snd_istore dX7_rival_106 (by decide)) (Snd.cons (snd_iload_n (i := 2) dX7_rival_108 rfl) (Snd.cons (snd_iconst (v := nI 1) dX7_rival_109 (by decide)) Snd.nil))
theorem bX7_rival_113_116 {l : Launch} {E : XE} : Snd l E mX7_rival 113 116 (xs [x_iload 3, x_iload 4]) := Snd.cons (snd_iload_n (i := 3) dX7_rival_113 rfl) (Snd.cons (snd_iload dX7_rival_114) Snd.nil)
set_option maxHeartbeats 4000000 in
set_option maxRecDepth 100000 in
theorem q_rival_w1 {l : Launch} {E : XE} (S : SaleN) (X : ModN) (K : Option (Nat → Nat)) (k : Nat) (hS : SaleOK S) (hM : MOK S X) (hk : k < S.ca) : MetE l E mX7_rival (6) 0 0 [.ref 0, .int (nI (k)), .int (nI (1))] (modW 0 S X K) (MP S K (X.lt) (X.ty) (X.rr) (X.rn) (X.rf) (some (.int (nI ((andn (hdTo S.st (S.st k) S.ca &&& S.ac) (1 <<< k)) &&& winB S 1023))))) := by
  refine MetE.of (by decide +kernel) (Nat.le_of_ble_eq_true rfl) ?_
  have hca := hS.1
  have hpw := pow_ca hS
  have hac := ac_lt hS
  have hshl := shl_le hS
  have hst := (hS.2.2.1 k hk).2.2.1
  have hprk := (hS.2.2.1 k hk).2.2.2
  have hrvl : (andn (hdTo S.st (S.st k) S.ca &&& S.ac) (1 <<< k)) < 2147483648 := Nat.lt_of_le_of_lt (Nat.le_trans (xor_and_le _ _) Nat.and_le_right) hac
  refine ev_eq (lv' := [(0, .ref 0), (1, .int (nI (k))), (2, .int (nI (1)))]) (st' := []) (w' := modW 0 S X K) rfl rfl rfl ?_
  refine ev_b bX7_rival_0_2 (lv' := [(0, .ref 0), (1, .int (nI (k))), (2, .int (nI (1)))]) (st' := [.int (nI (k)), .ref 0]) (w2 := modW 0 S X K) rfl ?_
  refine ev_callM (Yc := mX7_isBid) (st := []) dX7_rival_2 tw_1084 kX7_isBid (m_X7_isBid_n S X K k hca (by omega)) rfl rfl rfl rfl (by decide) (Nat.le_of_ble_eq_true rfl) (Nat.le_refl _) (Nat.le_refl _) (fun r w' h => by obtain ⟨-, rfl⟩ := h; exact mod_eq) ?_
  rintro _ _ ⟨rfl, rfl⟩
  refine ev_eq (lv' := [(0, .ref 0), (1, .int (nI (k))), (2, .int (nI (1)))]) (st' := [.int (nI (b01 (k < S.ca)))]) (w' := modW 0 S X K) rfl rfl rfl ?_
  refine ev_ifne_b (tgt := 14) dX7_rival_5 (by decide) (fun h5 => ?_) (fun h5 => (by exfalso; omega))
  refine ev_b bX7_rival_14_17 (lv' := [(0, .ref 0), (1, .int (nI (k))), (2, .int (nI (1)))]) (st' := [.int (nI (2)), .int (nI (0)), .int (nI (1))]) (w2 := modW 0 S X K) rfl ?_
  refine ev_callS (Yc := mX7_isIn) [] dX7_rival_17 tw_1036 kX7_isIn (m_X7_isIn_n 1 0 2 (by decide) (by decide) (by decide)) rfl (st := []) rfl (by decide) rfl (by decide) (Nat.le_of_ble_eq_true rfl) (Nat.le_refl _) (Nat.le_refl _) (fun r w' h => by obtain ⟨-, rfl⟩ := h; exact Nat.le_of_ble_eq_true rfl) ?_
  rintro _ _ ⟨rfl, rfl⟩
  refine ev_eq (lv' := [(0, .ref 0), (1, .int (nI (k))), (2, .int (nI (1)))]) (st' := [.int (nI (b01 (0 ≤ 1 ∧ 1 ≤ 2)))]) (w' := modW 0 S X K) rfl rfl rfl ?_
  refine ev_ifne_b (tgt := 30) dX7_rival_20 (by decide) (fun h20 => ?_) (fun h20 => (by exfalso; omega))
  refine ev_b bX7_rival_30_35 (lv' := [(4, .int (nI (0))), (3, .int (nI (0))), (0, .ref 0), (1, .int (nI (k))), (2, .int (nI (1)))]) (st' := []) (w2 := modW 0 S X K) rfl ?_
  have L35 : ∀ (j_ j : Nat), j + j_ = S.ca → Ev l E mX7_rival (6) 0 0 (modW 0 S X K) (MP S K (X.lt) (X.ty) (X.rr) (X.rn) (X.rf) (some (.int (nI ((andn (hdTo S.st (S.st k) S.ca &&& S.ac) (1 <<< k)) &&& winB S 1023))))) 0 0 35 [(4, .int (nI (j))), (3, .int (nI (andn (hdTo S.st (S.st k) j &&& S.ac) (1 <<< k)))), (0, .ref 0), (1, .int (nI (k))), (2, .int (nI (1)))] [] (modW 0 S X K) := by
    intro j_
    induction j_ with
    | zero =>
      intro j hk35  
      replace hk35 : j = S.ca := hk35
      subst hk35
      refine ev_b bX7_rival_35_41 (lv' := [(4, .int (nI (S.ca))), (3, .int (nI (andn (hdTo S.st (S.st k) S.ca &&& S.ac) (1 <<< k)))), (0, .ref 0), (1, .int (nI (k))), (2, .int (nI (1)))]) (st' := [.int (nI (S.ca)), .int (nI (S.ca))]) (w2 := modW 0 S X K) rfl ?_
      refine ev_icmp_ge_n (tgt := 96) (by omega) (by omega) dX7_rival_41 (by decide) (fun h41 => ?_) (fun h41 => (by exfalso; omega))
      refine ev_b bX7_rival_96_97 (lv' := [(4, .int (nI (S.ca))), (3, .int (nI (andn (hdTo S.st (S.st k) S.ca &&& S.ac) (1 <<< k)))), (0, .ref 0), (1, .int (nI (k))), (2, .int (nI (1)))]) (st' := [.int (nI (1))]) (w2 := modW 0 S X K) rfl ?_
      refine ev_if_ne_n (tgt := 102) (by decide) dX7_rival_97 (by decide) (fun h97 => ?_) (fun h97 => (by exfalso; omega))
      refine ev_b bX7_rival_102_103 (lv' := [(4, .int (nI (S.ca))), (3, .int (nI (andn (hdTo S.st (S.st k) S.ca &&& S.ac) (1 <<< k)))), (0, .ref 0), (1, .int (nI (k))), (2, .int (nI (1)))]) (st' := [.ref 0]) (w2 := modW 0 S X K) rfl ?_
      refine ev_callM (Yc := mX7_winnersNow) (st := []) dX7_rival_103 tw_1104 kX7_winnersNow (m_X7_winnersNow_g S S.kd S.fg X K hS (kf_self hM.1) hM.2) rfl rfl rfl rfl (by decide) (Nat.le_of_ble_eq_true rfl) (Nat.le_refl _) (Nat.le_refl _) (fun r w' h => by obtain ⟨-, wo, ta, ow, rfl, -⟩ := h; exact mod_eq) ?_
      rintro _ _ ⟨rfl, wo, ta, ow, rfl, hT⟩
      refine ev_eq (lv' := [(4, .int (nI (S.ca))), (3, .int (nI (andn (hdTo S.st (S.st k) S.ca &&& S.ac) (1 <<< k)))), (0, .ref 0), (1, .int (nI (k))), (2, .int (nI (1)))]) (st' := [.int (nI (winB S 1023))]) (w' := modW 0 S ((X.rf, wo, ta, ow, 0, X.sh, X.lt, X.ty, X.pl, X.nu, X.od, X.tt, X.oo, X.on, X.wn, X.pd, X.li, X.rr, X.rn, X.dr) : ModN) K) rfl rfl rfl ?_
      have hwb := winB_lt hS 1023
      refine ev_b bX7_rival_106_110 (lv' := [(4, .int (nI (winB S 1023))), (3, .int (nI (andn (hdTo S.st (S.st k) S.ca &&& S.ac) (1 <<< k)))), (0, .ref 0), (1, .int (nI (k))), (2, .int (nI (1)))]) (st' := [.int (nI (1)), .int (nI (1))]) (w2 := modW 0 S ((X.rf, wo, ta, ow, 0, X.sh, X.lt, X.ty, X.pl, X.nu, X.od, X.tt, X.oo, X.on, X.wn, X.pd, X.li, X.rr, X.rn, X.dr) : ModN) K) rfl ?_
      refine ev_icmp_ne_n (tgt := 118) (by decide) (by decide) dX7_rival_110 (by decide) (fun h110 => (by exfalso; omega)) (fun h110 => ?_)
      refine ev_b bX7_rival_113_116 (lv' := [(4, .int (nI (winB S 1023))), (3, .int (nI (andn (hdTo S.st (S.st k) S.ca &&& S.ac) (1 <<< k)))), (0, .ref 0), (1, .int (nI (k))), (2, .int (nI (1)))]) (st' := [.int (nI (winB S 1023)), .int (nI (andn (hdTo S.st (S.st k) S.ca &&& S.ac) (1 <<< k)))]) (w2 := modW 0 S ((X.rf, wo, ta, ow, 0, X.sh, X.lt, X.ty, X.pl, X.nu, X.od, X.tt, X.oo, X.on, X.wn, X.pd, X.li, X.rr, X.rn, X.dr) : ModN) K) rfl ?_
      refine ev_iand_n dX7_rival_116 ?_
      exact ev_iret dX7_rival_117 rfl mod_le (Nat.le_refl _) (Nat.le_refl _) ⟨rfl, _, rfl, mok_fresh hM.1 rfl hT, rfl, rfl, rfl, rfl, rfl⟩
    | succ j_ ih35 =>
      intro j hk35  
      have hlt35 : j < S.ca := by omega
      have hst2 := (hS.2.2.1 j hlt35).2.2.1
      refine ev_b bX7_rival_35_41 (lv' := [(4, .int (nI (j))), (3, .int (nI (andn (hdTo S.st (S.st k) j &&& S.ac) (1 <<< k)))), (0, .ref 0), (1, .int (nI (k))), (2, .int (nI (1)))]) (st' := [.int (nI (S.ca)), .int (nI (j))]) (w2 := modW 0 S X K) rfl ?_
      refine ev_icmp_ge_n (tgt := 96) (by omega) (by omega) dX7_rival_41 (by decide) (fun h41 => (by exfalso; omega)) (fun h41 => ?_)
      refine ev_b bX7_rival_44_48 (lv' := [(4, .int (nI (j))), (3, .int (nI (andn (hdTo S.st (S.st k) j &&& S.ac) (1 <<< k)))), (0, .ref 0), (1, .int (nI (k))), (2, .int (nI (1)))]) (st' := [.int (nI (k)), .int (nI (j)), .int (nI (andn (hdTo S.st (S.st k) j &&& S.ac) (1 <<< k)))]) (w2 := modW 0 S X K) rfl ?_
      refine ev_icmp_eq_n (tgt := 87) (by omega) (by omega) dX7_rival_48 (by decide) (fun h48 => ?_) (fun h48 => ?_)
      · skip
        have hrs := (rv_step (S := S) (k := k) (j := j)).trans (if_neg (fun z => z.1 h48))
        refine ev_b bX7_rival_87_88 (lv' := [(4, .int (nI (j))), (3, .int (nI (andn (hdTo S.st (S.st k) j &&& S.ac) (1 <<< k)))), (0, .ref 0), (1, .int (nI (k))), (2, .int (nI (1)))]) (st' := [.int (nI (0)), .int (nI (andn (hdTo S.st (S.st k) j &&& S.ac) (1 <<< k)))]) (w2 := modW 0 S X K) rfl ?_
        refine ev_ior_n dX7_rival_88 ?_
        refine ev_b bX7_rival_89_90 (lv' := [(3, .int (nI ((andn (hdTo S.st (S.st k) j &&& S.ac) (1 <<< k)) ||| 0))), (4, .int (nI (j))), (0, .ref 0), (1, .int (nI (k))), (2, .int (nI (1)))]) (st' := []) (w2 := modW 0 S X K) rfl ?_
        refine ev_iinc_n (x := j) (v := 1) dX7_rival_90 rfl (by decide) ?_
        refine ev_eq (lv' := [(4, .int (nI (j + 1))), (3, .int (nI ((andn (hdTo S.st (S.st k) j &&& S.ac) (1 <<< k)) ||| 0))), (0, .ref 0), (1, .int (nI (k))), (2, .int (nI (1)))]) rfl rfl rfl ?_
        refine ev_b bX7_rival_93_35 (lv' := [(4, .int (nI (j + 1))), (3, .int (nI ((andn (hdTo S.st (S.st k) j &&& S.ac) (1 <<< k)) ||| 0))), (0, .ref 0), (1, .int (nI (k))), (2, .int (nI (1)))]) (st' := []) (w2 := modW 0 S X K) rfl ?_
        rw [show nI (j + 1) = nI ((j + 1)) from congrArg nI (by omega)]
        rw [show nI ((andn (hdTo S.st (S.st k) j &&& S.ac) (1 <<< k)) ||| 0) = nI (andn (hdTo S.st (S.st k) (j + 1) &&& S.ac) (1 <<< k)) from congrArg nI (by first | (rw [hrs, Nat.or_zero]) | rw [hrs])]
        exact ih35 (j + 1) (by omega) 
      · skip
        refine ev_b bX7_rival_51_57 (lv' := [(4, .int (nI (j))), (3, .int (nI (andn (hdTo S.st (S.st k) j &&& S.ac) (1 <<< k)))), (0, .ref 0), (1, .int (nI (k))), (2, .int (nI (1)))]) (st' := [.int (nI (j)), .int (nI (S.ac)), .int (nI (andn (hdTo S.st (S.st k) j &&& S.ac) (1 <<< k)))]) (w2 := modW 0 S X K) rfl ?_
        refine ev_callS (Yc := mX7_has) [] dX7_rival_57 tw_1057 kX7_has (m_X7_has S.ac j hac (by omega)) rfl (st := [.int (nI (andn (hdTo S.st (S.st k) j &&& S.ac) (1 <<< k)))]) rfl (by decide) rfl (by decide) (Nat.le_of_ble_eq_true rfl) (Nat.le_refl _) (Nat.le_refl _) (fun r w' h => by obtain ⟨-, rfl⟩ := h; exact Nat.le_of_ble_eq_true rfl) ?_
        rintro _ _ ⟨rfl, rfl⟩
        refine ev_eq (lv' := [(4, .int (nI (j))), (3, .int (nI (andn (hdTo S.st (S.st k) j &&& S.ac) (1 <<< k)))), (0, .ref 0), (1, .int (nI (k))), (2, .int (nI (1)))]) (st' := [.int (nI (b01 (S.ac.testBit j = true))), .int (nI (andn (hdTo S.st (S.st k) j &&& S.ac) (1 <<< k)))]) (w' := modW 0 S X K) rfl rfl rfl ?_
        refine ev_ifeq_b (tgt := 87) dX7_rival_60 (by decide) (fun h60 => ?_) (fun h60 => ?_)
        · skip
          have hrs := (rv_step (S := S) (k := k) (j := j)).trans (if_neg (fun z => h60 z.2.1))
          refine ev_b bX7_rival_87_88 (lv' := [(4, .int (nI (j))), (3, .int (nI (andn (hdTo S.st (S.st k) j &&& S.ac) (1 <<< k)))), (0, .ref 0), (1, .int (nI (k))), (2, .int (nI (1)))]) (st' := [.int (nI (0)), .int (nI (andn (hdTo S.st (S.st k) j &&& S.ac) (1 <<< k)))]) (w2 := modW 0 S X K) rfl ?_
          refine ev_ior_n dX7_rival_88 ?_
          refine ev_b bX7_rival_89_90 (lv' := [(3, .int (nI ((andn (hdTo S.st (S.st k) j &&& S.ac) (1 <<< k)) ||| 0))), (4, .int (nI (j))), (0, .ref 0), (1, .int (nI (k))), (2, .int (nI (1)))]) (st' := []) (w2 := modW 0 S X K) rfl ?_
          refine ev_iinc_n (x := j) (v := 1) dX7_rival_90 rfl (by decide) ?_
          refine ev_eq (lv' := [(4, .int (nI (j + 1))), (3, .int (nI ((andn (hdTo S.st (S.st k) j &&& S.ac) (1 <<< k)) ||| 0))), (0, .ref 0), (1, .int (nI (k))), (2, .int (nI (1)))]) rfl rfl rfl ?_
          refine ev_b bX7_rival_93_35 (lv' := [(4, .int (nI (j + 1))), (3, .int (nI ((andn (hdTo S.st (S.st k) j &&& S.ac) (1 <<< k)) ||| 0))), (0, .ref 0), (1, .int (nI (k))), (2, .int (nI (1)))]) (st' := []) (w2 := modW 0 S X K) rfl ?_
          rw [show nI (j + 1) = nI ((j + 1)) from congrArg nI (by omega)]
          rw [show nI ((andn (hdTo S.st (S.st k) j &&& S.ac) (1 <<< k)) ||| 0) = nI (andn (hdTo S.st (S.st k) (j + 1) &&& S.ac) (1 <<< k)) from congrArg nI (by first | (rw [hrs, Nat.or_zero]) | rw [hrs])]
          exact ih35 (j + 1) (by omega) 
        · skip
          refine ev_b bX7_rival_63_69 (lv' := [(4, .int (nI (j))), (3, .int (nI (andn (hdTo S.st (S.st k) j &&& S.ac) (1 <<< k)))), (0, .ref 0), (1, .int (nI (k))), (2, .int (nI (1)))]) (st' := [.int (nI (j)), .ref 5, .int (nI (andn (hdTo S.st (S.st k) j &&& S.ac) (1 <<< k)))]) (w2 := modW 0 S X K) rfl ?_
          refine ev_iald_n (f := S.st) dX7_rival_69 rfl (by omega) (by decide) ?_
          refine ev_b bX7_rival_70_75 (lv' := [(4, .int (nI (j))), (3, .int (nI (andn (hdTo S.st (S.st k) j &&& S.ac) (1 <<< k)))), (0, .ref 0), (1, .int (nI (k))), (2, .int (nI (1)))]) (st' := [.int (nI (k)), .ref 5, .int (nI (S.st j)), .int (nI (andn (hdTo S.st (S.st k) j &&& S.ac) (1 <<< k)))]) (w2 := modW 0 S X K) rfl ?_
          refine ev_iald_n (f := S.st) dX7_rival_75 rfl (by omega) (by decide) ?_
          refine ev_iand_n dX7_rival_76 ?_
          refine ev_if_eq_n (tgt := 87) (by exact Nat.lt_of_le_of_lt Nat.and_le_right (by omega)) dX7_rival_77 (by decide) (fun h77 => ?_) (fun h77 => ?_)
          · skip
            have hrs := (rv_step (S := S) (k := k) (j := j)).trans (if_neg (fun z => z.2.2 h77))
            refine ev_b bX7_rival_87_88 (lv' := [(4, .int (nI (j))), (3, .int (nI (andn (hdTo S.st (S.st k) j &&& S.ac) (1 <<< k)))), (0, .ref 0), (1, .int (nI (k))), (2, .int (nI (1)))]) (st' := [.int (nI (0)), .int (nI (andn (hdTo S.st (S.st k) j &&& S.ac) (1 <<< k)))]) (w2 := modW 0 S X K) rfl ?_
            refine ev_ior_n dX7_rival_88 ?_
            refine ev_b bX7_rival_89_90 (lv' := [(3, .int (nI ((andn (hdTo S.st (S.st k) j &&& S.ac) (1 <<< k)) ||| 0))), (4, .int (nI (j))), (0, .ref 0), (1, .int (nI (k))), (2, .int (nI (1)))]) (st' := []) (w2 := modW 0 S X K) rfl ?_
            refine ev_iinc_n (x := j) (v := 1) dX7_rival_90 rfl (by decide) ?_
            refine ev_eq (lv' := [(4, .int (nI (j + 1))), (3, .int (nI ((andn (hdTo S.st (S.st k) j &&& S.ac) (1 <<< k)) ||| 0))), (0, .ref 0), (1, .int (nI (k))), (2, .int (nI (1)))]) rfl rfl rfl ?_
            refine ev_b bX7_rival_93_35 (lv' := [(4, .int (nI (j + 1))), (3, .int (nI ((andn (hdTo S.st (S.st k) j &&& S.ac) (1 <<< k)) ||| 0))), (0, .ref 0), (1, .int (nI (k))), (2, .int (nI (1)))]) (st' := []) (w2 := modW 0 S X K) rfl ?_
            rw [show nI (j + 1) = nI ((j + 1)) from congrArg nI (by omega)]
            rw [show nI ((andn (hdTo S.st (S.st k) j &&& S.ac) (1 <<< k)) ||| 0) = nI (andn (hdTo S.st (S.st k) (j + 1) &&& S.ac) (1 <<< k)) from congrArg nI (by first | (rw [hrs, Nat.or_zero]) | rw [hrs])]
            exact ih35 (j + 1) (by omega) 
          · skip
            have hrs := (rv_step (S := S) (k := k) (j := j)).trans (if_pos ⟨h48, h60, h77⟩)
            refine ev_b bX7_rival_80_83 (lv' := [(4, .int (nI (j))), (3, .int (nI (andn (hdTo S.st (S.st k) j &&& S.ac) (1 <<< k)))), (0, .ref 0), (1, .int (nI (k))), (2, .int (nI (1)))]) (st' := [.int (nI (j)), .int (nI (1)), .int (nI (andn (hdTo S.st (S.st k) j &&& S.ac) (1 <<< k)))]) (w2 := modW 0 S X K) rfl ?_
            refine ev_ishl_n (by omega) dX7_rival_83 ?_
            refine ev_b bX7_rival_84_88 (lv' := [(4, .int (nI (j))), (3, .int (nI (andn (hdTo S.st (S.st k) j &&& S.ac) (1 <<< k)))), (0, .ref 0), (1, .int (nI (k))), (2, .int (nI (1)))]) (st' := [.int (nI (1 <<< j)), .int (nI (andn (hdTo S.st (S.st k) j &&& S.ac) (1 <<< k)))]) (w2 := modW 0 S X K) rfl ?_
            refine ev_ior_n dX7_rival_88 ?_
            refine ev_b bX7_rival_89_90 (lv' := [(3, .int (nI ((andn (hdTo S.st (S.st k) j &&& S.ac) (1 <<< k)) ||| (1 <<< j)))), (4, .int (nI (j))), (0, .ref 0), (1, .int (nI (k))), (2, .int (nI (1)))]) (st' := []) (w2 := modW 0 S X K) rfl ?_
            refine ev_iinc_n (x := j) (v := 1) dX7_rival_90 rfl (by decide) ?_
            refine ev_eq (lv' := [(4, .int (nI (j + 1))), (3, .int (nI ((andn (hdTo S.st (S.st k) j &&& S.ac) (1 <<< k)) ||| (1 <<< j)))), (0, .ref 0), (1, .int (nI (k))), (2, .int (nI (1)))]) rfl rfl rfl ?_
            refine ev_b bX7_rival_93_35 (lv' := [(4, .int (nI (j + 1))), (3, .int (nI ((andn (hdTo S.st (S.st k) j &&& S.ac) (1 <<< k)) ||| (1 <<< j)))), (0, .ref 0), (1, .int (nI (k))), (2, .int (nI (1)))]) (st' := []) (w2 := modW 0 S X K) rfl ?_
            rw [show nI (j + 1) = nI ((j + 1)) from congrArg nI (by omega)]
            rw [show nI ((andn (hdTo S.st (S.st k) j &&& S.ac) (1 <<< k)) ||| (1 <<< j)) = nI (andn (hdTo S.st (S.st k) (j + 1) &&& S.ac) (1 <<< k)) from congrArg nI (by first | (rw [hrs, Nat.or_zero]) | rw [hrs])]
            exact ih35 (j + 1) (by omega) 
  refine ev_pick (lv' := [(4, .int (nI (0))), (3, .int (nI (0))), (0, .ref 0), (1, .int (nI (k))), (2, .int (nI (1)))]) rfl ?_
  refine ev_eq (lv' := [(4, .int (nI (0))), (3, .int (nI (andn (hdTo S.st (S.st k) 0 &&& S.ac) (1 <<< k)))), (0, .ref 0), (1, .int (nI (k))), (2, .int (nI (1)))]) (by rw [← rv_0]) rfl rfl ?_
  exact L35 S.ca 0 (by omega) 
theorem bX7_rival_118_121 {l : Launch} {E : XE} : Snd l E mX7_rival 118 121 (xs [x_iload 4, x_iload 1]) := Snd.cons (snd_iload dX7_rival_118) (Snd.cons (snd_iload_n (i := 1) dX7_rival_120 rfl) Snd.nil)
theorem bX7_rival_131_136 {l : Launch} {E : XE} : Snd l E mX7_rival 131 136 (xs [x_push (.int (nI 0)), x_aload 0, x_iload 3, x_iload 4]) := Snd.cons (snd_iconst (v := nI 0) dX7_rival_131 (by decide)) (Snd.cons (snd_aload_n (i := 0) dX7_rival_132 rfl) (Snd.cons (snd_iload_n (i := 3) dX7_rival_133 rfl) (Snd.cons (snd_iload dX7_rival_134) Snd.nil)))
theorem bX7_rival_140_145 {l : Launch} {E : XE} : Snd l E mX7_rival 140 145 (xs [x_aload 0, x_get 8 5, x_iload 1]) := Snd.cons (snd_aload_n (i := 0) dX7_rival_140 rfl) (Snd.cons (snd_get (ci := 8) (k := 5) dX7_rival_141 rfl inX7 (by decide) tw_919) (Snd.cons (snd_iload_n (i := 1) dX7_rival_144 rfl) Snd.nil))
theorem bX7_rival_127_150 {l : Launch} {E : XE} : Snd l E mX7_rival 127 150 (xs [x_push (.int (nI 0)), x_id]) := Snd.cons (snd_iconst (v := nI 0) dX7_rival_127 (by decide)) (Snd.cons (snd_goto (tgt := 150) dX7_rival_128 (by decide)) Snd.nil)
set_option maxHeartbeats 4000000 in
set_option maxRecDepth 100000 in
theorem q_rival_w2 {l : Launch} {E : XE} (S : SaleN) (X : ModN) (K : Option (Nat → Nat)) (k : Nat) (hS : SaleOK S) (hM : MOK S X) (hk : k < S.ca) : MetE l E mX7_rival (6) 0 0 [.ref 0, .int (nI (k)), .int (nI (2))] (modW 0 S X K) (MP S K (X.lt) (X.ty) (X.rr) (X.rn) (X.rf) (some (.int (zI (max 0 (((prTo S.pr ((andn (hdTo S.st (S.st k) S.ca &&& S.ac) (1 <<< k)) &&& winB S 1023) S.ca : Nat) : Int) - ((S.pr k : Nat) : Int))))))) := by
  refine MetE.of (by decide +kernel) (Nat.le_of_ble_eq_true rfl) ?_
  have hca := hS.1
  have hpw := pow_ca hS
  have hac := ac_lt hS
  have hshl := shl_le hS
  have hst := (hS.2.2.1 k hk).2.2.1
  have hprk := (hS.2.2.1 k hk).2.2.2
  have hrvl : (andn (hdTo S.st (S.st k) S.ca &&& S.ac) (1 <<< k)) < 2147483648 := Nat.lt_of_le_of_lt (Nat.le_trans (xor_and_le _ _) Nat.and_le_right) hac
  refine ev_eq (lv' := [(0, .ref 0), (1, .int (nI (k))), (2, .int (nI (2)))]) (st' := []) (w' := modW 0 S X K) rfl rfl rfl ?_
  refine ev_b bX7_rival_0_2 (lv' := [(0, .ref 0), (1, .int (nI (k))), (2, .int (nI (2)))]) (st' := [.int (nI (k)), .ref 0]) (w2 := modW 0 S X K) rfl ?_
  refine ev_callM (Yc := mX7_isBid) (st := []) dX7_rival_2 tw_1084 kX7_isBid (m_X7_isBid_n S X K k hca (by omega)) rfl rfl rfl rfl (by decide) (Nat.le_of_ble_eq_true rfl) (Nat.le_refl _) (Nat.le_refl _) (fun r w' h => by obtain ⟨-, rfl⟩ := h; exact mod_eq) ?_
  rintro _ _ ⟨rfl, rfl⟩
  refine ev_eq (lv' := [(0, .ref 0), (1, .int (nI (k))), (2, .int (nI (2)))]) (st' := [.int (nI (b01 (k < S.ca)))]) (w' := modW 0 S X K) rfl rfl rfl ?_
  refine ev_ifne_b (tgt := 14) dX7_rival_5 (by decide) (fun h5 => ?_) (fun h5 => (by exfalso; omega))
  refine ev_b bX7_rival_14_17 (lv' := [(0, .ref 0), (1, .int (nI (k))), (2, .int (nI (2)))]) (st' := [.int (nI (2)), .int (nI (0)), .int (nI (2))]) (w2 := modW 0 S X K) rfl ?_
  refine ev_callS (Yc := mX7_isIn) [] dX7_rival_17 tw_1036 kX7_isIn (m_X7_isIn_n 2 0 2 (by decide) (by decide) (by decide)) rfl (st := []) rfl (by decide) rfl (by decide) (Nat.le_of_ble_eq_true rfl) (Nat.le_refl _) (Nat.le_refl _) (fun r w' h => by obtain ⟨-, rfl⟩ := h; exact Nat.le_of_ble_eq_true rfl) ?_
  rintro _ _ ⟨rfl, rfl⟩
  refine ev_eq (lv' := [(0, .ref 0), (1, .int (nI (k))), (2, .int (nI (2)))]) (st' := [.int (nI (b01 (0 ≤ 2 ∧ 2 ≤ 2)))]) (w' := modW 0 S X K) rfl rfl rfl ?_
  refine ev_ifne_b (tgt := 30) dX7_rival_20 (by decide) (fun h20 => ?_) (fun h20 => (by exfalso; omega))
  refine ev_b bX7_rival_30_35 (lv' := [(4, .int (nI (0))), (3, .int (nI (0))), (0, .ref 0), (1, .int (nI (k))), (2, .int (nI (2)))]) (st' := []) (w2 := modW 0 S X K) rfl ?_
  have L35 : ∀ (j_ j : Nat), j + j_ = S.ca → Ev l E mX7_rival (6) 0 0 (modW 0 S X K) (MP S K (X.lt) (X.ty) (X.rr) (X.rn) (X.rf) (some (.int (zI (max 0 (((prTo S.pr ((andn (hdTo S.st (S.st k) S.ca &&& S.ac) (1 <<< k)) &&& winB S 1023) S.ca : Nat) : Int) - ((S.pr k : Nat) : Int))))))) 0 0 35 [(4, .int (nI (j))), (3, .int (nI (andn (hdTo S.st (S.st k) j &&& S.ac) (1 <<< k)))), (0, .ref 0), (1, .int (nI (k))), (2, .int (nI (2)))] [] (modW 0 S X K) := by
    intro j_
    induction j_ with
    | zero =>
      intro j hk35  
      replace hk35 : j = S.ca := hk35
      subst hk35
      refine ev_b bX7_rival_35_41 (lv' := [(4, .int (nI (S.ca))), (3, .int (nI (andn (hdTo S.st (S.st k) S.ca &&& S.ac) (1 <<< k)))), (0, .ref 0), (1, .int (nI (k))), (2, .int (nI (2)))]) (st' := [.int (nI (S.ca)), .int (nI (S.ca))]) (w2 := modW 0 S X K) rfl ?_
      refine ev_icmp_ge_n (tgt := 96) (by omega) (by omega) dX7_rival_41 (by decide) (fun h41 => ?_) (fun h41 => (by exfalso; omega))
      refine ev_b bX7_rival_96_97 (lv' := [(4, .int (nI (S.ca))), (3, .int (nI (andn (hdTo S.st (S.st k) S.ca &&& S.ac) (1 <<< k)))), (0, .ref 0), (1, .int (nI (k))), (2, .int (nI (2)))]) (st' := [.int (nI (2))]) (w2 := modW 0 S X K) rfl ?_
      refine ev_if_ne_n (tgt := 102) (by decide) dX7_rival_97 (by decide) (fun h97 => ?_) (fun h97 => (by exfalso; omega))
      refine ev_b bX7_rival_102_103 (lv' := [(4, .int (nI (S.ca))), (3, .int (nI (andn (hdTo S.st (S.st k) S.ca &&& S.ac) (1 <<< k)))), (0, .ref 0), (1, .int (nI (k))), (2, .int (nI (2)))]) (st' := [.ref 0]) (w2 := modW 0 S X K) rfl ?_
      refine ev_callM (Yc := mX7_winnersNow) (st := []) dX7_rival_103 tw_1104 kX7_winnersNow (m_X7_winnersNow_g S S.kd S.fg X K hS (kf_self hM.1) hM.2) rfl rfl rfl rfl (by decide) (Nat.le_of_ble_eq_true rfl) (Nat.le_refl _) (Nat.le_refl _) (fun r w' h => by obtain ⟨-, wo, ta, ow, rfl, -⟩ := h; exact mod_eq) ?_
      rintro _ _ ⟨rfl, wo, ta, ow, rfl, hT⟩
      refine ev_eq (lv' := [(4, .int (nI (S.ca))), (3, .int (nI (andn (hdTo S.st (S.st k) S.ca &&& S.ac) (1 <<< k)))), (0, .ref 0), (1, .int (nI (k))), (2, .int (nI (2)))]) (st' := [.int (nI (winB S 1023))]) (w' := modW 0 S ((X.rf, wo, ta, ow, 0, X.sh, X.lt, X.ty, X.pl, X.nu, X.od, X.tt, X.oo, X.on, X.wn, X.pd, X.li, X.rr, X.rn, X.dr) : ModN) K) rfl rfl rfl ?_
      have hwb := winB_lt hS 1023
      refine ev_b bX7_rival_106_110 (lv' := [(4, .int (nI (winB S 1023))), (3, .int (nI (andn (hdTo S.st (S.st k) S.ca &&& S.ac) (1 <<< k)))), (0, .ref 0), (1, .int (nI (k))), (2, .int (nI (2)))]) (st' := [.int (nI (1)), .int (nI (2))]) (w2 := modW 0 S ((X.rf, wo, ta, ow, 0, X.sh, X.lt, X.ty, X.pl, X.nu, X.od, X.tt, X.oo, X.on, X.wn, X.pd, X.li, X.rr, X.rn, X.dr) : ModN) K) rfl ?_
      refine ev_icmp_ne_n (tgt := 118) (by decide) (by decide) dX7_rival_110 (by decide) (fun h110 => ?_) (fun h110 => (by exfalso; omega))
      refine ev_b bX7_rival_118_121 (lv' := [(4, .int (nI (winB S 1023))), (3, .int (nI (andn (hdTo S.st (S.st k) S.ca &&& S.ac) (1 <<< k)))), (0, .ref 0), (1, .int (nI (k))), (2, .int (nI (2)))]) (st' := [.int (nI (k)), .int (nI (winB S 1023))]) (w2 := modW 0 S ((X.rf, wo, ta, ow, 0, X.sh, X.lt, X.ty, X.pl, X.nu, X.od, X.tt, X.oo, X.on, X.wn, X.pd, X.li, X.rr, X.rn, X.dr) : ModN) K) rfl ?_
      refine ev_callS (Yc := mX7_has) [] dX7_rival_121 tw_1057 kX7_has (m_X7_has (winB S 1023) k (by omega) (by omega)) rfl (st := []) rfl (by decide) rfl (by decide) (Nat.le_of_ble_eq_true rfl) (Nat.le_refl _) (Nat.le_refl _) (fun r w' h => by obtain ⟨-, rfl⟩ := h; exact Nat.le_of_ble_eq_true rfl) ?_
      rintro _ _ ⟨rfl, rfl⟩
      refine ev_eq (lv' := [(4, .int (nI (winB S 1023))), (3, .int (nI (andn (hdTo S.st (S.st k) S.ca &&& S.ac) (1 <<< k)))), (0, .ref 0), (1, .int (nI (k))), (2, .int (nI (2)))]) (st' := [.int (nI (b01 ((winB S 1023).testBit k = true)))]) (w' := modW 0 S ((X.rf, wo, ta, ow, 0, X.sh, X.lt, X.ty, X.pl, X.nu, X.od, X.tt, X.oo, X.on, X.wn, X.pd, X.li, X.rr, X.rn, X.dr) : ModN) K) rfl rfl rfl ?_
      refine ev_ifeq_b (tgt := 131) dX7_rival_124 (by decide) (fun h124 => ?_) (fun h124 => ?_)
      · skip
        refine ev_b bX7_rival_131_136 (lv' := [(4, .int (nI (winB S 1023))), (3, .int (nI (andn (hdTo S.st (S.st k) S.ca &&& S.ac) (1 <<< k)))), (0, .ref 0), (1, .int (nI (k))), (2, .int (nI (2)))]) (st' := [.int (nI (winB S 1023)), .int (nI (andn (hdTo S.st (S.st k) S.ca &&& S.ac) (1 <<< k))), .ref 0, .int (nI (0))]) (w2 := modW 0 S ((X.rf, wo, ta, ow, 0, X.sh, X.lt, X.ty, X.pl, X.nu, X.od, X.tt, X.oo, X.on, X.wn, X.pd, X.li, X.rr, X.rn, X.dr) : ModN) K) rfl ?_
        refine ev_iand_n dX7_rival_136 ?_
        refine ev_callM (Yc := mX7_pricesOf) (st := [.int (nI (0))]) dX7_rival_137 tw_1159 kX7_pricesOf (m_X7_pricesOf S S.kd S.fg ((X.rf, wo, ta, ow, 0, X.sh, X.lt, X.ty, X.pl, X.nu, X.od, X.tt, X.oo, X.on, X.wn, X.pd, X.li, X.rr, X.rn, X.dr) : ModN) K ((andn (hdTo S.st (S.st k) S.ca &&& S.ac) (1 <<< k)) &&& winB S 1023) hS (Nat.lt_of_le_of_lt Nat.and_le_right (by omega))) rfl rfl rfl rfl (by decide) (Nat.le_of_ble_eq_true rfl) (Nat.le_refl _) (Nat.le_refl _) (fun r w' h => by obtain ⟨-, rfl⟩ := h; exact mod_eq) ?_
        rintro _ _ ⟨rfl, rfl⟩
        refine ev_eq (lv' := [(4, .int (nI (winB S 1023))), (3, .int (nI (andn (hdTo S.st (S.st k) S.ca &&& S.ac) (1 <<< k)))), (0, .ref 0), (1, .int (nI (k))), (2, .int (nI (2)))]) (st' := [.int (nI (prTo S.pr ((andn (hdTo S.st (S.st k) S.ca &&& S.ac) (1 <<< k)) &&& winB S 1023) S.ca)), .int (nI (0))]) (w' := modW 0 S ((X.rf, wo, ta, ow, 0, X.sh, X.lt, X.ty, X.pl, X.nu, X.od, X.tt, X.oo, X.on, X.wn, X.pd, X.li, X.rr, X.rn, X.dr) : ModN) K) rfl rfl rfl ?_
        have hprw := pr_le hS ((andn (hdTo S.st (S.st k) S.ca &&& S.ac) (1 <<< k)) &&& winB S 1023)
        refine ev_b bX7_rival_140_145 (lv' := [(4, .int (nI (winB S 1023))), (3, .int (nI (andn (hdTo S.st (S.st k) S.ca &&& S.ac) (1 <<< k)))), (0, .ref 0), (1, .int (nI (k))), (2, .int (nI (2)))]) (st' := [.int (nI (k)), .ref 6, .int (nI (prTo S.pr ((andn (hdTo S.st (S.st k) S.ca &&& S.ac) (1 <<< k)) &&& winB S 1023) S.ca)), .int (nI (0))]) (w2 := modW 0 S ((X.rf, wo, ta, ow, 0, X.sh, X.lt, X.ty, X.pl, X.nu, X.od, X.tt, X.oo, X.on, X.wn, X.pd, X.li, X.rr, X.rn, X.dr) : ModN) K) rfl ?_
        refine ev_iald_n (f := S.pr) dX7_rival_145 rfl (by omega) (by decide) ?_
        refine ev_top (y := zI (((S.pr k : Nat) : Int))) (zI_nat _).symm ?_
        refine ev_top2 (y := zI (((prTo S.pr ((andn (hdTo S.st (S.st k) S.ca &&& S.ac) (1 <<< k)) &&& winB S 1023) S.ca : Nat) : Int))) (zI_nat _).symm ?_
        refine ev_isub_z dX7_rival_146 ?_
        refine ev_top2 (y := zI (((0 : Nat) : Int))) (zI_nat _).symm ?_
        refine ev_max dX7_rival_147 tw_1187 tw_655 tw_15 tw_656 (by decide) (Nat.le_of_ble_eq_true rfl) (Nat.le_refl _) (Nat.le_refl _) ?_
        refine ev_top (z_max (by constructor <;> omega) (by constructor <;> omega)) ?_
        exact ev_iret dX7_rival_150 rfl mod_le (Nat.le_refl _) (Nat.le_refl _) ⟨by first | rfl | (rw [show (max 0 (((prTo S.pr ((andn (hdTo S.st (S.st k) S.ca &&& S.ac) (1 <<< k)) &&& winB S 1023) S.ca : Nat) : Int) - ((S.pr k : Nat) : Int)) : Int) = (0 : Int) from by rw [rv_win hS h124, prTo_zero]; omega]; exact congrArg (fun v => some (Value.int v)) (show nI 0 = zI 0 from by decide)), _, rfl, mok_fresh hM.1 rfl hT, rfl, rfl, rfl, rfl, rfl⟩
      · skip
        refine ev_b bX7_rival_127_150 (lv' := [(4, .int (nI (winB S 1023))), (3, .int (nI (andn (hdTo S.st (S.st k) S.ca &&& S.ac) (1 <<< k)))), (0, .ref 0), (1, .int (nI (k))), (2, .int (nI (2)))]) (st' := [.int (nI (0))]) (w2 := modW 0 S ((X.rf, wo, ta, ow, 0, X.sh, X.lt, X.ty, X.pl, X.nu, X.od, X.tt, X.oo, X.on, X.wn, X.pd, X.li, X.rr, X.rn, X.dr) : ModN) K) rfl ?_
        exact ev_iret dX7_rival_150 rfl mod_le (Nat.le_refl _) (Nat.le_refl _) ⟨by first | rfl | (rw [show (max 0 (((prTo S.pr ((andn (hdTo S.st (S.st k) S.ca &&& S.ac) (1 <<< k)) &&& winB S 1023) S.ca : Nat) : Int) - ((S.pr k : Nat) : Int)) : Int) = (0 : Int) from by rw [rv_win hS h124, prTo_zero]; omega]; exact congrArg (fun v => some (Value.int v)) (show nI 0 = zI 0 from by decide)), _, rfl, mok_fresh hM.1 rfl hT, rfl, rfl, rfl, rfl, rfl⟩
    | succ j_ ih35 =>
      intro j hk35  
      have hlt35 : j < S.ca := by omega
      have hst2 := (hS.2.2.1 j hlt35).2.2.1
      refine ev_b bX7_rival_35_41 (lv' := [(4, .int (nI (j))), (3, .int (nI (andn (hdTo S.st (S.st k) j &&& S.ac) (1 <<< k)))), (0, .ref 0), (1, .int (nI (k))), (2, .int (nI (2)))]) (st' := [.int (nI (S.ca)), .int (nI (j))]) (w2 := modW 0 S X K) rfl ?_
      refine ev_icmp_ge_n (tgt := 96) (by omega) (by omega) dX7_rival_41 (by decide) (fun h41 => (by exfalso; omega)) (fun h41 => ?_)
      refine ev_b bX7_rival_44_48 (lv' := [(4, .int (nI (j))), (3, .int (nI (andn (hdTo S.st (S.st k) j &&& S.ac) (1 <<< k)))), (0, .ref 0), (1, .int (nI (k))), (2, .int (nI (2)))]) (st' := [.int (nI (k)), .int (nI (j)), .int (nI (andn (hdTo S.st (S.st k) j &&& S.ac) (1 <<< k)))]) (w2 := modW 0 S X K) rfl ?_
      refine ev_icmp_eq_n (tgt := 87) (by omega) (by omega) dX7_rival_48 (by decide) (fun h48 => ?_) (fun h48 => ?_)
      · skip
        have hrs := (rv_step (S := S) (k := k) (j := j)).trans (if_neg (fun z => z.1 h48))
        refine ev_b bX7_rival_87_88 (lv' := [(4, .int (nI (j))), (3, .int (nI (andn (hdTo S.st (S.st k) j &&& S.ac) (1 <<< k)))), (0, .ref 0), (1, .int (nI (k))), (2, .int (nI (2)))]) (st' := [.int (nI (0)), .int (nI (andn (hdTo S.st (S.st k) j &&& S.ac) (1 <<< k)))]) (w2 := modW 0 S X K) rfl ?_
        refine ev_ior_n dX7_rival_88 ?_
        refine ev_b bX7_rival_89_90 (lv' := [(3, .int (nI ((andn (hdTo S.st (S.st k) j &&& S.ac) (1 <<< k)) ||| 0))), (4, .int (nI (j))), (0, .ref 0), (1, .int (nI (k))), (2, .int (nI (2)))]) (st' := []) (w2 := modW 0 S X K) rfl ?_
        refine ev_iinc_n (x := j) (v := 1) dX7_rival_90 rfl (by decide) ?_
        refine ev_eq (lv' := [(4, .int (nI (j + 1))), (3, .int (nI ((andn (hdTo S.st (S.st k) j &&& S.ac) (1 <<< k)) ||| 0))), (0, .ref 0), (1, .int (nI (k))), (2, .int (nI (2)))]) rfl rfl rfl ?_
        refine ev_b bX7_rival_93_35 (lv' := [(4, .int (nI (j + 1))), (3, .int (nI ((andn (hdTo S.st (S.st k) j &&& S.ac) (1 <<< k)) ||| 0))), (0, .ref 0), (1, .int (nI (k))), (2, .int (nI (2)))]) (st' := []) (w2 := modW 0 S X K) rfl ?_
        rw [show nI (j + 1) = nI ((j + 1)) from congrArg nI (by omega)]
        rw [show nI ((andn (hdTo S.st (S.st k) j &&& S.ac) (1 <<< k)) ||| 0) = nI (andn (hdTo S.st (S.st k) (j + 1) &&& S.ac) (1 <<< k)) from congrArg nI (by first | (rw [hrs, Nat.or_zero]) | rw [hrs])]
        exact ih35 (j + 1) (by omega) 
      · skip
        refine ev_b bX7_rival_51_57 (lv' := [(4, .int (nI (j))), (3, .int (nI (andn (hdTo S.st (S.st k) j &&& S.ac) (1 <<< k)))), (0, .ref 0), (1, .int (nI (k))), (2, .int (nI (2)))]) (st' := [.int (nI (j)), .int (nI (S.ac)), .int (nI (andn (hdTo S.st (S.st k) j &&& S.ac) (1 <<< k)))]) (w2 := modW 0 S X K) rfl ?_
        refine ev_callS (Yc := mX7_has) [] dX7_rival_57 tw_1057 kX7_has (m_X7_has S.ac j hac (by omega)) rfl (st := [.int (nI (andn (hdTo S.st (S.st k) j &&& S.ac) (1 <<< k)))]) rfl (by decide) rfl (by decide) (Nat.le_of_ble_eq_true rfl) (Nat.le_refl _) (Nat.le_refl _) (fun r w' h => by obtain ⟨-, rfl⟩ := h; exact Nat.le_of_ble_eq_true rfl) ?_
        rintro _ _ ⟨rfl, rfl⟩
        refine ev_eq (lv' := [(4, .int (nI (j))), (3, .int (nI (andn (hdTo S.st (S.st k) j &&& S.ac) (1 <<< k)))), (0, .ref 0), (1, .int (nI (k))), (2, .int (nI (2)))]) (st' := [.int (nI (b01 (S.ac.testBit j = true))), .int (nI (andn (hdTo S.st (S.st k) j &&& S.ac) (1 <<< k)))]) (w' := modW 0 S X K) rfl rfl rfl ?_
        refine ev_ifeq_b (tgt := 87) dX7_rival_60 (by decide) (fun h60 => ?_) (fun h60 => ?_)
        · skip
          have hrs := (rv_step (S := S) (k := k) (j := j)).trans (if_neg (fun z => h60 z.2.1))
          refine ev_b bX7_rival_87_88 (lv' := [(4, .int (nI (j))), (3, .int (nI (andn (hdTo S.st (S.st k) j &&& S.ac) (1 <<< k)))), (0, .ref 0), (1, .int (nI (k))), (2, .int (nI (2)))]) (st' := [.int (nI (0)), .int (nI (andn (hdTo S.st (S.st k) j &&& S.ac) (1 <<< k)))]) (w2 := modW 0 S X K) rfl ?_
          refine ev_ior_n dX7_rival_88 ?_
          refine ev_b bX7_rival_89_90 (lv' := [(3, .int (nI ((andn (hdTo S.st (S.st k) j &&& S.ac) (1 <<< k)) ||| 0))), (4, .int (nI (j))), (0, .ref 0), (1, .int (nI (k))), (2, .int (nI (2)))]) (st' := []) (w2 := modW 0 S X K) rfl ?_
          refine ev_iinc_n (x := j) (v := 1) dX7_rival_90 rfl (by decide) ?_
          refine ev_eq (lv' := [(4, .int (nI (j + 1))), (3, .int (nI ((andn (hdTo S.st (S.st k) j &&& S.ac) (1 <<< k)) ||| 0))), (0, .ref 0), (1, .int (nI (k))), (2, .int (nI (2)))]) rfl rfl rfl ?_
          refine ev_b bX7_rival_93_35 (lv' := [(4, .int (nI (j + 1))), (3, .int (nI ((andn (hdTo S.st (S.st k) j &&& S.ac) (1 <<< k)) ||| 0))), (0, .ref 0), (1, .int (nI (k))), (2, .int (nI (2)))]) (st' := []) (w2 := modW 0 S X K) rfl ?_
          rw [show nI (j + 1) = nI ((j + 1)) from congrArg nI (by omega)]
          rw [show nI ((andn (hdTo S.st (S.st k) j &&& S.ac) (1 <<< k)) ||| 0) = nI (andn (hdTo S.st (S.st k) (j + 1) &&& S.ac) (1 <<< k)) from congrArg nI (by first | (rw [hrs, Nat.or_zero]) | rw [hrs])]
          exact ih35 (j + 1) (by omega) 
        · skip
          refine ev_b bX7_rival_63_69 (lv' := [(4, .int (nI (j))), (3, .int (nI (andn (hdTo S.st (S.st k) j &&& S.ac) (1 <<< k)))), (0, .ref 0), (1, .int (nI (k))), (2, .int (nI (2)))]) (st' := [.int (nI (j)), .ref 5, .int (nI (andn (hdTo S.st (S.st k) j &&& S.ac) (1 <<< k)))]) (w2 := modW 0 S X K) rfl ?_
          refine ev_iald_n (f := S.st) dX7_rival_69 rfl (by omega) (by decide) ?_
          refine ev_b bX7_rival_70_75 (lv' := [(4, .int (nI (j))), (3, .int (nI (andn (hdTo S.st (S.st k) j &&& S.ac) (1 <<< k)))), (0, .ref 0), (1, .int (nI (k))), (2, .int (nI (2)))]) (st' := [.int (nI (k)), .ref 5, .int (nI (S.st j)), .int (nI (andn (hdTo S.st (S.st k) j &&& S.ac) (1 <<< k)))]) (w2 := modW 0 S X K) rfl ?_
          refine ev_iald_n (f := S.st) dX7_rival_75 rfl (by omega) (by decide) ?_
          refine ev_iand_n dX7_rival_76 ?_
          refine ev_if_eq_n (tgt := 87) (by exact Nat.lt_of_le_of_lt Nat.and_le_right (by omega)) dX7_rival_77 (by decide) (fun h77 => ?_) (fun h77 => ?_)
          · skip
            have hrs := (rv_step (S := S) (k := k) (j := j)).trans (if_neg (fun z => z.2.2 h77))
            refine ev_b bX7_rival_87_88 (lv' := [(4, .int (nI (j))), (3, .int (nI (andn (hdTo S.st (S.st k) j &&& S.ac) (1 <<< k)))), (0, .ref 0), (1, .int (nI (k))), (2, .int (nI (2)))]) (st' := [.int (nI (0)), .int (nI (andn (hdTo S.st (S.st k) j &&& S.ac) (1 <<< k)))]) (w2 := modW 0 S X K) rfl ?_
            refine ev_ior_n dX7_rival_88 ?_
            refine ev_b bX7_rival_89_90 (lv' := [(3, .int (nI ((andn (hdTo S.st (S.st k) j &&& S.ac) (1 <<< k)) ||| 0))), (4, .int (nI (j))), (0, .ref 0), (1, .int (nI (k))), (2, .int (nI (2)))]) (st' := []) (w2 := modW 0 S X K) rfl ?_
            refine ev_iinc_n (x := j) (v := 1) dX7_rival_90 rfl (by decide) ?_
            refine ev_eq (lv' := [(4, .int (nI (j + 1))), (3, .int (nI ((andn (hdTo S.st (S.st k) j &&& S.ac) (1 <<< k)) ||| 0))), (0, .ref 0), (1, .int (nI (k))), (2, .int (nI (2)))]) rfl rfl rfl ?_
            refine ev_b bX7_rival_93_35 (lv' := [(4, .int (nI (j + 1))), (3, .int (nI ((andn (hdTo S.st (S.st k) j &&& S.ac) (1 <<< k)) ||| 0))), (0, .ref 0), (1, .int (nI (k))), (2, .int (nI (2)))]) (st' := []) (w2 := modW 0 S X K) rfl ?_
            rw [show nI (j + 1) = nI ((j + 1)) from congrArg nI (by omega)]
            rw [show nI ((andn (hdTo S.st (S.st k) j &&& S.ac) (1 <<< k)) ||| 0) = nI (andn (hdTo S.st (S.st k) (j + 1) &&& S.ac) (1 <<< k)) from congrArg nI (by first | (rw [hrs, Nat.or_zero]) | rw [hrs])]
            exact ih35 (j + 1) (by omega) 
          · skip
            have hrs := (rv_step (S := S) (k := k) (j := j)).trans (if_pos ⟨h48, h60, h77⟩)
            refine ev_b bX7_rival_80_83 (lv' := [(4, .int (nI (j))), (3, .int (nI (andn (hdTo S.st (S.st k) j &&& S.ac) (1 <<< k)))), (0, .ref 0), (1, .int (nI (k))), (2, .int (nI (2)))]) (st' := [.int (nI (j)), .int (nI (1)), .int (nI (andn (hdTo S.st (S.st k) j &&& S.ac) (1 <<< k)))]) (w2 := modW 0 S X K) rfl ?_
            refine ev_ishl_n (by omega) dX7_rival_83 ?_
            refine ev_b bX7_rival_84_88 (lv' := [(4, .int (nI (j))), (3, .int (nI (andn (hdTo S.st (S.st k) j &&& S.ac) (1 <<< k)))), (0, .ref 0), (1, .int (nI (k))), (2, .int (nI (2)))]) (st' := [.int (nI (1 <<< j)), .int (nI (andn (hdTo S.st (S.st k) j &&& S.ac) (1 <<< k)))]) (w2 := modW 0 S X K) rfl ?_
            refine ev_ior_n dX7_rival_88 ?_
            refine ev_b bX7_rival_89_90 (lv' := [(3, .int (nI ((andn (hdTo S.st (S.st k) j &&& S.ac) (1 <<< k)) ||| (1 <<< j)))), (4, .int (nI (j))), (0, .ref 0), (1, .int (nI (k))), (2, .int (nI (2)))]) (st' := []) (w2 := modW 0 S X K) rfl ?_
            refine ev_iinc_n (x := j) (v := 1) dX7_rival_90 rfl (by decide) ?_
            refine ev_eq (lv' := [(4, .int (nI (j + 1))), (3, .int (nI ((andn (hdTo S.st (S.st k) j &&& S.ac) (1 <<< k)) ||| (1 <<< j)))), (0, .ref 0), (1, .int (nI (k))), (2, .int (nI (2)))]) rfl rfl rfl ?_
            refine ev_b bX7_rival_93_35 (lv' := [(4, .int (nI (j + 1))), (3, .int (nI ((andn (hdTo S.st (S.st k) j &&& S.ac) (1 <<< k)) ||| (1 <<< j)))), (0, .ref 0), (1, .int (nI (k))), (2, .int (nI (2)))]) (st' := []) (w2 := modW 0 S X K) rfl ?_
            rw [show nI (j + 1) = nI ((j + 1)) from congrArg nI (by omega)]
            rw [show nI ((andn (hdTo S.st (S.st k) j &&& S.ac) (1 <<< k)) ||| (1 <<< j)) = nI (andn (hdTo S.st (S.st k) (j + 1) &&& S.ac) (1 <<< k)) from congrArg nI (by first | (rw [hrs, Nat.or_zero]) | rw [hrs])]
            exact ih35 (j + 1) (by omega) 
  refine ev_pick (lv' := [(4, .int (nI (0))), (3, .int (nI (0))), (0, .ref 0), (1, .int (nI (k))), (2, .int (nI (2)))]) rfl ?_
  refine ev_eq (lv' := [(4, .int (nI (0))), (3, .int (nI (andn (hdTo S.st (S.st k) 0 &&& S.ac) (1 <<< k)))), (0, .ref 0), (1, .int (nI (k))), (2, .int (nI (2)))]) (by rw [← rv_0]) rfl rfl ?_
  exact L35 S.ca 0 (by omega) 
