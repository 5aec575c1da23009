/-! ===== the reference: its row of 48 ===== -/
def row48 (_ : Nat) (f : Nat → Nat) : AW := [.inl (0, 48, .inl (aI f))]
def row20 (_ : Nat) (f : Nat → Nat) : AW := [.inl (0, 20, .inl (aI f))]
def rowS (S : SaleN) (j : Nat) : Nat := if j < 6 then S.rs j else if j < 16 then (if (j - 6) % 2 = 0 then S.kd ((j - 6) / 2) else S.fg ((j - 6) / 2)) else if j < 46 then (if (j - 16) % 3 = 0 then S.bd ((j - 16) / 3) else if (j - 16) % 3 = 1 then S.st ((j - 16) / 3) else S.pr ((j - 16) / 3)) else if j = 46 then S.ca else S.ac
theorem rowS_rs {S : SaleN} {k : Nat} (h : k < 6) : rowS S k = S.rs k := if_pos h
theorem rowS_kd {S : SaleN} {k : Nat} (h : k < 5) : rowS S (6 + 2 * k) = S.kd k := by
  unfold rowS
  rw [if_neg (by omega), if_pos (by omega), if_pos (by omega), show (6 + 2 * k - 6) / 2 = k by omega]
theorem rowS_fg {S : SaleN} {k : Nat} (h : k < 5) : rowS S (6 + 2 * k + 1) = S.fg k := by
  unfold rowS
  rw [if_neg (by omega), if_pos (by omega), if_neg (by omega), show (6 + 2 * k + 1 - 6) / 2 = k by omega]
theorem rowS_bd {S : SaleN} {k : Nat} (h : k < 10) : rowS S (16 + 3 * k) = S.bd k := by
  unfold rowS
  rw [if_neg (by omega), if_neg (by omega), if_pos (by omega), if_pos (by omega), show (16 + 3 * k - 16) / 3 = k by omega]
theorem rowS_st {S : SaleN} {k : Nat} (h : k < 10) : rowS S (16 + 3 * k + 1) = S.st k := by
  unfold rowS
  rw [if_neg (by omega), if_neg (by omega), if_pos (by omega), if_neg (by omega), if_pos (by omega), show (16 + 3 * k + 1 - 16) / 3 = k by omega]
theorem rowS_pr {S : SaleN} {k : Nat} (h : k < 10) : rowS S (16 + 3 * k + 2) = S.pr k := by
  unfold rowS
  rw [if_neg (by omega), if_neg (by omega), if_pos (by omega), if_neg (by omega), if_neg (by omega), show (16 + 3 * k + 2 - 16) / 3 = k by omega]
theorem rowS_ca {S : SaleN} : rowS S 46 = S.ca := rfl
theorem rowS_ac {S : SaleN} : rowS S 47 = S.ac := rfl
theorem row_up {f g : Nat → Nat} {n v : Nat} (h : ∀ j, j < n → f j = g j) (hv : v = g n) : ∀ j, j < n + 1 → up f n v j = g j := by
  intro j hj
  by_cases e : j = n
  · subst e; rw [up_at]; exact hv
  · rw [up_ne e]; exact h j (by omega)
theorem bX7_rowNow_0_2 {l : Launch} {E : XE} : Snd l E mX7_rowNow 0 2 (xs [x_push (.int (nI 48))]) := Snd.cons (snd_bipush (v := nI 48) dX7_rowNow_0 (by decide)) Snd.nil
theorem bX7_rowNow_4_9 {l : Launch} {E : XE} : Snd l E mX7_rowNow 4 9 (xs [x_astore 1, x_push (.int (nI 0)), x_istore 2, x_push (.int (nI 0)), x_istore 3]) := Snd.cons (snd_astore_n (i := 1) dX7_rowNow_4 rfl (by decide)) (Snd.cons (snd_iconst (v := nI 0) dX7_rowNow_5 (by decide)) (Snd.cons (snd_istore_n (i := 2) dX7_rowNow_6 rfl (by decide)) (Snd.cons (snd_iconst (v := nI 0) dX7_rowNow_7 (by decide)) (Snd.cons (snd_istore_n (i := 3) dX7_rowNow_8 rfl (by decide)) Snd.nil))))
theorem bX7_rowNow_9_12 {l : Launch} {E : XE} : Snd l E mX7_rowNow 9 12 (xs [x_iload 3, x_push (.int (nI 6))]) := Snd.cons (snd_iload_n (i := 3) dX7_rowNow_9 rfl) (Snd.cons (snd_bipush (v := nI 6) dX7_rowNow_10 (by decide)) Snd.nil)
theorem bX7_rowNow_33_35 {l : Launch} {E : XE} : Snd l E mX7_rowNow 33 35 (xs [x_push (.int (nI 0)), x_istore 3]) := Snd.cons (snd_iconst (v := nI 0) dX7_rowNow_33 (by decide)) (Snd.cons (snd_istore_n (i := 3) dX7_rowNow_34 rfl (by decide)) Snd.nil)
theorem bX7_rowNow_35_37 {l : Launch} {E : XE} : Snd l E mX7_rowNow 35 37 (xs [x_iload 3, x_push (.int (nI 5))]) := Snd.cons (snd_iload_n (i := 3) dX7_rowNow_35 rfl) (Snd.cons (snd_iconst (v := nI 5) dX7_rowNow_36 (by decide)) Snd.nil)
theorem bX7_rowNow_70_72 {l : Launch} {E : XE} : Snd l E mX7_rowNow 70 72 (xs [x_push (.int (nI 0)), x_istore 3]) := Snd.cons (snd_iconst (v := nI 0) dX7_rowNow_70 (by decide)) (Snd.cons (snd_istore_n (i := 3) dX7_rowNow_71 rfl (by decide)) Snd.nil)
theorem bX7_rowNow_72_75 {l : Launch} {E : XE} : Snd l E mX7_rowNow 72 75 (xs [x_iload 3, x_push (.int (nI 10))]) := Snd.cons (snd_iload_n (i := 3) dX7_rowNow_72 rfl) (Snd.cons (snd_bipush (v := nI 10) dX7_rowNow_73 (by decide)) Snd.nil)
theorem bX7_rowNow_120_126 {l : Launch} {E : XE} : Snd l E mX7_rowNow 120 126 (xs [x_aload 1, x_iload 2, x_aload 0, x_get 8 6]) := Snd.cons (snd_aload_n (i := 1) dX7_rowNow_120 rfl) (Snd.cons (snd_iload_n (i := 2) dX7_rowNow_121 rfl) (Snd.cons (snd_aload_n (i := 0) dX7_rowNow_122 rfl) (Snd.cons (snd_get (ci := 8) (k := 6) dX7_rowNow_123 rfl inX7 (by decide) tw_920) Snd.nil)))
theorem bX7_rowNow_127_130 {l : Launch} {E : XE} : Snd l E mX7_rowNow 127 130 (xs [x_aload 1, x_iload 2, x_push (.int (nI 1))]) := Snd.cons (snd_aload_n (i := 1) dX7_rowNow_127 rfl) (Snd.cons (snd_iload_n (i := 2) dX7_rowNow_128 rfl) (Snd.cons (snd_iconst (v := nI 1) dX7_rowNow_129 (by decide)) Snd.nil))
theorem bX7_rowNow_131_135 {l : Launch} {E : XE} : Snd l E mX7_rowNow 131 135 (xs [x_aload 0, x_get 8 7]) := Snd.cons (snd_aload_n (i := 0) dX7_rowNow_131 rfl) (Snd.cons (snd_get (ci := 8) (k := 7) dX7_rowNow_132 rfl inX7 (by decide) tw_921) Snd.nil)
theorem bX7_rowNow_136_137 {l : Launch} {E : XE} : Snd l E mX7_rowNow 136 137 (xs [x_aload 1]) := Snd.cons (snd_aload_n (i := 1) dX7_rowNow_136 rfl) Snd.nil
theorem bX7_rowNow_78_80 {l : Launch} {E : XE} : Snd l E mX7_rowNow 78 80 (xs [x_aload 1, x_iload 2]) := Snd.cons (snd_aload_n (i := 1) dX7_rowNow_78 rfl) (Snd.cons (snd_iload_n (i := 2) dX7_rowNow_79 rfl) Snd.nil)
theorem bX7_rowNow_83_88 {l : Launch} {E : XE} : Snd l E mX7_rowNow 83 88 (xs [x_aload 0, x_get 8 3, x_iload 3]) := Snd.cons (snd_aload_n (i := 0) dX7_rowNow_83 rfl) (Snd.cons (snd_get (ci := 8) (k := 3) dX7_rowNow_84 rfl inX7 (by decide) tw_917) (Snd.cons (snd_iload_n (i := 3) dX7_rowNow_87 rfl) Snd.nil))
theorem bX7_rowNow_90_92 {l : Launch} {E : XE} : Snd l E mX7_rowNow 90 92 (xs [x_aload 1, x_iload 2]) := Snd.cons (snd_aload_n (i := 1) dX7_rowNow_90 rfl) (Snd.cons (snd_iload_n (i := 2) dX7_rowNow_91 rfl) Snd.nil)
theorem bX7_rowNow_95_100 {l : Launch} {E : XE} : Snd l E mX7_rowNow 95 100 (xs [x_aload 0, x_get 8 4, x_iload 3]) := Snd.cons (snd_aload_n (i := 0) dX7_rowNow_95 rfl) (Snd.cons (snd_get (ci := 8) (k := 4) dX7_rowNow_96 rfl inX7 (by decide) tw_918) (Snd.cons (snd_iload_n (i := 3) dX7_rowNow_99 rfl) Snd.nil))
theorem bX7_rowNow_102_104 {l : Launch} {E : XE} : Snd l E mX7_rowNow 102 104 (xs [x_aload 1, x_iload 2]) := Snd.cons (snd_aload_n (i := 1) dX7_rowNow_102 rfl) (Snd.cons (snd_iload_n (i := 2) dX7_rowNow_103 rfl) Snd.nil)
theorem bX7_rowNow_107_112 {l : Launch} {E : XE} : Snd l E mX7_rowNow 107 112 (xs [x_aload 0, x_get 8 5, x_iload 3]) := Snd.cons (snd_aload_n (i := 0) dX7_rowNow_107 rfl) (Snd.cons (snd_get (ci := 8) (k := 5) dX7_rowNow_108 rfl inX7 (by decide) tw_919) (Snd.cons (snd_iload_n (i := 3) dX7_rowNow_111 rfl) Snd.nil))
theorem bX7_rowNow_117_72 {l : Launch} {E : XE} : Snd l E mX7_rowNow 117 72 (xs [x_id]) := Snd.cons (snd_goto (tgt := 72) dX7_rowNow_117 (by decide)) Snd.nil
theorem bX7_rowNow_40_42 {l : Launch} {E : XE} : Snd l E mX7_rowNow 40 42 (xs [x_aload 1, x_iload 2]) := Snd.cons (snd_aload_n (i := 1) dX7_rowNow_40 rfl) (Snd.cons (snd_iload_n (i := 2) dX7_rowNow_41 rfl) Snd.nil)
theorem bX7_rowNow_45_50 {l : Launch} {E : XE} : Snd l E mX7_rowNow 45 50 (xs [x_aload 0, x_get 8 1, x_iload 3]) := Snd.cons (snd_aload_n (i := 0) dX7_rowNow_45 rfl) (Snd.cons (snd_get (ci := 8) (k := 1) dX7_rowNow_46 rfl inX7 (by decide) tw_915) (Snd.cons (snd_iload_n (i := 3) dX7_rowNow_49 rfl) Snd.nil))
theorem bX7_rowNow_52_54 {l : Launch} {E : XE} : Snd l E mX7_rowNow 52 54 (xs [x_aload 1, x_iload 2]) := Snd.cons (snd_aload_n (i := 1) dX7_rowNow_52 rfl) (Snd.cons (snd_iload_n (i := 2) dX7_rowNow_53 rfl) Snd.nil)
theorem bX7_rowNow_57_62 {l : Launch} {E : XE} : Snd l E mX7_rowNow 57 62 (xs [x_aload 0, x_get 8 2, x_iload 3]) := Snd.cons (snd_aload_n (i := 0) dX7_rowNow_57 rfl) (Snd.cons (snd_get (ci := 8) (k := 2) dX7_rowNow_58 rfl inX7 (by decide) tw_916) (Snd.cons (snd_iload_n (i := 3) dX7_rowNow_61 rfl) Snd.nil))
theorem bX7_rowNow_67_35 {l : Launch} {E : XE} : Snd l E mX7_rowNow 67 35 (xs [x_id]) := Snd.cons (snd_goto (tgt := 35) dX7_rowNow_67 (by decide)) Snd.nil
theorem bX7_rowNow_15_17 {l : Launch} {E : XE} : Snd l E mX7_rowNow 15 17 (xs [x_aload 1, x_iload 2]) := Snd.cons (snd_aload_n (i := 1) dX7_rowNow_15 rfl) (Snd.cons (snd_iload_n (i := 2) dX7_rowNow_16 rfl) Snd.nil)
theorem bX7_rowNow_20_25 {l : Launch} {E : XE} : Snd l E mX7_rowNow 20 25 (xs [x_aload 0, x_get 8 0, x_iload 3]) := Snd.cons (snd_aload_n (i := 0) dX7_rowNow_20 rfl) (Snd.cons (snd_get (ci := 8) (k := 0) dX7_rowNow_21 rfl inX7 (by decide) tw_914) (Snd.cons (snd_iload_n (i := 3) dX7_rowNow_24 rfl) Snd.nil))
theorem bX7_rowNow_30_9 {l : Launch} {E : XE} : Snd l E mX7_rowNow 30 9 (xs [x_id]) := Snd.cons (snd_goto (tgt := 9) dX7_rowNow_30 (by decide)) Snd.nil
set_option maxHeartbeats 4000000 in
set_option maxRecDepth 100000 in
theorem m_X7_rowNow_n {l : Launch} {E : XE} (S : SaleN) (X : ModN)  : MetE l E mX7_rowNow (0) 1 48 [.ref 0] (modW 0 S X none) (fun r w' => r = some (.ref 19) ∧ w' = modW 0 S X none ++ row48 19 ((rowS S))) := by
  refine MetE.of (by decide +kernel) (Nat.le_of_ble_eq_true rfl) ?_
  refine ev_eq (lv' := [(0, .ref 0)]) (st' := []) (w' := modW 0 S X none) rfl rfl rfl ?_
  refine ev_b bX7_rowNow_0_2 (lv' := [(0, .ref 0)]) (st' := [.int (nI (48))]) (w2 := modW 0 S X none) rfl ?_
  refine ev_newi dX7_rowNow_2 tw_69 (Nat.le_of_ble_eq_true rfl) rfl rfl rfl (Nat.le_of_ble_eq_true rfl) (Nat.le_of_ble_eq_true rfl) (Nat.le_of_ble_eq_true rfl) ?_
  refine ev_eq (st' := [.ref 19]) (w' := modW 0 S X none ++ row48 19 ((fun _ => 0))) rfl rfl rfl ?_
  refine ev_b bX7_rowNow_4_9 (lv' := [(3, .int (nI (0))), (2, .int (nI (0))), (1, .ref 19), (0, .ref 0)]) (st' := []) (w2 := modW 0 S X none ++ row48 19 ((fun _ => 0))) rfl ?_
  have L9 : ∀ (j_ k : Nat), k + j_ = 6 → ∀ (f : Nat → Nat), (∀ j, j < k → f j = rowS S j) → Ev l E mX7_rowNow (0) 1 48 (modW 0 S X none) (fun r w' => r = some (.ref 19) ∧ w' = modW 0 S X none ++ row48 19 ((rowS S))) 1 48 9 [(3, .int (nI (k))), (2, .int (nI (k))), (0, .ref 0), (1, .ref 19)] [] (modW 0 S X none ++ row48 19 f) := by
    intro j_
    induction j_ with
    | zero =>
      intro k hk9 f hinv9
      replace hk9 : k = 6 := hk9
      subst hk9
      refine ev_b bX7_rowNow_9_12 (lv' := [(3, .int (nI (6))), (2, .int (nI (6))), (0, .ref 0), (1, .ref 19)]) (st' := [.int (nI (6)), .int (nI (6))]) (w2 := modW 0 S X none ++ row48 19 f) rfl ?_
      refine ev_icmp_ge_n (tgt := 33) (by decide) (by decide) dX7_rowNow_12 (by decide) (fun h12 => ?_) (fun h12 => (by exfalso; omega))
      refine ev_b bX7_rowNow_33_35 (lv' := [(3, .int (nI (0))), (2, .int (nI (6))), (0, .ref 0), (1, .ref 19)]) (st' := []) (w2 := modW 0 S X none ++ row48 19 f) rfl ?_
      have L35 : ∀ (j_ k : Nat), k + j_ = 5 → ∀ (f2 : Nat → Nat), (∀ j, j < 6 + 2 * k → f2 j = rowS S j) → Ev l E mX7_rowNow (0) 1 48 (modW 0 S X none) (fun r w' => r = some (.ref 19) ∧ w' = modW 0 S X none ++ row48 19 ((rowS S))) 1 48 35 [(3, .int (nI (k))), (2, .int (nI (6 + 2 * k))), (0, .ref 0), (1, .ref 19)] [] (modW 0 S X none ++ row48 19 f2) := by
        intro j_
        induction j_ with
        | zero =>
          intro k hk35 f2 hinv35
          replace hk35 : k = 5 := hk35
          subst hk35
          refine ev_b bX7_rowNow_35_37 (lv' := [(3, .int (nI (5))), (2, .int (nI (6 + 2 * 5))), (0, .ref 0), (1, .ref 19)]) (st' := [.int (nI (5)), .int (nI (5))]) (w2 := modW 0 S X none ++ row48 19 f2) rfl ?_
          refine ev_icmp_ge_n (tgt := 70) (by decide) (by decide) dX7_rowNow_37 (by decide) (fun h37 => ?_) (fun h37 => (by exfalso; omega))
          refine ev_b bX7_rowNow_70_72 (lv' := [(3, .int (nI (0))), (2, .int (nI (6 + 2 * 5))), (0, .ref 0), (1, .ref 19)]) (st' := []) (w2 := modW 0 S X none ++ row48 19 f2) rfl ?_
          have L72 : ∀ (j_ k : Nat), k + j_ = 10 → ∀ (f3 : Nat → Nat), (∀ j, j < 16 + 3 * k → f3 j = rowS S j) → Ev l E mX7_rowNow (0) 1 48 (modW 0 S X none) (fun r w' => r = some (.ref 19) ∧ w' = modW 0 S X none ++ row48 19 ((rowS S))) 1 48 72 [(3, .int (nI (k))), (2, .int (nI (16 + 3 * k))), (0, .ref 0), (1, .ref 19)] [] (modW 0 S X none ++ row48 19 f3) := by
            intro j_
            induction j_ with
            | zero =>
              intro k hk72 f3 hinv72
              replace hk72 : k = 10 := hk72
              subst hk72
              refine ev_b bX7_rowNow_72_75 (lv' := [(3, .int (nI (10))), (2, .int (nI (16 + 3 * 10))), (0, .ref 0), (1, .ref 19)]) (st' := [.int (nI (10)), .int (nI (10))]) (w2 := modW 0 S X none ++ row48 19 f3) rfl ?_
              refine ev_icmp_ge_n (tgt := 120) (by decide) (by decide) dX7_rowNow_75 (by decide) (fun h75 => ?_) (fun h75 => (by exfalso; omega))
              refine ev_b bX7_rowNow_120_126 (lv' := [(3, .int (nI (10))), (2, .int (nI (16 + 3 * 10))), (0, .ref 0), (1, .ref 19)]) (st' := [.int (nI (S.ca)), .int (nI (16 + 3 * 10)), .ref 19]) (w2 := modW 0 S X none ++ row48 19 f3) rfl ?_
              refine ev_iast_n (f := f3) dX7_rowNow_126 rfl (by omega) (by decide) ?_
              refine ev_eq (w' := modW 0 S X none ++ row48 19 (up f3 (16 + 3 * 10) S.ca)) rfl rfl rfl ?_
              refine ev_b bX7_rowNow_127_130 (lv' := [(3, .int (nI (10))), (2, .int (nI (16 + 3 * 10))), (0, .ref 0), (1, .ref 19)]) (st' := [.int (nI (1)), .int (nI (16 + 3 * 10)), .ref 19]) (w2 := modW 0 S X none ++ row48 19 (up f3 (16 + 3 * 10) S.ca)) rfl ?_
              refine ev_iadd_n dX7_rowNow_130 ?_
              refine ev_b bX7_rowNow_131_135 (lv' := [(3, .int (nI (10))), (2, .int (nI (16 + 3 * 10))), (0, .ref 0), (1, .ref 19)]) (st' := [.int (nI (S.ac)), .int (nI ((16 + 3 * 10) + 1)), .ref 19]) (w2 := modW 0 S X none ++ row48 19 (up f3 (16 + 3 * 10) S.ca)) rfl ?_
              refine ev_iast_n (f := up f3 (16 + 3 * 10) S.ca) dX7_rowNow_135 rfl (by omega) (by decide) ?_
              refine ev_eq (w' := modW 0 S X none ++ row48 19 (up (up f3 (16 + 3 * 10) S.ca) ((16 + 3 * 10) + 1) S.ac)) rfl rfl rfl ?_
              refine ev_arr (b := 19) (g := aI (rowS S)) rfl (fun j hj => congrArg nI (row_up (row_up hinv72 rowS_ca.symm) rowS_ac.symm j hj)) ?_
              refine ev_eq (w' := modW 0 S X none ++ row48 19 ((rowS S))) rfl rfl rfl ?_
              refine ev_b bX7_rowNow_136_137 (lv' := [(3, .int (nI (10))), (2, .int (nI (16 + 3 * 10))), (0, .ref 0), (1, .ref 19)]) (st' := [.ref 19]) (w2 := modW 0 S X none ++ row48 19 ((rowS S))) rfl ?_
              exact ev_aret dX7_rowNow_137 rfl (Nat.le_of_ble_eq_true rfl) (Nat.le_of_ble_eq_true rfl) (Nat.le_of_ble_eq_true rfl) ⟨rfl, rfl⟩
            | succ j_ ih72 =>
              intro k hk72 f3 hinv72
              have hlt72 : k < 10 := by omega
              refine ev_b bX7_rowNow_72_75 (lv' := [(3, .int (nI (k))), (2, .int (nI (16 + 3 * k))), (0, .ref 0), (1, .ref 19)]) (st' := [.int (nI (10)), .int (nI (k))]) (w2 := modW 0 S X none ++ row48 19 f3) rfl ?_
              refine ev_icmp_ge_n (tgt := 120) (by omega) (by decide) dX7_rowNow_75 (by decide) (fun h75 => (by exfalso; omega)) (fun h75 => ?_)
              refine ev_b bX7_rowNow_78_80 (lv' := [(3, .int (nI (k))), (2, .int (nI (16 + 3 * k))), (0, .ref 0), (1, .ref 19)]) (st' := [.int (nI (16 + 3 * k)), .ref 19]) (w2 := modW 0 S X none ++ row48 19 f3) rfl ?_
              refine ev_iinc_n (x := 16 + 3 * k) (v := 1) dX7_rowNow_80 rfl (by decide) ?_
              refine ev_eq (lv' := [(2, .int (nI ((16 + 3 * k) + 1))), (3, .int (nI (k))), (0, .ref 0), (1, .ref 19)]) rfl rfl rfl ?_
              refine ev_b bX7_rowNow_83_88 (lv' := [(2, .int (nI ((16 + 3 * k) + 1))), (3, .int (nI (k))), (0, .ref 0), (1, .ref 19)]) (st' := [.int (nI (k)), .ref 4, .int (nI (16 + 3 * k)), .ref 19]) (w2 := modW 0 S X none ++ row48 19 f3) rfl ?_
              refine ev_iald_n (f := S.bd) dX7_rowNow_88 rfl (by omega) (by decide) ?_
              refine ev_iast_n (f := f3) dX7_rowNow_89 rfl (by omega) (by decide) ?_
              refine ev_eq (w' := modW 0 S X none ++ row48 19 (up f3 (16 + 3 * k) (S.bd k))) rfl rfl rfl ?_
              refine ev_b bX7_rowNow_90_92 (lv' := [(2, .int (nI ((16 + 3 * k) + 1))), (3, .int (nI (k))), (0, .ref 0), (1, .ref 19)]) (st' := [.int (nI ((16 + 3 * k) + 1)), .ref 19]) (w2 := modW 0 S X none ++ row48 19 (up f3 (16 + 3 * k) (S.bd k))) rfl ?_
              refine ev_iinc_n (x := (16 + 3 * k) + 1) (v := 1) dX7_rowNow_92 rfl (by decide) ?_
              refine ev_eq (lv' := [(2, .int (nI (((16 + 3 * k) + 1) + 1))), (3, .int (nI (k))), (0, .ref 0), (1, .ref 19)]) rfl rfl rfl ?_
              refine ev_b bX7_rowNow_95_100 (lv' := [(2, .int (nI (((16 + 3 * k) + 1) + 1))), (3, .int (nI (k))), (0, .ref 0), (1, .ref 19)]) (st' := [.int (nI (k)), .ref 5, .int (nI ((16 + 3 * k) + 1)), .ref 19]) (w2 := modW 0 S X none ++ row48 19 (up f3 (16 + 3 * k) (S.bd k))) rfl ?_
              refine ev_iald_n (f := S.st) dX7_rowNow_100 rfl (by omega) (by decide) ?_
              refine ev_iast_n (f := up f3 (16 + 3 * k) (S.bd k)) dX7_rowNow_101 rfl (by omega) (by decide) ?_
              refine ev_eq (w' := modW 0 S X none ++ row48 19 (up (up f3 (16 + 3 * k) (S.bd k)) ((16 + 3 * k) + 1) (S.st k))) rfl rfl rfl ?_
              refine ev_b bX7_rowNow_102_104 (lv' := [(2, .int (nI (((16 + 3 * k) + 1) + 1))), (3, .int (nI (k))), (0, .ref 0), (1, .ref 19)]) (st' := [.int (nI (((16 + 3 * k) + 1) + 1)), .ref 19]) (w2 := modW 0 S X none ++ row48 19 (up (up f3 (16 + 3 * k) (S.bd k)) ((16 + 3 * k) + 1) (S.st k))) rfl ?_
              refine ev_iinc_n (x := ((16 + 3 * k) + 1) + 1) (v := 1) dX7_rowNow_104 rfl (by decide) ?_
              refine ev_eq (lv' := [(2, .int (nI ((((16 + 3 * k) + 1) + 1) + 1))), (3, .int (nI (k))), (0, .ref 0), (1, .ref 19)]) rfl rfl rfl ?_
              refine ev_b bX7_rowNow_107_112 (lv' := [(2, .int (nI ((((16 + 3 * k) + 1) + 1) + 1))), (3, .int (nI (k))), (0, .ref 0), (1, .ref 19)]) (st' := [.int (nI (k)), .ref 6, .int (nI (((16 + 3 * k) + 1) + 1)), .ref 19]) (w2 := modW 0 S X none ++ row48 19 (up (up f3 (16 + 3 * k) (S.bd k)) ((16 + 3 * k) + 1) (S.st k))) rfl ?_
              refine ev_iald_n (f := S.pr) dX7_rowNow_112 rfl (by omega) (by decide) ?_
              refine ev_iast_n (f := up (up f3 (16 + 3 * k) (S.bd k)) ((16 + 3 * k) + 1) (S.st k)) dX7_rowNow_113 rfl (by omega) (by decide) ?_
              refine ev_eq (w' := modW 0 S X none ++ row48 19 (up (up (up f3 (16 + 3 * k) (S.bd k)) ((16 + 3 * k) + 1) (S.st k)) (((16 + 3 * k) + 1) + 1) (S.pr k))) rfl rfl rfl ?_
              refine ev_iinc_n (x := k) (v := 1) dX7_rowNow_114 rfl (by decide) ?_
              refine ev_eq (lv' := [(3, .int (nI (k + 1))), (2, .int (nI ((((16 + 3 * k) + 1) + 1) + 1))), (0, .ref 0), (1, .ref 19)]) rfl rfl rfl ?_
              refine ev_b bX7_rowNow_117_72 (lv' := [(3, .int (nI (k + 1))), (2, .int (nI ((((16 + 3 * k) + 1) + 1) + 1))), (0, .ref 0), (1, .ref 19)]) (st' := []) (w2 := modW 0 S X none ++ row48 19 (up (up (up f3 (16 + 3 * k) (S.bd k)) ((16 + 3 * k) + 1) (S.st k)) (((16 + 3 * k) + 1) + 1) (S.pr k))) rfl ?_
              rw [show nI (k + 1) = nI ((k + 1)) from congrArg nI (by omega)]
              rw [show nI ((((16 + 3 * k) + 1) + 1) + 1) = nI (16 + 3 * (k + 1)) from congrArg nI (by omega)]
              exact ih72 (k + 1) (by omega) _ (row_up (row_up (row_up hinv72 (rowS_bd hlt72).symm) (rowS_st hlt72).symm) (rowS_pr hlt72).symm)
          exact L72 10 0 (by omega) f2 hinv35
        | succ j_ ih35 =>
          intro k hk35 f2 hinv35
          have hlt35 : k < 5 := by omega
          refine ev_b bX7_rowNow_35_37 (lv' := [(3, .int (nI (k))), (2, .int (nI (6 + 2 * k))), (0, .ref 0), (1, .ref 19)]) (st' := [.int (nI (5)), .int (nI (k))]) (w2 := modW 0 S X none ++ row48 19 f2) rfl ?_
          refine ev_icmp_ge_n (tgt := 70) (by omega) (by decide) dX7_rowNow_37 (by decide) (fun h37 => (by exfalso; omega)) (fun h37 => ?_)
          refine ev_b bX7_rowNow_40_42 (lv' := [(3, .int (nI (k))), (2, .int (nI (6 + 2 * k))), (0, .ref 0), (1, .ref 19)]) (st' := [.int (nI (6 + 2 * k)), .ref 19]) (w2 := modW 0 S X none ++ row48 19 f2) rfl ?_
          refine ev_iinc_n (x := 6 + 2 * k) (v := 1) dX7_rowNow_42 rfl (by decide) ?_
          refine ev_eq (lv' := [(2, .int (nI ((6 + 2 * k) + 1))), (3, .int (nI (k))), (0, .ref 0), (1, .ref 19)]) rfl rfl rfl ?_
          refine ev_b bX7_rowNow_45_50 (lv' := [(2, .int (nI ((6 + 2 * k) + 1))), (3, .int (nI (k))), (0, .ref 0), (1, .ref 19)]) (st' := [.int (nI (k)), .ref 2, .int (nI (6 + 2 * k)), .ref 19]) (w2 := modW 0 S X none ++ row48 19 f2) rfl ?_
          refine ev_iald_n (f := S.kd) dX7_rowNow_50 rfl (by omega) (by decide) ?_
          refine ev_iast_n (f := f2) dX7_rowNow_51 rfl (by omega) (by decide) ?_
          refine ev_eq (w' := modW 0 S X none ++ row48 19 (up f2 (6 + 2 * k) (S.kd k))) rfl rfl rfl ?_
          refine ev_b bX7_rowNow_52_54 (lv' := [(2, .int (nI ((6 + 2 * k) + 1))), (3, .int (nI (k))), (0, .ref 0), (1, .ref 19)]) (st' := [.int (nI ((6 + 2 * k) + 1)), .ref 19]) (w2 := modW 0 S X none ++ row48 19 (up f2 (6 + 2 * k) (S.kd k))) rfl ?_
          refine ev_iinc_n (x := (6 + 2 * k) + 1) (v := 1) dX7_rowNow_54 rfl (by decide) ?_
          refine ev_eq (lv' := [(2, .int (nI (((6 + 2 * k) + 1) + 1))), (3, .int (nI (k))), (0, .ref 0), (1, .ref 19)]) rfl rfl rfl ?_
          refine ev_b bX7_rowNow_57_62 (lv' := [(2, .int (nI (((6 + 2 * k) + 1) + 1))), (3, .int (nI (k))), (0, .ref 0), (1, .ref 19)]) (st' := [.int (nI (k)), .ref 3, .int (nI ((6 + 2 * k) + 1)), .ref 19]) (w2 := modW 0 S X none ++ row48 19 (up f2 (6 + 2 * k) (S.kd k))) rfl ?_
          refine ev_iald_n (f := S.fg) dX7_rowNow_62 rfl (by omega) (by decide) ?_
          refine ev_iast_n (f := up f2 (6 + 2 * k) (S.kd k)) dX7_rowNow_63 rfl (by omega) (by decide) ?_
          refine ev_eq (w' := modW 0 S X none ++ row48 19 (up (up f2 (6 + 2 * k) (S.kd k)) ((6 + 2 * k) + 1) (S.fg k))) rfl rfl rfl ?_
          refine ev_iinc_n (x := k) (v := 1) dX7_rowNow_64 rfl (by decide) ?_
          refine ev_eq (lv' := [(3, .int (nI (k + 1))), (2, .int (nI (((6 + 2 * k) + 1) + 1))), (0, .ref 0), (1, .ref 19)]) rfl rfl rfl ?_
          refine ev_b bX7_rowNow_67_35 (lv' := [(3, .int (nI (k + 1))), (2, .int (nI (((6 + 2 * k) + 1) + 1))), (0, .ref 0), (1, .ref 19)]) (st' := []) (w2 := modW 0 S X none ++ row48 19 (up (up f2 (6 + 2 * k) (S.kd k)) ((6 + 2 * k) + 1) (S.fg k))) rfl ?_
          rw [show nI (k + 1) = nI ((k + 1)) from congrArg nI (by omega)]
          rw [show nI (((6 + 2 * k) + 1) + 1) = nI (6 + 2 * (k + 1)) from congrArg nI (by omega)]
          exact ih35 (k + 1) (by omega) _ (row_up (row_up hinv35 (rowS_kd hlt35).symm) (rowS_fg hlt35).symm)
      exact L35 5 0 (by omega) f hinv9
    | succ j_ ih9 =>
      intro k hk9 f hinv9
      have hlt9 : k < 6 := by omega
      refine ev_b bX7_rowNow_9_12 (lv' := [(3, .int (nI (k))), (2, .int (nI (k))), (0, .ref 0), (1, .ref 19)]) (st' := [.int (nI (6)), .int (nI (k))]) (w2 := modW 0 S X none ++ row48 19 f) rfl ?_
      refine ev_icmp_ge_n (tgt := 33) (by omega) (by decide) dX7_rowNow_12 (by decide) (fun h12 => (by exfalso; omega)) (fun h12 => ?_)
      refine ev_b bX7_rowNow_15_17 (lv' := [(3, .int (nI (k))), (2, .int (nI (k))), (0, .ref 0), (1, .ref 19)]) (st' := [.int (nI (k)), .ref 19]) (w2 := modW 0 S X none ++ row48 19 f) rfl ?_
      refine ev_iinc_n (x := k) (v := 1) dX7_rowNow_17 rfl (by decide) ?_
      refine ev_eq (lv' := [(2, .int (nI (k + 1))), (3, .int (nI (k))), (0, .ref 0), (1, .ref 19)]) rfl rfl rfl ?_
      refine ev_b bX7_rowNow_20_25 (lv' := [(2, .int (nI (k + 1))), (3, .int (nI (k))), (0, .ref 0), (1, .ref 19)]) (st' := [.int (nI (k)), .ref 1, .int (nI (k)), .ref 19]) (w2 := modW 0 S X none ++ row48 19 f) rfl ?_
      refine ev_iald_n (f := S.rs) dX7_rowNow_25 rfl (by omega) (by decide) ?_
      refine ev_iast_n (f := f) dX7_rowNow_26 rfl (by omega) (by decide) ?_
      refine ev_eq (w' := modW 0 S X none ++ row48 19 (up f k (S.rs k))) rfl rfl rfl ?_
      refine ev_iinc_n (x := k) (v := 1) dX7_rowNow_27 rfl (by decide) ?_
      refine ev_eq (lv' := [(3, .int (nI (k + 1))), (2, .int (nI (k + 1))), (0, .ref 0), (1, .ref 19)]) rfl rfl rfl ?_
      refine ev_b bX7_rowNow_30_9 (lv' := [(3, .int (nI (k + 1))), (2, .int (nI (k + 1))), (0, .ref 0), (1, .ref 19)]) (st' := []) (w2 := modW 0 S X none ++ row48 19 (up f k (S.rs k))) rfl ?_
      rw [show nI (k + 1) = nI ((k + 1)) from congrArg nI (by omega)]
      rw [show nI (k + 1) = nI ((k + 1)) from congrArg nI (by omega)]
      exact ih9 (k + 1) (by omega) _ (row_up hinv9 (rowS_rs hlt9).symm)
  refine ev_pick (lv' := [(3, .int (nI (0))), (2, .int (nI (0))), (0, .ref 0), (1, .ref 19)]) rfl ?_
  exact L9 6 0 (by omega) _ (fun j hj => absurd hj (Nat.not_lt_zero j))
set_option maxHeartbeats 4000000 in
set_option maxRecDepth 100000 in
theorem m_X7_rowNow_s {l : Launch} {E : XE} (S : SaleN) (X : ModN) (kf : Nat → Nat)  : MetE l E mX7_rowNow (0) 1 48 [.ref 0] (modW 0 S X (some kf)) (fun r w' => r = some (.ref 20) ∧ w' = modW 0 S X (some kf) ++ row48 20 ((rowS S))) := by
  refine MetE.of (by decide +kernel) (Nat.le_of_ble_eq_true rfl) ?_
  refine ev_eq (lv' := [(0, .ref 0)]) (st' := []) (w' := modW 0 S X (some kf)) rfl rfl rfl ?_
  refine ev_b bX7_rowNow_0_2 (lv' := [(0, .ref 0)]) (st' := [.int (nI (48))]) (w2 := modW 0 S X (some kf)) rfl ?_
  refine ev_newi dX7_rowNow_2 tw_69 (Nat.le_of_ble_eq_true rfl) rfl rfl rfl (Nat.le_of_ble_eq_true rfl) (Nat.le_of_ble_eq_true rfl) (Nat.le_of_ble_eq_true rfl) ?_
  refine ev_eq (st' := [.ref 20]) (w' := modW 0 S X (some kf) ++ row48 20 ((fun _ => 0))) rfl rfl rfl ?_
  refine ev_b bX7_rowNow_4_9 (lv' := [(3, .int (nI (0))), (2, .int (nI (0))), (1, .ref 20), (0, .ref 0)]) (st' := []) (w2 := modW 0 S X (some kf) ++ row48 20 ((fun _ => 0))) rfl ?_
  have L9 : ∀ (j_ k : Nat), k + j_ = 6 → ∀ (f : Nat → Nat), (∀ j, j < k → f j = rowS S j) → Ev l E mX7_rowNow (0) 1 48 (modW 0 S X (some kf)) (fun r w' => r = some (.ref 20) ∧ w' = modW 0 S X (some kf) ++ row48 20 ((rowS S))) 1 48 9 [(3, .int (nI (k))), (2, .int (nI (k))), (0, .ref 0), (1, .ref 20)] [] (modW 0 S X (some kf) ++ row48 20 f) := by
    intro j_
    induction j_ with
    | zero =>
      intro k hk9 f hinv9
      replace hk9 : k = 6 := hk9
      subst hk9
      refine ev_b bX7_rowNow_9_12 (lv' := [(3, .int (nI (6))), (2, .int (nI (6))), (0, .ref 0), (1, .ref 20)]) (st' := [.int (nI (6)), .int (nI (6))]) (w2 := modW 0 S X (some kf) ++ row48 20 f) rfl ?_
      refine ev_icmp_ge_n (tgt := 33) (by decide) (by decide) dX7_rowNow_12 (by decide) (fun h12 => ?_) (fun h12 => (by exfalso; omega))
      refine ev_b bX7_rowNow_33_35 (lv' := [(3, .int (nI (0))), (2, .int (nI (6))), (0, .ref 0), (1, .ref 20)]) (st' := []) (w2 := modW 0 S X (some kf) ++ row48 20 f) rfl ?_
      have L35 : ∀ (j_ k : Nat), k + j_ = 5 → ∀ (f2 : Nat → Nat), (∀ j, j < 6 + 2 * k → f2 j = rowS S j) → Ev l E mX7_rowNow (0) 1 48 (modW 0 S X (some kf)) (fun r w' => r = some (.ref 20) ∧ w' = modW 0 S X (some kf) ++ row48 20 ((rowS S))) 1 48 35 [(3, .int (nI (k))), (2, .int (nI (6 + 2 * k))), (0, .ref 0), (1, .ref 20)] [] (modW 0 S X (some kf) ++ row48 20 f2) := by
        intro j_
        induction j_ with
        | zero =>
          intro k hk35 f2 hinv35
          replace hk35 : k = 5 := hk35
          subst hk35
          refine ev_b bX7_rowNow_35_37 (lv' := [(3, .int (nI (5))), (2, .int (nI (6 + 2 * 5))), (0, .ref 0), (1, .ref 20)]) (st' := [.int (nI (5)), .int (nI (5))]) (w2 := modW 0 S X (some kf) ++ row48 20 f2) rfl ?_
          refine ev_icmp_ge_n (tgt := 70) (by decide) (by decide) dX7_rowNow_37 (by decide) (fun h37 => ?_) (fun h37 => (by exfalso; omega))
          refine ev_b bX7_rowNow_70_72 (lv' := [(3, .int (nI (0))), (2, .int (nI (6 + 2 * 5))), (0, .ref 0), (1, .ref 20)]) (st' := []) (w2 := modW 0 S X (some kf) ++ row48 20 f2) rfl ?_
          have L72 : ∀ (j_ k : Nat), k + j_ = 10 → ∀ (f3 : Nat → Nat), (∀ j, j < 16 + 3 * k → f3 j = rowS S j) → Ev l E mX7_rowNow (0) 1 48 (modW 0 S X (some kf)) (fun r w' => r = some (.ref 20) ∧ w' = modW 0 S X (some kf) ++ row48 20 ((rowS S))) 1 48 72 [(3, .int (nI (k))), (2, .int (nI (16 + 3 * k))), (0, .ref 0), (1, .ref 20)] [] (modW 0 S X (some kf) ++ row48 20 f3) := by
            intro j_
            induction j_ with
            | zero =>
              intro k hk72 f3 hinv72
              replace hk72 : k = 10 := hk72
              subst hk72
              refine ev_b bX7_rowNow_72_75 (lv' := [(3, .int (nI (10))), (2, .int (nI (16 + 3 * 10))), (0, .ref 0), (1, .ref 20)]) (st' := [.int (nI (10)), .int (nI (10))]) (w2 := modW 0 S X (some kf) ++ row48 20 f3) rfl ?_
              refine ev_icmp_ge_n (tgt := 120) (by decide) (by decide) dX7_rowNow_75 (by decide) (fun h75 => ?_) (fun h75 => (by exfalso; omega))
              refine ev_b bX7_rowNow_120_126 (lv' := [(3, .int (nI (10))), (2, .int (nI (16 + 3 * 10))), (0, .ref 0), (1, .ref 20)]) (st' := [.int (nI (S.ca)), .int (nI (16 + 3 * 10)), .ref 20]) (w2 := modW 0 S X (some kf) ++ row48 20 f3) rfl ?_
              refine ev_iast_n (f := f3) dX7_rowNow_126 rfl (by omega) (by decide) ?_
              refine ev_eq (w' := modW 0 S X (some kf) ++ row48 20 (up f3 (16 + 3 * 10) S.ca)) rfl rfl rfl ?_
              refine ev_b bX7_rowNow_127_130 (lv' := [(3, .int (nI (10))), (2, .int (nI (16 + 3 * 10))), (0, .ref 0), (1, .ref 20)]) (st' := [.int (nI (1)), .int (nI (16 + 3 * 10)), .ref 20]) (w2 := modW 0 S X (some kf) ++ row48 20 (up f3 (16 + 3 * 10) S.ca)) rfl ?_
              refine ev_iadd_n dX7_rowNow_130 ?_
              refine ev_b bX7_rowNow_131_135 (lv' := [(3, .int (nI (10))), (2, .int (nI (16 + 3 * 10))), (0, .ref 0), (1, .ref 20)]) (st' := [.int (nI (S.ac)), .int (nI ((16 + 3 * 10) + 1)), .ref 20]) (w2 := modW 0 S X (some kf) ++ row48 20 (up f3 (16 + 3 * 10) S.ca)) rfl ?_
              refine ev_iast_n (f := up f3 (16 + 3 * 10) S.ca) dX7_rowNow_135 rfl (by omega) (by decide) ?_
              refine ev_eq (w' := modW 0 S X (some kf) ++ row48 20 (up (up f3 (16 + 3 * 10) S.ca) ((16 + 3 * 10) + 1) S.ac)) rfl rfl rfl ?_
              refine ev_arr (b := 20) (g := aI (rowS S)) rfl (fun j hj => congrArg nI (row_up (row_up hinv72 rowS_ca.symm) rowS_ac.symm j hj)) ?_
              refine ev_eq (w' := modW 0 S X (some kf) ++ row48 20 ((rowS S))) rfl rfl rfl ?_
              refine ev_b bX7_rowNow_136_137 (lv' := [(3, .int (nI (10))), (2, .int (nI (16 + 3 * 10))), (0, .ref 0), (1, .ref 20)]) (st' := [.ref 20]) (w2 := modW 0 S X (some kf) ++ row48 20 ((rowS S))) rfl ?_
              exact ev_aret dX7_rowNow_137 rfl (Nat.le_of_ble_eq_true rfl) (Nat.le_of_ble_eq_true rfl) (Nat.le_of_ble_eq_true rfl) ⟨rfl, rfl⟩
            | succ j_ ih72 =>
              intro k hk72 f3 hinv72
              have hlt72 : k < 10 := by omega
              refine ev_b bX7_rowNow_72_75 (lv' := [(3, .int (nI (k))), (2, .int (nI (16 + 3 * k))), (0, .ref 0), (1, .ref 20)]) (st' := [.int (nI (10)), .int (nI (k))]) (w2 := modW 0 S X (some kf) ++ row48 20 f3) rfl ?_
              refine ev_icmp_ge_n (tgt := 120) (by omega) (by decide) dX7_rowNow_75 (by decide) (fun h75 => (by exfalso; omega)) (fun h75 => ?_)
              refine ev_b bX7_rowNow_78_80 (lv' := [(3, .int (nI (k))), (2, .int (nI (16 + 3 * k))), (0, .ref 0), (1, .ref 20)]) (st' := [.int (nI (16 + 3 * k)), .ref 20]) (w2 := modW 0 S X (some kf) ++ row48 20 f3) rfl ?_
              refine ev_iinc_n (x := 16 + 3 * k) (v := 1) dX7_rowNow_80 rfl (by decide) ?_
              refine ev_eq (lv' := [(2, .int (nI ((16 + 3 * k) + 1))), (3, .int (nI (k))), (0, .ref 0), (1, .ref 20)]) rfl rfl rfl ?_
              refine ev_b bX7_rowNow_83_88 (lv' := [(2, .int (nI ((16 + 3 * k) + 1))), (3, .int (nI (k))), (0, .ref 0), (1, .ref 20)]) (st' := [.int (nI (k)), .ref 4, .int (nI (16 + 3 * k)), .ref 20]) (w2 := modW 0 S X (some kf) ++ row48 20 f3) rfl ?_
              refine ev_iald_n (f := S.bd) dX7_rowNow_88 rfl (by omega) (by decide) ?_
              refine ev_iast_n (f := f3) dX7_rowNow_89 rfl (by omega) (by decide) ?_
              refine ev_eq (w' := modW 0 S X (some kf) ++ row48 20 (up f3 (16 + 3 * k) (S.bd k))) rfl rfl rfl ?_
              refine ev_b bX7_rowNow_90_92 (lv' := [(2, .int (nI ((16 + 3 * k) + 1))), (3, .int (nI (k))), (0, .ref 0), (1, .ref 20)]) (st' := [.int (nI ((16 + 3 * k) + 1)), .ref 20]) (w2 := modW 0 S X (some kf) ++ row48 20 (up f3 (16 + 3 * k) (S.bd k))) rfl ?_
              refine ev_iinc_n (x := (16 + 3 * k) + 1) (v := 1) dX7_rowNow_92 rfl (by decide) ?_
              refine ev_eq (lv' := [(2, .int (nI (((16 + 3 * k) + 1) + 1))), (3, .int (nI (k))), (0, .ref 0), (1, .ref 20)]) rfl rfl rfl ?_
              refine ev_b bX7_rowNow_95_100 (lv' := [(2, .int (nI (((16 + 3 * k) + 1) + 1))), (3, .int (nI (k))), (0, .ref 0), (1, .ref 20)]) (st' := [.int (nI (k)), .ref 5, .int (nI ((16 + 3 * k) + 1)), .ref 20]) (w2 := modW 0 S X (some kf) ++ row48 20 (up f3 (16 + 3 * k) (S.bd k))) rfl ?_
              refine ev_iald_n (f := S.st) dX7_rowNow_100 rfl (by omega) (by decide) ?_
              refine ev_iast_n (f := up f3 (16 + 3 * k) (S.bd k)) dX7_rowNow_101 rfl (by omega) (by decide) ?_
              refine ev_eq (w' := modW 0 S X (some kf) ++ row48 20 (up (up f3 (16 + 3 * k) (S.bd k)) ((16 + 3 * k) + 1) (S.st k))) rfl rfl rfl ?_
              refine ev_b bX7_rowNow_102_104 (lv' := [(2, .int (nI (((16 + 3 * k) + 1) + 1))), (3, .int (nI (k))), (0, .ref 0), (1, .ref 20)]) (st' := [.int (nI (((16 + 3 * k) + 1) + 1)), .ref 20]) (w2 := modW 0 S X (some kf) ++ row48 20 (up (up f3 (16 + 3 * k) (S.bd k)) ((16 + 3 * k) + 1) (S.st k))) rfl ?_
              refine ev_iinc_n (x := ((16 + 3 * k) + 1) + 1) (v := 1) dX7_rowNow_104 rfl (by decide) ?_
              refine ev_eq (lv' := [(2, .int (nI ((((16 + 3 * k) + 1) + 1) + 1))), (3, .int (nI (k))), (0, .ref 0), (1, .ref 20)]) rfl rfl rfl ?_
              refine ev_b bX7_rowNow_107_112 (lv' := [(2, .int (nI ((((16 + 3 * k) + 1) + 1) + 1))), (3, .int (nI (k))), (0, .ref 0), (1, .ref 20)]) (st' := [.int (nI (k)), .ref 6, .int (nI (((16 + 3 * k) + 1) + 1)), .ref 20]) (w2 := modW 0 S X (some kf) ++ row48 20 (up (up f3 (16 + 3 * k) (S.bd k)) ((16 + 3 * k) + 1) (S.st k))) rfl ?_
              refine ev_iald_n (f := S.pr) dX7_rowNow_112 rfl (by omega) (by decide) ?_
              refine ev_iast_n (f := up (up f3 (16 + 3 * k) (S.bd k)) ((16 + 3 * k) + 1) (S.st k)) dX7_rowNow_113 rfl (by omega) (by decide) ?_
              refine ev_eq (w' := modW 0 S X (some kf) ++ row48 20 (up (up (up f3 (16 + 3 * k) (S.bd k)) ((16 + 3 * k) + 1) (S.st k)) (((16 + 3 * k) + 1) + 1) (S.pr k))) rfl rfl rfl ?_
              refine ev_iinc_n (x := k) (v := 1) dX7_rowNow_114 rfl (by decide) ?_
              refine ev_eq (lv' := [(3, .int (nI (k + 1))), (2, .int (nI ((((16 + 3 * k) + 1) + 1) + 1))), (0, .ref 0), (1, .ref 20)]) rfl rfl rfl ?_
              refine ev_b bX7_rowNow_117_72 (lv' := [(3, .int (nI (k + 1))), (2, .int (nI ((((16 + 3 * k) + 1) + 1) + 1))), (0, .ref 0), (1, .ref 20)]) (st' := []) (w2 := modW 0 S X (some kf) ++ row48 20 (up (up (up f3 (16 + 3 * k) (S.bd k)) ((16 + 3 * k) + 1) (S.st k)) (((16 + 3 * k) + 1) + 1) (S.pr k))) rfl ?_
              rw [show nI (k + 1) = nI ((k + 1)) from congrArg nI (by omega)]
              rw [show nI ((((16 + 3 * k) + 1) + 1) + 1) = nI (16 + 3 * (k + 1)) from congrArg nI (by omega)]
              exact ih72 (k + 1) (by omega) _ (row_up (row_up (row_up hinv72 (rowS_bd hlt72).symm) (rowS_st hlt72).symm) (rowS_pr hlt72).symm)
          exact L72 10 0 (by omega) f2 hinv35
        | succ j_ ih35 =>
          intro k hk35 f2 hinv35
          have hlt35 : k < 5 := by omega
          refine ev_b bX7_rowNow_35_37 (lv' := [(3, .int (nI (k))), (2, .int (nI (6 + 2 * k))), (0, .ref 0), (1, .ref 20)]) (st' := [.int (nI (5)), .int (nI (k))]) (w2 := modW 0 S X (some kf) ++ row48 20 f2) rfl ?_
          refine ev_icmp_ge_n (tgt := 70) (by omega) (by decide) dX7_rowNow_37 (by decide) (fun h37 => (by exfalso; omega)) (fun h37 => ?_)
          refine ev_b bX7_rowNow_40_42 (lv' := [(3, .int (nI (k))), (2, .int (nI (6 + 2 * k))), (0, .ref 0), (1, .ref 20)]) (st' := [.int (nI (6 + 2 * k)), .ref 20]) (w2 := modW 0 S X (some kf) ++ row48 20 f2) rfl ?_
          refine ev_iinc_n (x := 6 + 2 * k) (v := 1) dX7_rowNow_42 rfl (by decide) ?_
          refine ev_eq (lv' := [(2, .int (nI ((6 + 2 * k) + 1))), (3, .int (nI (k))), (0, .ref 0), (1, .ref 20)]) rfl rfl rfl ?_
          refine ev_b bX7_rowNow_45_50 (lv' := [(2, .int (nI ((6 + 2 * k) + 1))), (3, .int (nI (k))), (0, .ref 0), (1, .ref 20)]) (st' := [.int (nI (k)), .ref 2, .int (nI (6 + 2 * k)), .ref 20]) (w2 := modW 0 S X (some kf) ++ row48 20 f2) rfl ?_
          refine ev_iald_n (f := S.kd) dX7_rowNow_50 rfl (by omega) (by decide) ?_
          refine ev_iast_n (f := f2) dX7_rowNow_51 rfl (by omega) (by decide) ?_
          refine ev_eq (w' := modW 0 S X (some kf) ++ row48 20 (up f2 (6 + 2 * k) (S.kd k))) rfl rfl rfl ?_
          refine ev_b bX7_rowNow_52_54 (lv' := [(2, .int (nI ((6 + 2 * k) + 1))), (3, .int (nI (k))), (0, .ref 0), (1, .ref 20)]) (st' := [.int (nI ((6 + 2 * k) + 1)), .ref 20]) (w2 := modW 0 S X (some kf) ++ row48 20 (up f2 (6 + 2 * k) (S.kd k))) rfl ?_
          refine ev_iinc_n (x := (6 + 2 * k) + 1) (v := 1) dX7_rowNow_54 rfl (by decide) ?_
          refine ev_eq (lv' := [(2, .int (nI (((6 + 2 * k) + 1) + 1))), (3, .int (nI (k))), (0, .ref 0), (1, .ref 20)]) rfl rfl rfl ?_
          refine ev_b bX7_rowNow_57_62 (lv' := [(2, .int (nI (((6 + 2 * k) + 1) + 1))), (3, .int (nI (k))), (0, .ref 0), (1, .ref 20)]) (st' := [.int (nI (k)), .ref 3, .int (nI ((6 + 2 * k) + 1)), .ref 20]) (w2 := modW 0 S X (some kf) ++ row48 20 (up f2 (6 + 2 * k) (S.kd k))) rfl ?_
          refine ev_iald_n (f := S.fg) dX7_rowNow_62 rfl (by omega) (by decide) ?_
          refine ev_iast_n (f := up f2 (6 + 2 * k) (S.kd k)) dX7_rowNow_63 rfl (by omega) (by decide) ?_
          refine ev_eq (w' := modW 0 S X (some kf) ++ row48 20 (up (up f2 (6 + 2 * k) (S.kd k)) ((6 + 2 * k) + 1) (S.fg k))) rfl rfl rfl ?_
          refine ev_iinc_n (x := k) (v := 1) dX7_rowNow_64 rfl (by decide) ?_
          refine ev_eq (lv' := [(3, .int (nI (k + 1))), (2, .int (nI (((6 + 2 * k) + 1) + 1))), (0, .ref 0), (1, .ref 20)]) rfl rfl rfl ?_
          refine ev_b bX7_rowNow_67_35 (lv' := [(3, .int (nI (k + 1))), (2, .int (nI (((6 + 2 * k) + 1) + 1))), (0, .ref 0), (1, .ref 20)]) (st' := []) (w2 := modW 0 S X (some kf) ++ row48 20 (up (up f2 (6 + 2 * k) (S.kd k)) ((6 + 2 * k) + 1) (S.fg k))) rfl ?_
          rw [show nI (k + 1) = nI ((k + 1)) from congrArg nI (by omega)]
          rw [show nI (((6 + 2 * k) + 1) + 1) = nI (6 + 2 * (k + 1)) from congrArg nI (by omega)]
          exact ih35 (k + 1) (by omega) _ (row_up (row_up hinv35 (rowS_kd hlt35).symm) (rowS_fg hlt35).symm)
      exact L35 5 0 (by omega) f hinv9
    | succ j_ ih9 =>
      intro k hk9 f hinv9
      have hlt9 : k < 6 := by omega
      refine ev_b bX7_rowNow_9_12 (lv' := [(3, .int (nI (k))), (2, .int (nI (k))), (0, .ref 0), (1, .ref 20)]) (st' := [.int (nI (6)), .int (nI (k))]) (w2 := modW 0 S X (some kf) ++ row48 20 f) rfl ?_
      refine ev_icmp_ge_n (tgt := 33) (by omega) (by decide) dX7_rowNow_12 (by decide) (fun h12 => (by exfalso; omega)) (fun h12 => ?_)
      refine ev_b bX7_rowNow_15_17 (lv' := [(3, .int (nI (k))), (2, .int (nI (k))), (0, .ref 0), (1, .ref 20)]) (st' := [.int (nI (k)), .ref 20]) (w2 := modW 0 S X (some kf) ++ row48 20 f) rfl ?_
      refine ev_iinc_n (x := k) (v := 1) dX7_rowNow_17 rfl (by decide) ?_
      refine ev_eq (lv' := [(2, .int (nI (k + 1))), (3, .int (nI (k))), (0, .ref 0), (1, .ref 20)]) rfl rfl rfl ?_
      refine ev_b bX7_rowNow_20_25 (lv' := [(2, .int (nI (k + 1))), (3, .int (nI (k))), (0, .ref 0), (1, .ref 20)]) (st' := [.int (nI (k)), .ref 1, .int (nI (k)), .ref 20]) (w2 := modW 0 S X (some kf) ++ row48 20 f) rfl ?_
      refine ev_iald_n (f := S.rs) dX7_rowNow_25 rfl (by omega) (by decide) ?_
      refine ev_iast_n (f := f) dX7_rowNow_26 rfl (by omega) (by decide) ?_
      refine ev_eq (w' := modW 0 S X (some kf) ++ row48 20 (up f k (S.rs k))) rfl rfl rfl ?_
      refine ev_iinc_n (x := k) (v := 1) dX7_rowNow_27 rfl (by decide) ?_
      refine ev_eq (lv' := [(3, .int (nI (k + 1))), (2, .int (nI (k + 1))), (0, .ref 0), (1, .ref 20)]) rfl rfl rfl ?_
      refine ev_b bX7_rowNow_30_9 (lv' := [(3, .int (nI (k + 1))), (2, .int (nI (k + 1))), (0, .ref 0), (1, .ref 20)]) (st' := []) (w2 := modW 0 S X (some kf) ++ row48 20 (up f k (S.rs k))) rfl ?_
      rw [show nI (k + 1) = nI ((k + 1)) from congrArg nI (by omega)]
      rw [show nI (k + 1) = nI ((k + 1)) from congrArg nI (by omega)]
      exact ih9 (k + 1) (by omega) _ (row_up hinv9 (rowS_rs hlt9).symm)
  refine ev_pick (lv' := [(3, .int (nI (0))), (2, .int (nI (0))), (0, .ref 0), (1, .ref 20)]) rfl ?_
  exact L9 6 0 (by omega) _ (fun j hj => absurd hj (Nat.not_lt_zero j))
