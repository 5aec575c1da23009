theorem bX6_drawn_0_2 {l : Launch} {E : XE} : Snd l E mX6_drawn 0 2 (xs [x_iload 1, x_push (.int (nI 1))]) := Snd.cons (snd_iload_n (i := 1) dX6_drawn_0 rfl) (Snd.cons (snd_iconst (v := nI 1) dX6_drawn_1 (by decide)) Snd.nil)
theorem bX6_drawn_9_14 {l : Launch} {E : XE} : Snd l E mX6_drawn 9 14 (xs [x_iload 0, x_push (.int (nI 2147483647)), x_i2 (fun x y => x &&& y)]) := Snd.cons (snd_iload_n (i := 0) dX6_drawn_9 rfl) (Snd.cons (snd_ldcw (v := nI 2147483647) dX6_drawn_10 tw_882) (Snd.cons (snd_iand dX6_drawn_13) Snd.nil))
theorem bX6_drawn_14_17 {l : Launch} {E : XE} : Snd l E mX6_drawn 14 17 (xs [x_push (.int (nI 256))]) := Snd.cons (snd_sipush (v := nI 256) dX6_drawn_14 (by decide)) Snd.nil
theorem bX6_drawn_18_19 {l : Launch} {E : XE} : Snd l E mX6_drawn 18 19 (xs [x_iload 1]) := Snd.cons (snd_iload_n (i := 1) dX6_drawn_18 rfl) Snd.nil
set_option maxHeartbeats 4000000 in
set_option maxRecDepth 100000 in
theorem m_X6_drawn {l : Launch} {E : XE} (x : Int32)  : MetE l E mX6_drawn (0) 0 0 [.int (x), .int (nI (99))] ([]) (fun r w' => r = some (.int (nI (drN x))) ∧ w' = []) := by
  refine MetE.of (by decide +kernel) (Nat.le_of_ble_eq_true rfl) ?_
  have hdl := drA_lt x
  refine ev_eq (lv' := [(0, .int (x)), (1, .int (nI (99)))]) (st' := []) (w' := []) rfl rfl rfl ?_
  refine ev_b bX6_drawn_0_2 (lv' := [(0, .int (x)), (1, .int (nI (99)))]) (st' := [.int (nI (1)), .int (nI (99))]) (w2 := []) rfl ?_
  refine ev_icmp_ge_n (tgt := 9) (by decide) (by decide) dX6_drawn_2 (by decide) (fun h2 => ?_) (fun h2 => (by exfalso; omega))
  refine ev_b bX6_drawn_9_14 (lv' := [(0, .int (x)), (1, .int (nI (99)))]) (st' := [.int ((x) &&& (nI (2147483647)))]) (w2 := []) rfl ?_
  refine ev_top (y := nI (drA x)) (dr_and _) ?_
  refine ev_b bX6_drawn_14_17 (lv' := [(0, .int (x)), (1, .int (nI (99)))]) (st' := [.int (nI (256)), .int (nI (drA x))]) (w2 := []) rfl ?_
  refine ev_idiv_n (by omega) (by decide) (by omega) dX6_drawn_17 ?_
  refine ev_b bX6_drawn_18_19 (lv' := [(0, .int (x)), (1, .int (nI (99)))]) (st' := [.int (nI (99)), .int (nI ((drA x) / 256))]) (w2 := []) rfl ?_
  refine ev_irem_n (by omega) (by decide) (by omega) dX6_drawn_19 ?_
  exact ev_iret dX6_drawn_20 rfl (Nat.le_of_ble_eq_true rfl) (Nat.le_refl _) (Nat.le_refl _) ⟨(congrArg (fun t => some (Value.int (nI t))) (show ((drA x) / 256) % 99 = drN x from by exact rfl)), rfl⟩
theorem bX6_lots_39_47 {l : Launch} {E : XE} : Snd l E mX6_lots 39 47 (xs [x_aload 0, x_get 7 2, x_aload 0, x_get 7 0]) := Snd.cons (snd_aload_n (i := 0) dX6_lots_39 rfl) (Snd.cons (snd_get (ci := 7) (k := 2) dX6_lots_40 rfl inX6 (by decide) tw_209) (Snd.cons (snd_aload_n (i := 0) dX6_lots_43 rfl) (Snd.cons (snd_get (ci := 7) (k := 0) dX6_lots_44 rfl inX6 (by decide) tw_207) Snd.nil)))
theorem bX6_lots_50_59 {l : Launch} {E : XE} : Snd l E mX6_lots 50 59 (xs [x_iload 2, x_istore 4, x_push (.int (nI 0)), x_istore 5, x_push (.int (nI 0)), x_istore 6]) := Snd.cons (snd_iload_n (i := 2) dX6_lots_50 rfl) (Snd.cons (snd_istore dX6_lots_51 (by decide)) (Snd.cons (snd_iconst (v := nI 0) dX6_lots_53 (by decide)) (Snd.cons (snd_istore dX6_lots_54 (by decide)) (Snd.cons (snd_iconst (v := nI 0) dX6_lots_56 (by decide)) (Snd.cons (snd_istore dX6_lots_57 (by decide)) Snd.nil)))))
theorem bX6_lots_59_62 {l : Launch} {E : XE} : Snd l E mX6_lots 59 62 (xs [x_iload 6, x_iload 1]) := Snd.cons (snd_iload dX6_lots_59) (Snd.cons (snd_iload_n (i := 1) dX6_lots_61 rfl) Snd.nil)
theorem bX6_lots_156_158 {l : Launch} {E : XE} : Snd l E mX6_lots 156 158 (xs [x_iload 5]) := Snd.cons (snd_iload dX6_lots_156) Snd.nil
theorem bX6_lots_65_68 {l : Launch} {E : XE} : Snd l E mX6_lots 65 68 (xs [x_push (.int (nI 0)), x_istore 7]) := Snd.cons (snd_iconst (v := nI 0) dX6_lots_65 (by decide)) (Snd.cons (snd_istore dX6_lots_66 (by decide)) Snd.nil)
theorem bX6_lots_68_77 {l : Launch} {E : XE} : Snd l E mX6_lots 68 77 (xs [x_iload 7, x_aload 0, x_get 7 2, x_get 4 7]) := Snd.cons (snd_iload dX6_lots_68) (Snd.cons (snd_aload_n (i := 0) dX6_lots_70 rfl) (Snd.cons (snd_get (ci := 7) (k := 2) dX6_lots_71 rfl inX6 (by decide) tw_209) (Snd.cons (snd_getN (ci := 4) (k := 7) dX6_lots_74 rfl inX3 (by decide) tn_44) Snd.nil)))
theorem bX6_lots_111_116 {l : Launch} {E : XE} : Snd l E mX6_lots 111 116 (xs [x_aload 0, x_aload 0, x_get 7 2]) := Snd.cons (snd_aload_n (i := 0) dX6_lots_111 rfl) (Snd.cons (snd_aload_n (i := 0) dX6_lots_112 rfl) (Snd.cons (snd_get (ci := 7) (k := 2) dX6_lots_113 rfl inX6 (by decide) tw_209) Snd.nil))
theorem bX6_lots_119_122 {l : Launch} {E : XE} : Snd l E mX6_lots 119 122 (xs [x_iload 5, x_iload 3]) := Snd.cons (snd_iload dX6_lots_119) (Snd.cons (snd_iload_n (i := 3) dX6_lots_121 rfl) Snd.nil)
theorem bX6_lots_125_147 {l : Launch} {E : XE} : Snd l E mX6_lots 125 147 (xs [x_aload 0, x_get 7 4, x_get 1 5, x_id]) := Snd.cons (snd_aload_n (i := 0) dX6_lots_125 rfl) (Snd.cons (snd_get (ci := 7) (k := 4) dX6_lots_126 rfl inX6 (by decide) tw_211) (Snd.cons (snd_getN (ci := 1) (k := 5) dX6_lots_129 rfl inX0 (by decide) tn_111) (Snd.cons (snd_goto (tgt := 147) dX6_lots_132 (by decide)) Snd.nil)))
theorem bX6_lots_148_150 {l : Launch} {E : XE} : Snd l E mX6_lots 148 150 (xs [x_istore 5]) := Snd.cons (snd_istore dX6_lots_148 (by decide)) Snd.nil
theorem bX6_lots_153_59 {l : Launch} {E : XE} : Snd l E mX6_lots 153 59 (xs [x_id]) := Snd.cons (snd_goto (tgt := 59) dX6_lots_153 (by decide)) Snd.nil
theorem bX6_lots_80_82 {l : Launch} {E : XE} : Snd l E mX6_lots 80 82 (xs [x_iload 4]) := Snd.cons (snd_iload dX6_lots_80) Snd.nil
theorem bX6_lots_85_98 {l : Launch} {E : XE} : Snd l E mX6_lots 85 98 (xs [x_istore 4, x_aload 0, x_get 7 2, x_iload 7, x_push (.int (nI 1)), x_iload 4, x_push (.int (nI 99))]) := Snd.cons (snd_istore dX6_lots_85 (by decide)) (Snd.cons (snd_aload_n (i := 0) dX6_lots_87 rfl) (Snd.cons (snd_get (ci := 7) (k := 2) dX6_lots_88 rfl inX6 (by decide) tw_209) (Snd.cons (snd_iload dX6_lots_91) (Snd.cons (snd_iconst (v := nI 1) dX6_lots_93 (by decide)) (Snd.cons (snd_iload dX6_lots_94) (Snd.cons (snd_bipush (v := nI 99) dX6_lots_96 (by decide)) Snd.nil))))))
theorem bX6_lots_108_68 {l : Launch} {E : XE} : Snd l E mX6_lots 108 68 (xs [x_id]) := Snd.cons (snd_goto (tgt := 68) dX6_lots_108 (by decide)) Snd.nil
set_option maxHeartbeats 4000000 in
set_option maxRecDepth 100000 in
theorem p_lots_w0 {l : Launch} {E : XE} (T : TopN) (S P U : SaleN) (O : OutN) (B : BillN) (Q : SeaN) (C : ScrN) (R : PrtN) (tl rf : Nat → Nat) (n : Nat) (z : Int32) (hS : SaleOK S) (hQ : Q.fd < 2147483648) (hn : 1 ≤ n ∧ n ≤ 20) : MetE l E mX6_lots (5) 0 0 [.ref 0, .int (nI (n)), .int (z), .int (nI (0))] (compW T S P U O B Q C R tl rf) (CP T S P (C.lt) (C.sz) tl rf (some (.int (zI (lotW S z n))))) := by
  refine MetE.of (by decide +kernel) (Nat.le_of_ble_eq_true rfl) ?_
  have hca := hS.1
  have hpw := pow_ca hS
  have hac := ac_lt hS
  
  refine ev_eq (lv' := [(0, .ref 0), (1, .int (nI (n))), (2, .int (z)), (3, .int (nI (0)))]) (st' := []) (w' := compW T S P U O B Q C R tl rf) rfl rfl rfl ?_
  refine ev_b bX6_lots_0_2 (lv' := [(0, .ref 0), (1, .int (nI (n))), (2, .int (z)), (3, .int (nI (0)))]) (st' := [.int (nI (1)), .int (nI (n))]) (w2 := compW T S P U O B Q C R tl rf) rfl ?_
  refine ev_icmp_ge_n (tgt := 12) (by omega) (by decide) dX6_lots_2 (by decide) (fun h2 => ?_) (fun h2 => (by exfalso; omega))
  refine ev_b bX6_lots_12_15 (lv' := [(0, .ref 0), (1, .int (nI (n))), (2, .int (z)), (3, .int (nI (0)))]) (st' := [.int (nI (20)), .int (nI (n))]) (w2 := compW T S P U O B Q C R tl rf) rfl ?_
  refine ev_icmp_le_n (tgt := 25) (by omega) (by decide) dX6_lots_15 (by decide) (fun h15 => ?_) (fun h15 => (by exfalso; omega))
  refine ev_b bX6_lots_25_26 (lv' := [(0, .ref 0), (1, .int (nI (n))), (2, .int (z)), (3, .int (nI (0)))]) (st' := [.int (nI (0))]) (w2 := compW T S P U O B Q C R tl rf) rfl ?_
  refine ev_callS (Yc := mX6_isEither) [] dX6_lots_26 tw_667 kX6_isEither m_X6_isEither_0 rfl (st := []) rfl (by decide) rfl (by decide) (Nat.le_of_ble_eq_true rfl) (Nat.le_refl _) (Nat.le_refl _) (fun r w' h => by obtain ⟨-, rfl⟩ := h; exact Nat.le_of_ble_eq_true rfl) ?_
  rintro _ _ ⟨rfl, rfl⟩
  refine ev_eq (lv' := [(0, .ref 0), (1, .int (nI (n))), (2, .int (z)), (3, .int (nI (0)))]) (st' := [.int (nI (1))]) (w' := compW T S P U O B Q C R tl rf) rfl rfl rfl ?_
  refine ev_if_ne_n (tgt := 39) (by decide) dX6_lots_29 (by decide) (fun h29 => ?_) (fun h29 => (by exfalso; omega))
  refine ev_b bX6_lots_39_47 (lv' := [(0, .ref 0), (1, .int (nI (n))), (2, .int (z)), (3, .int (nI (0)))]) (st' := [.ref 1, .ref 17]) (w2 := compW T S P U O B Q C R tl rf) rfl ?_
  refine ev_callVN (Yc := mX3_takeFrom) [17, 18, 19, 20, 21, 22, 23, 24, 1, 2, 3, 4, 5, 6, 7, 8] dX6_lots_47 tn_372 kX3_takeFrom (m_X3_takeFrom U S) rfl (st := []) rfl rfl rfl (by decide) hw_comp__17_1 (by decide) (Nat.le_of_ble_eq_true rfl) (Nat.le_refl _) (Nat.le_refl _) (fun r w' h => by obtain ⟨-, rfl⟩ := h; exact Nat.le_of_ble_eq_true rfl) ?_
  rintro _ _ ⟨rfl, rfl⟩
  refine ev_eq (lv' := [(0, .ref 0), (1, .int (nI (n))), (2, .int (z)), (3, .int (nI (0)))]) (st' := []) (w' := compW T S P S O B Q C R tl rf) rfl rfl xp_comp__17_1 ?_
  refine ev_b bX6_lots_50_59 (lv' := [(6, .int (nI (0))), (5, .int (nI (0))), (4, .int (z)), (0, .ref 0), (1, .int (nI (n))), (2, .int (z)), (3, .int (nI (0)))]) (st' := []) (w2 := compW T S P S O B Q C R tl rf) rfl ?_
  have L59 : ∀ (j_ k : Nat), k + j_ = n → ∀ (O1 : OutN) (B1 : BillN), True → Ev l E mX6_lots (5) 0 0 (compW T S P U O B Q C R tl rf) (CP T S P (C.lt) (C.sz) tl rf (some (.int (zI (lotW S z n))))) 0 0 59 [(6, .int (nI (k))), (5, .int (zI (lotW S z k))), (4, .int ((lotC S z k).2)), (0, .ref 0), (1, .int (nI (n))), (2, .int (z)), (3, .int (nI (0)))] [] (compW T S P ((prS S (lotC S z k).1)) O1 B1 Q C R tl rf) := by
    intro j_
    induction j_ with
    | zero =>
      intro k hk59 O1 B1 hinv59
      replace hk59 : k = n := hk59
      refine ev_b bX6_lots_59_62 (lv' := [(6, .int (nI (k))), (5, .int (zI (lotW S z k))), (4, .int ((lotC S z k).2)), (0, .ref 0), (1, .int (nI (n))), (2, .int (z)), (3, .int (nI (0)))]) (st' := [.int (nI (n)), .int (nI (k))]) (w2 := compW T S P ((prS S (lotC S z k).1)) O1 B1 Q C R tl rf) rfl ?_
      refine ev_icmp_ge_n (tgt := 156) (by omega) (by omega) dX6_lots_62 (by decide) (fun h62 => ?_) (fun h62 => (by exfalso; omega))
      refine ev_b bX6_lots_156_158 (lv' := [(6, .int (nI (k))), (5, .int (zI (lotW S z k))), (4, .int ((lotC S z k).2)), (0, .ref 0), (1, .int (nI (n))), (2, .int (z)), (3, .int (nI (0)))]) (st' := [.int (zI (lotW S z k))]) (w2 := compW T S P ((prS S (lotC S z k).1)) O1 B1 Q C R tl rf) rfl ?_
      exact ev_iret dX6_lots_158 rfl (Nat.le_refl 49) (Nat.le_refl _) (Nat.le_refl _) ⟨by rw [hk59], _, _, _, _, _, _, rfl, hQ, rfl, rfl⟩
    | succ j_ ih59 =>
      intro k hk59 O1 B1 hinv59
      have hlt59 : k < n := by omega
      refine ev_b bX6_lots_59_62 (lv' := [(6, .int (nI (k))), (5, .int (zI (lotW S z k))), (4, .int ((lotC S z k).2)), (0, .ref 0), (1, .int (nI (n))), (2, .int (z)), (3, .int (nI (0)))]) (st' := [.int (nI (n)), .int (nI (k))]) (w2 := compW T S P ((prS S (lotC S z k).1)) O1 B1 Q C R tl rf) rfl ?_
      refine ev_icmp_ge_n (tgt := 156) (by omega) (by omega) dX6_lots_62 (by decide) (fun h62 => (by exfalso; omega)) (fun h62 => ?_)
      refine ev_b bX6_lots_65_68 (lv' := [(7, .int (nI (0))), (6, .int (nI (k))), (5, .int (zI (lotW S z k))), (4, .int ((lotC S z k).2)), (0, .ref 0), (1, .int (nI (n))), (2, .int (z)), (3, .int (nI (0)))]) (st' := []) (w2 := compW T S P ((prS S (lotC S z k).1)) O1 B1 Q C R tl rf) rfl ?_
      have L68 : ∀ (j_ j : Nat), j + j_ = S.ca → Ev l E mX6_lots (5) 0 0 (compW T S P U O B Q C R tl rf) (CP T S P (C.lt) (C.sz) tl rf (some (.int (zI (lotW S z n))))) 0 0 68 [(7, .int (nI (j))), (4, .int ((drB (lotC S z k) j).2)), (0, .ref 0), (1, .int (nI (n))), (2, .int (z)), (3, .int (nI (0))), (5, .int (zI (lotW S z k))), (6, .int (nI (k)))] [] (compW T S P ((prS S (drB (lotC S z k) j).1)) O1 B1 Q C R tl rf) := by
        intro j_
        induction j_ with
        | zero =>
          intro j hk68  
          replace hk68 : j = S.ca := hk68
          subst hk68
          have hcaU : SaleN.ca (prS S (drB (lotC S z k) S.ca).1) = S.ca := rfl
          refine ev_b bX6_lots_68_77 (lv' := [(7, .int (nI (S.ca))), (4, .int ((drB (lotC S z k) S.ca).2)), (0, .ref 0), (1, .int (nI (n))), (2, .int (z)), (3, .int (nI (0))), (5, .int (zI (lotW S z k))), (6, .int (nI (k)))]) (st' := [.int (nI (SaleN.ca ((prS S (drB (lotC S z k) S.ca).1)))), .int (nI (S.ca))]) (w2 := compW T S P ((prS S (drB (lotC S z k) S.ca).1)) O1 B1 Q C R tl rf) rfl ?_
          refine ev_icmp_ge_n (tgt := 111) (by omega) (by omega) dX6_lots_77 (by decide) (fun h77 => ?_) (fun h77 => (by exfalso; omega))
          refine ev_eq (lv' := [(7, .int (nI (S.ca))), (4, .int ((lotC S z (k + 1)).2)), (0, .ref 0), (1, .int (nI (n))), (2, .int (z)), (3, .int (nI (0))), (5, .int (zI (lotW S z k))), (6, .int (nI (k)))]) (w' := compW T S P ((prS S (lotC S z (k + 1)).1)) O1 B1 Q C R tl rf) rfl rfl rfl ?_
          refine ev_b bX6_lots_111_116 (lv' := [(7, .int (nI (S.ca))), (4, .int ((lotC S z (k + 1)).2)), (0, .ref 0), (1, .int (nI (n))), (2, .int (z)), (3, .int (nI (0))), (5, .int (zI (lotW S z k))), (6, .int (nI (k)))]) (st' := [.ref 17, .ref 0]) (w2 := compW T S P ((prS S (lotC S z (k + 1)).1)) O1 B1 Q C R tl rf) rfl ?_
          refine ev_callV (Yc := mX6_charge) (rng 0 49) dX6_lots_116 tw_588 kX6_charge (m_X6_charge_U T S P ((prS S (lotC S z (k + 1)).1)) O1 B1 Q C R tl rf (lot_ok hS (k + 1))) rfl (st := []) rfl rfl rfl (by decide) comp_hw (by decide) (Nat.le_of_ble_eq_true rfl) (Nat.le_refl _) (Nat.le_refl _) (fun r w' h => by obtain ⟨-, O', rfl, -⟩ := h; exact Nat.le_refl 49) ?_
          rintro _ _ ⟨rfl, O2, rfl, hK2⟩
          refine ev_eq (lv' := [(7, .int (nI (S.ca))), (4, .int ((lotC S z (k + 1)).2)), (0, .ref 0), (1, .int (nI (n))), (2, .int (z)), (3, .int (nI (0))), (5, .int (zI (lotW S z k))), (6, .int (nI (k)))]) (st' := []) (w' := compW T S P ((prS S (lotC S z (k + 1)).1)) O2 ((chB (prS S (lotC S z (k + 1)).1) B1.li B1.gw B1.un B1.lc)) Q C R tl rf) rfl rfl comp_xp ?_
          refine ev_b bX6_lots_119_122 (lv' := [(7, .int (nI (S.ca))), (4, .int ((lotC S z (k + 1)).2)), (0, .ref 0), (1, .int (nI (n))), (2, .int (z)), (3, .int (nI (0))), (5, .int (zI (lotW S z k))), (6, .int (nI (k)))]) (st' := [.int (nI (0)), .int (zI (lotW S z k))]) (w2 := compW T S P ((prS S (lotC S z (k + 1)).1)) O2 ((chB (prS S (lotC S z (k + 1)).1) B1.li B1.gw B1.un B1.lc)) Q C R tl rf) rfl ?_
          refine ev_if_ne_n (tgt := 135) (by decide) dX6_lots_122 (by decide) (fun h122 => (by exfalso; omega)) (fun h122 => ?_)
          refine ev_b bX6_lots_125_147 (lv' := [(7, .int (nI (S.ca))), (4, .int ((lotC S z (k + 1)).2)), (0, .ref 0), (1, .int (nI (n))), (2, .int (z)), (3, .int (nI (0))), (5, .int (zI (lotW S z k))), (6, .int (nI (k)))]) (st' := [.int (nI (BillN.wr ((chB (prS S (lotC S z (k + 1)).1) B1.li B1.gw B1.un B1.lc)))), .int (zI (lotW S z k))]) (w2 := compW T S P ((prS S (lotC S z (k + 1)).1)) O2 ((chB (prS S (lotC S z (k + 1)).1) B1.li B1.gw B1.un B1.lc)) Q C R tl rf) rfl ?_
          refine ev_top (y := zI (((BillN.wr ((chB (prS S (lotC S z (k + 1)).1) B1.li B1.gw B1.un B1.lc)) : Nat) : Int))) (zI_nat _).symm ?_
          refine ev_iadd_z dX6_lots_147 ?_
          refine ev_b bX6_lots_148_150 (lv' := [(5, .int (zI ((lotW S z k) + (((BillN.wr ((chB (prS S (lotC S z (k + 1)).1) B1.li B1.gw B1.un B1.lc)) : Nat) : Int))))), (7, .int (nI (S.ca))), (4, .int ((lotC S z (k + 1)).2)), (0, .ref 0), (1, .int (nI (n))), (2, .int (z)), (3, .int (nI (0))), (6, .int (nI (k)))]) (st' := []) (w2 := compW T S P ((prS S (lotC S z (k + 1)).1)) O2 ((chB (prS S (lotC S z (k + 1)).1) B1.li B1.gw B1.un B1.lc)) Q C R tl rf) rfl ?_
          refine ev_iinc_n (x := k) (v := 1) dX6_lots_150 rfl (by decide) ?_
          refine ev_eq (lv' := [(6, .int (nI (k + 1))), (5, .int (zI ((lotW S z k) + (((BillN.wr ((chB (prS S (lotC S z (k + 1)).1) B1.li B1.gw B1.un B1.lc)) : Nat) : Int))))), (7, .int (nI (S.ca))), (4, .int ((lotC S z (k + 1)).2)), (0, .ref 0), (1, .int (nI (n))), (2, .int (z)), (3, .int (nI (0)))]) rfl rfl rfl ?_
          refine ev_b bX6_lots_153_59 (lv' := [(6, .int (nI (k + 1))), (5, .int (zI ((lotW S z k) + (((BillN.wr ((chB (prS S (lotC S z (k + 1)).1) B1.li B1.gw B1.un B1.lc)) : Nat) : Int))))), (7, .int (nI (S.ca))), (4, .int ((lotC S z (k + 1)).2)), (0, .ref 0), (1, .int (nI (n))), (2, .int (z)), (3, .int (nI (0)))]) (st' := []) (w2 := compW T S P ((prS S (lotC S z (k + 1)).1)) O2 ((chB (prS S (lotC S z (k + 1)).1) B1.li B1.gw B1.un B1.lc)) Q C R tl rf) rfl ?_
          refine ev_pick (lv' := [(6, .int (nI (k + 1))), (5, .int (zI ((lotW S z k) + (((BillN.wr ((chB (prS S (lotC S z (k + 1)).1) B1.li B1.gw B1.un B1.lc)) : Nat) : Int))))), (4, .int ((lotC S z (k + 1)).2)), (0, .ref 0), (1, .int (nI (n))), (2, .int (z)), (3, .int (nI (0)))]) rfl ?_
          rw [show nI (k + 1) = nI ((k + 1)) from congrArg nI (by omega)]
          rw [show zI ((lotW S z k) + (((BillN.wr ((chB (prS S (lotC S z (k + 1)).1) B1.li B1.gw B1.un B1.lc)) : Nat) : Int))) = zI (lotW S z (k + 1)) from congrArg zI (by exact rfl)]
          exact ih59 (k + 1) (by omega) O2 (chB (prS S (lotC S z (k + 1)).1) B1.li B1.gw B1.un B1.lc) trivial
        | succ j_ ih68 =>
          intro j hk68  
          have hlt68 : j < S.ca := by omega
          have hcaU : SaleN.ca (prS S (drB (lotC S z k) j).1) = S.ca := rfl
          refine ev_b bX6_lots_68_77 (lv' := [(7, .int (nI (j))), (4, .int ((drB (lotC S z k) j).2)), (0, .ref 0), (1, .int (nI (n))), (2, .int (z)), (3, .int (nI (0))), (5, .int (zI (lotW S z k))), (6, .int (nI (k)))]) (st' := [.int (nI (SaleN.ca ((prS S (drB (lotC S z k) j).1)))), .int (nI (j))]) (w2 := compW T S P ((prS S (drB (lotC S z k) j).1)) O1 B1 Q C R tl rf) rfl ?_
          refine ev_icmp_ge_n (tgt := 111) (by omega) (by omega) dX6_lots_77 (by decide) (fun h77 => (by exfalso; omega)) (fun h77 => ?_)
          refine ev_b bX6_lots_80_82 (lv' := [(7, .int (nI (j))), (4, .int ((drB (lotC S z k) j).2)), (0, .ref 0), (1, .int (nI (n))), (2, .int (z)), (3, .int (nI (0))), (5, .int (zI (lotW S z k))), (6, .int (nI (k)))]) (st' := [.int ((drB (lotC S z k) j).2)]) (w2 := compW T S P ((prS S (drB (lotC S z k) j).1)) O1 B1 Q C R tl rf) rfl ?_
          refine ev_callS (Yc := mX6_nextSeed) [] dX6_lots_82 tw_874 kX6_nextSeed (m_X6_nextSeed ((drB (lotC S z k) j).2)) rfl (st := []) rfl (by decide) rfl (by decide) (Nat.le_of_ble_eq_true rfl) (Nat.le_refl _) (Nat.le_refl _) (fun r w' h => by obtain ⟨-, rfl⟩ := h; exact Nat.le_of_ble_eq_true rfl) ?_
          rintro _ _ ⟨rfl, rfl⟩
          refine ev_eq (lv' := [(7, .int (nI (j))), (4, .int ((drB (lotC S z k) j).2)), (0, .ref 0), (1, .int (nI (n))), (2, .int (z)), (3, .int (nI (0))), (5, .int (zI (lotW S z k))), (6, .int (nI (k)))]) (st' := [.int (seedN (drB (lotC S z k) j).2)]) (w' := compW T S P ((prS S (drB (lotC S z k) j).1)) O1 B1 Q C R tl rf) rfl rfl rfl ?_
          refine ev_b bX6_lots_85_98 (lv' := [(4, .int (seedN (drB (lotC S z k) j).2)), (7, .int (nI (j))), (0, .ref 0), (1, .int (nI (n))), (2, .int (z)), (3, .int (nI (0))), (5, .int (zI (lotW S z k))), (6, .int (nI (k)))]) (st' := [.int (nI (99)), .int (seedN (drB (lotC S z k) j).2), .int (nI (1)), .int (nI (j)), .ref 17]) (w2 := compW T S P ((prS S (drB (lotC S z k) j).1)) O1 B1 Q C R tl rf) rfl ?_
          refine ev_callS (Yc := mX6_drawn) [] dX6_lots_98 tw_879 kX6_drawn (m_X6_drawn (seedN (drB (lotC S z k) j).2)) rfl (st := [.int (nI (1)), .int (nI (j)), .ref 17]) rfl (by decide) rfl (by decide) (Nat.le_of_ble_eq_true rfl) (Nat.le_refl _) (Nat.le_refl _) (fun r w' h => by obtain ⟨-, rfl⟩ := h; exact Nat.le_of_ble_eq_true rfl) ?_
          rintro _ _ ⟨rfl, rfl⟩
          refine ev_eq (lv' := [(4, .int (seedN (drB (lotC S z k) j).2)), (7, .int (nI (j))), (0, .ref 0), (1, .int (nI (n))), (2, .int (z)), (3, .int (nI (0))), (5, .int (zI (lotW S z k))), (6, .int (nI (k)))]) (st' := [.int (nI (drN (seedN (drB (lotC S z k) j).2))), .int (nI (1)), .int (nI (j)), .ref 17]) (w' := compW T S P ((prS S (drB (lotC S z k) j).1)) O1 B1 Q C R tl rf) rfl rfl rfl ?_
          refine ev_iadd_n dX6_lots_101 ?_
          refine ev_callVN (Yc := mX3_setPrice) [17, 18, 19, 20, 21, 22, 23, 24] dX6_lots_102 tn_457 kX3_setPrice (m_X3_setPrice (prS S (drB (lotC S z k) j).1) j (1 + drN (seedN (drB (lotC S z k) j).2)) (prS_ok hS (drB_le (lot_le hS k) j)) hlt68) rfl (st := []) rfl rfl rfl (by decide) hw_comp__17 (by decide) (Nat.le_of_ble_eq_true rfl) (Nat.le_refl _) (Nat.le_refl _) (fun r w' h => by obtain ⟨-, rfl⟩ := h; exact Nat.le_of_ble_eq_true rfl) ?_
          rintro _ _ ⟨rfl, rfl⟩
          refine ev_eq (lv' := [(4, .int (seedN (drB (lotC S z k) j).2)), (7, .int (nI (j))), (0, .ref 0), (1, .int (nI (n))), (2, .int (z)), (3, .int (nI (0))), (5, .int (zI (lotW S z k))), (6, .int (nI (k)))]) (st' := []) (w' := compW T S P ((priceS (prS S (drB (lotC S z k) j).1) j (1 + drN (seedN (drB (lotC S z k) j).2)))) O1 B1 Q C R tl rf) rfl rfl xp_comp__17 ?_
          refine ev_iinc_n (x := j) (v := 1) dX6_lots_105 rfl (by decide) ?_
          refine ev_eq (lv' := [(7, .int (nI (j + 1))), (4, .int (seedN (drB (lotC S z k) j).2)), (0, .ref 0), (1, .int (nI (n))), (2, .int (z)), (3, .int (nI (0))), (5, .int (zI (lotW S z k))), (6, .int (nI (k)))]) rfl rfl rfl ?_
          refine ev_b bX6_lots_108_68 (lv' := [(7, .int (nI (j + 1))), (4, .int (seedN (drB (lotC S z k) j).2)), (0, .ref 0), (1, .int (nI (n))), (2, .int (z)), (3, .int (nI (0))), (5, .int (zI (lotW S z k))), (6, .int (nI (k)))]) (st' := []) (w2 := compW T S P ((priceS (prS S (drB (lotC S z k) j).1) j (1 + drN (seedN (drB (lotC S z k) j).2)))) O1 B1 Q C R tl rf) rfl ?_
          rw [show nI (j + 1) = nI ((j + 1)) from congrArg nI (by omega)]
          rw [show (.int (seedN (drB (lotC S z k) j).2) : Value) = .int ((drB (lotC S z k) (j + 1)).2) from by rw [drB_s2]]
          refine ev_eq (lv' := [(7, .int (nI ((j + 1)))), (4, .int ((drB (lotC S z k) (j + 1)).2)), (0, .ref 0), (1, .int (nI (n))), (2, .int (z)), (3, .int (nI (0))), (5, .int (zI (lotW S z k))), (6, .int (nI (k)))]) (w' := compW T S P ((prS S (drB (lotC S z k) (j + 1)).1)) O1 B1 Q C R tl rf) rfl rfl (by rw [drB_s1] <;> rfl) ?_
          exact ih68 (j + 1) (by omega) 
      refine ev_pick (lv' := [(7, .int (nI (0))), (4, .int ((lotC S z k).2)), (0, .ref 0), (1, .int (nI (n))), (2, .int (z)), (3, .int (nI (0))), (5, .int (zI (lotW S z k))), (6, .int (nI (k)))]) rfl ?_
      exact L68 S.ca 0 (by omega) 
  rw [show nI (0) = zI (lotW S z 0) from by rw [← zI_nat]; exact congrArg zI (by exact rfl)]
  exact L59 n 0 (by omega) O B trivial
theorem bX6_lots_135_144 {l : Launch} {E : XE} : Snd l E mX6_lots 135 144 (xs [x_aload 0, x_get 7 4, x_get 1 1, x_push (.int (nI 31))]) := Snd.cons (snd_aload_n (i := 0) dX6_lots_135 rfl) (Snd.cons (snd_get (ci := 7) (k := 4) dX6_lots_136 rfl inX6 (by decide) tw_211) (Snd.cons (snd_getN (ci := 1) (k := 1) dX6_lots_139 rfl inX0 (by decide) tn_105) (Snd.cons (snd_bipush (v := nI 31) dX6_lots_142 (by decide)) Snd.nil)))
set_option maxHeartbeats 4000000 in
set_option maxRecDepth 100000 in
theorem p_lots_w1 {l : Launch} {E : XE} (T : TopN) (S P U : SaleN) (O : OutN) (B : BillN) (Q : SeaN) (C : ScrN) (R : PrtN) (tl rf : Nat → Nat) (n : Nat) (z : Int32) (hS : SaleOK S) (hQ : Q.fd < 2147483648) (hn : 1 ≤ n ∧ n ≤ 20) : MetE l E mX6_lots (5) 0 0 [.ref 0, .int (nI (n)), .int (z), .int (nI (1))] (compW T S P U O B Q C R tl rf) (CP T S P (C.lt) (C.sz) tl rf (some (.int (zI (lotP S z n))))) := by
  refine MetE.of (by decide +kernel) (Nat.le_of_ble_eq_true rfl) ?_
  have hca := hS.1
  have hpw := pow_ca hS
  have hac := ac_lt hS
  
  refine ev_eq (lv' := [(0, .ref 0), (1, .int (nI (n))), (2, .int (z)), (3, .int (nI (1)))]) (st' := []) (w' := compW T S P U O B Q C R tl rf) rfl rfl rfl ?_
  refine ev_b bX6_lots_0_2 (lv' := [(0, .ref 0), (1, .int (nI (n))), (2, .int (z)), (3, .int (nI (1)))]) (st' := [.int (nI (1)), .int (nI (n))]) (w2 := compW T S P U O B Q C R tl rf) rfl ?_
  refine ev_icmp_ge_n (tgt := 12) (by omega) (by decide) dX6_lots_2 (by decide) (fun h2 => ?_) (fun h2 => (by exfalso; omega))
  refine ev_b bX6_lots_12_15 (lv' := [(0, .ref 0), (1, .int (nI (n))), (2, .int (z)), (3, .int (nI (1)))]) (st' := [.int (nI (20)), .int (nI (n))]) (w2 := compW T S P U O B Q C R tl rf) rfl ?_
  refine ev_icmp_le_n (tgt := 25) (by omega) (by decide) dX6_lots_15 (by decide) (fun h15 => ?_) (fun h15 => (by exfalso; omega))
  refine ev_b bX6_lots_25_26 (lv' := [(0, .ref 0), (1, .int (nI (n))), (2, .int (z)), (3, .int (nI (1)))]) (st' := [.int (nI (1))]) (w2 := compW T S P U O B Q C R tl rf) rfl ?_
  refine ev_callS (Yc := mX6_isEither) [] dX6_lots_26 tw_667 kX6_isEither m_X6_isEither_1 rfl (st := []) rfl (by decide) rfl (by decide) (Nat.le_of_ble_eq_true rfl) (Nat.le_refl _) (Nat.le_refl _) (fun r w' h => by obtain ⟨-, rfl⟩ := h; exact Nat.le_of_ble_eq_true rfl) ?_
  rintro _ _ ⟨rfl, rfl⟩
  refine ev_eq (lv' := [(0, .ref 0), (1, .int (nI (n))), (2, .int (z)), (3, .int (nI (1)))]) (st' := [.int (nI (1))]) (w' := compW T S P U O B Q C R tl rf) rfl rfl rfl ?_
  refine ev_if_ne_n (tgt := 39) (by decide) dX6_lots_29 (by decide) (fun h29 => ?_) (fun h29 => (by exfalso; omega))
  refine ev_b bX6_lots_39_47 (lv' := [(0, .ref 0), (1, .int (nI (n))), (2, .int (z)), (3, .int (nI (1)))]) (st' := [.ref 1, .ref 17]) (w2 := compW T S P U O B Q C R tl rf) rfl ?_
  refine ev_callVN (Yc := mX3_takeFrom) [17, 18, 19, 20, 21, 22, 23, 24, 1, 2, 3, 4, 5, 6, 7, 8] dX6_lots_47 tn_372 kX3_takeFrom (m_X3_takeFrom U S) rfl (st := []) rfl rfl rfl (by decide) hw_comp__17_1 (by decide) (Nat.le_of_ble_eq_true rfl) (Nat.le_refl _) (Nat.le_refl _) (fun r w' h => by obtain ⟨-, rfl⟩ := h; exact Nat.le_of_ble_eq_true rfl) ?_
  rintro _ _ ⟨rfl, rfl⟩
  refine ev_eq (lv' := [(0, .ref 0), (1, .int (nI (n))), (2, .int (z)), (3, .int (nI (1)))]) (st' := []) (w' := compW T S P S O B Q C R tl rf) rfl rfl xp_comp__17_1 ?_
  refine ev_b bX6_lots_50_59 (lv' := [(6, .int (nI (0))), (5, .int (nI (0))), (4, .int (z)), (0, .ref 0), (1, .int (nI (n))), (2, .int (z)), (3, .int (nI (1)))]) (st' := []) (w2 := compW T S P S O B Q C R tl rf) rfl ?_
  have L59 : ∀ (j_ k : Nat), k + j_ = n → ∀ (O1 : OutN) (B1 : BillN), True → Ev l E mX6_lots (5) 0 0 (compW T S P U O B Q C R tl rf) (CP T S P (C.lt) (C.sz) tl rf (some (.int (zI (lotP S z n))))) 0 0 59 [(6, .int (nI (k))), (5, .int (zI (lotP S z k))), (4, .int ((lotC S z k).2)), (0, .ref 0), (1, .int (nI (n))), (2, .int (z)), (3, .int (nI (1)))] [] (compW T S P ((prS S (lotC S z k).1)) O1 B1 Q C R tl rf) := by
    intro j_
    induction j_ with
    | zero =>
      intro k hk59 O1 B1 hinv59
      replace hk59 : k = n := hk59
      refine ev_b bX6_lots_59_62 (lv' := [(6, .int (nI (k))), (5, .int (zI (lotP S z k))), (4, .int ((lotC S z k).2)), (0, .ref 0), (1, .int (nI (n))), (2, .int (z)), (3, .int (nI (1)))]) (st' := [.int (nI (n)), .int (nI (k))]) (w2 := compW T S P ((prS S (lotC S z k).1)) O1 B1 Q C R tl rf) rfl ?_
      refine ev_icmp_ge_n (tgt := 156) (by omega) (by omega) dX6_lots_62 (by decide) (fun h62 => ?_) (fun h62 => (by exfalso; omega))
      refine ev_b bX6_lots_156_158 (lv' := [(6, .int (nI (k))), (5, .int (zI (lotP S z k))), (4, .int ((lotC S z k).2)), (0, .ref 0), (1, .int (nI (n))), (2, .int (z)), (3, .int (nI (1)))]) (st' := [.int (zI (lotP S z k))]) (w2 := compW T S P ((prS S (lotC S z k).1)) O1 B1 Q C R tl rf) rfl ?_
      exact ev_iret dX6_lots_158 rfl (Nat.le_refl 49) (Nat.le_refl _) (Nat.le_refl _) ⟨by rw [hk59], _, _, _, _, _, _, rfl, hQ, rfl, rfl⟩
    | succ j_ ih59 =>
      intro k hk59 O1 B1 hinv59
      have hlt59 : k < n := by omega
      refine ev_b bX6_lots_59_62 (lv' := [(6, .int (nI (k))), (5, .int (zI (lotP S z k))), (4, .int ((lotC S z k).2)), (0, .ref 0), (1, .int (nI (n))), (2, .int (z)), (3, .int (nI (1)))]) (st' := [.int (nI (n)), .int (nI (k))]) (w2 := compW T S P ((prS S (lotC S z k).1)) O1 B1 Q C R tl rf) rfl ?_
      refine ev_icmp_ge_n (tgt := 156) (by omega) (by omega) dX6_lots_62 (by decide) (fun h62 => (by exfalso; omega)) (fun h62 => ?_)
      refine ev_b bX6_lots_65_68 (lv' := [(7, .int (nI (0))), (6, .int (nI (k))), (5, .int (zI (lotP S z k))), (4, .int ((lotC S z k).2)), (0, .ref 0), (1, .int (nI (n))), (2, .int (z)), (3, .int (nI (1)))]) (st' := []) (w2 := compW T S P ((prS S (lotC S z k).1)) O1 B1 Q C R tl rf) rfl ?_
      have L68 : ∀ (j_ j : Nat), j + j_ = S.ca → Ev l E mX6_lots (5) 0 0 (compW T S P U O B Q C R tl rf) (CP T S P (C.lt) (C.sz) tl rf (some (.int (zI (lotP S z n))))) 0 0 68 [(7, .int (nI (j))), (4, .int ((drB (lotC S z k) j).2)), (0, .ref 0), (1, .int (nI (n))), (2, .int (z)), (3, .int (nI (1))), (5, .int (zI (lotP S z k))), (6, .int (nI (k)))] [] (compW T S P ((prS S (drB (lotC S z k) j).1)) O1 B1 Q C R tl rf) := by
        intro j_
        induction j_ with
        | zero =>
          intro j hk68  
          replace hk68 : j = S.ca := hk68
          subst hk68
          have hcaU : SaleN.ca (prS S (drB (lotC S z k) S.ca).1) = S.ca := rfl
          refine ev_b bX6_lots_68_77 (lv' := [(7, .int (nI (S.ca))), (4, .int ((drB (lotC S z k) S.ca).2)), (0, .ref 0), (1, .int (nI (n))), (2, .int (z)), (3, .int (nI (1))), (5, .int (zI (lotP S z k))), (6, .int (nI (k)))]) (st' := [.int (nI (SaleN.ca ((prS S (drB (lotC S z k) S.ca).1)))), .int (nI (S.ca))]) (w2 := compW T S P ((prS S (drB (lotC S z k) S.ca).1)) O1 B1 Q C R tl rf) rfl ?_
          refine ev_icmp_ge_n (tgt := 111) (by omega) (by omega) dX6_lots_77 (by decide) (fun h77 => ?_) (fun h77 => (by exfalso; omega))
          refine ev_eq (lv' := [(7, .int (nI (S.ca))), (4, .int ((lotC S z (k + 1)).2)), (0, .ref 0), (1, .int (nI (n))), (2, .int (z)), (3, .int (nI (1))), (5, .int (zI (lotP S z k))), (6, .int (nI (k)))]) (w' := compW T S P ((prS S (lotC S z (k + 1)).1)) O1 B1 Q C R tl rf) rfl rfl rfl ?_
          refine ev_b bX6_lots_111_116 (lv' := [(7, .int (nI (S.ca))), (4, .int ((lotC S z (k + 1)).2)), (0, .ref 0), (1, .int (nI (n))), (2, .int (z)), (3, .int (nI (1))), (5, .int (zI (lotP S z k))), (6, .int (nI (k)))]) (st' := [.ref 17, .ref 0]) (w2 := compW T S P ((prS S (lotC S z (k + 1)).1)) O1 B1 Q C R tl rf) rfl ?_
          refine ev_callV (Yc := mX6_charge) (rng 0 49) dX6_lots_116 tw_588 kX6_charge (m_X6_charge_U T S P ((prS S (lotC S z (k + 1)).1)) O1 B1 Q C R tl rf (lot_ok hS (k + 1))) rfl (st := []) rfl rfl rfl (by decide) comp_hw (by decide) (Nat.le_of_ble_eq_true rfl) (Nat.le_refl _) (Nat.le_refl _) (fun r w' h => by obtain ⟨-, O', rfl, -⟩ := h; exact Nat.le_refl 49) ?_
          rintro _ _ ⟨rfl, O2, rfl, hK2⟩
          refine ev_eq (lv' := [(7, .int (nI (S.ca))), (4, .int ((lotC S z (k + 1)).2)), (0, .ref 0), (1, .int (nI (n))), (2, .int (z)), (3, .int (nI (1))), (5, .int (zI (lotP S z k))), (6, .int (nI (k)))]) (st' := []) (w' := compW T S P ((prS S (lotC S z (k + 1)).1)) O2 ((chB (prS S (lotC S z (k + 1)).1) B1.li B1.gw B1.un B1.lc)) Q C R tl rf) rfl rfl comp_xp ?_
          refine ev_b bX6_lots_119_122 (lv' := [(7, .int (nI (S.ca))), (4, .int ((lotC S z (k + 1)).2)), (0, .ref 0), (1, .int (nI (n))), (2, .int (z)), (3, .int (nI (1))), (5, .int (zI (lotP S z k))), (6, .int (nI (k)))]) (st' := [.int (nI (1)), .int (zI (lotP S z k))]) (w2 := compW T S P ((prS S (lotC S z (k + 1)).1)) O2 ((chB (prS S (lotC S z (k + 1)).1) B1.li B1.gw B1.un B1.lc)) Q C R tl rf) rfl ?_
          refine ev_if_ne_n (tgt := 135) (by decide) dX6_lots_122 (by decide) (fun h122 => ?_) (fun h122 => (by exfalso; omega))
          refine ev_b bX6_lots_135_144 (lv' := [(7, .int (nI (S.ca))), (4, .int ((lotC S z (k + 1)).2)), (0, .ref 0), (1, .int (nI (n))), (2, .int (z)), (3, .int (nI (1))), (5, .int (zI (lotP S z k))), (6, .int (nI (k)))]) (st' := [.int (nI (31)), .ref 32, .int (zI (lotP S z k))]) (w2 := compW T S P ((prS S (lotC S z (k + 1)).1)) O2 ((chB (prS S (lotC S z (k + 1)).1) B1.li B1.gw B1.un B1.lc)) Q C R tl rf) rfl ?_
          refine ev_callSN (Yc := mX0_total) [32] dX6_lots_144 tn_611 kX0_total (m_X0_total (BillN.ha (chB (prS S (lotC S z (k + 1)).1) B1.li B1.gw B1.un B1.lc)) 31 (by decide)) rfl (st := [.int (zI (lotP S z k))]) rfl (by decide) rfl (by decide) (Nat.le_of_ble_eq_true rfl) (Nat.le_refl _) (Nat.le_refl _) (fun r w' h => by obtain ⟨-, rfl⟩ := h; exact Nat.le_of_ble_eq_true rfl) ?_
          rintro _ _ ⟨rfl, rfl⟩
          refine ev_eq (lv' := [(7, .int (nI (S.ca))), (4, .int ((lotC S z (k + 1)).2)), (0, .ref 0), (1, .int (nI (n))), (2, .int (z)), (3, .int (nI (1))), (5, .int (zI (lotP S z k))), (6, .int (nI (k)))]) (st' := [.int (zI (totZ (paidZ (prS S (lotC S z (k + 1)).1)) 31 5)), .int (zI (lotP S z k))]) (w' := compW T S P ((prS S (lotC S z (k + 1)).1)) O2 ((chB (prS S (lotC S z (k + 1)).1) B1.li B1.gw B1.un B1.lc)) Q C R tl rf) rfl rfl rfl ?_
          refine ev_iadd_z dX6_lots_147 ?_
          refine ev_b bX6_lots_148_150 (lv' := [(5, .int (zI ((lotP S z k) + (totZ (paidZ (prS S (lotC S z (k + 1)).1)) 31 5)))), (7, .int (nI (S.ca))), (4, .int ((lotC S z (k + 1)).2)), (0, .ref 0), (1, .int (nI (n))), (2, .int (z)), (3, .int (nI (1))), (6, .int (nI (k)))]) (st' := []) (w2 := compW T S P ((prS S (lotC S z (k + 1)).1)) O2 ((chB (prS S (lotC S z (k + 1)).1) B1.li B1.gw B1.un B1.lc)) Q C R tl rf) rfl ?_
          refine ev_iinc_n (x := k) (v := 1) dX6_lots_150 rfl (by decide) ?_
          refine ev_eq (lv' := [(6, .int (nI (k + 1))), (5, .int (zI ((lotP S z k) + (totZ (paidZ (prS S (lotC S z (k + 1)).1)) 31 5)))), (7, .int (nI (S.ca))), (4, .int ((lotC S z (k + 1)).2)), (0, .ref 0), (1, .int (nI (n))), (2, .int (z)), (3, .int (nI (1)))]) rfl rfl rfl ?_
          refine ev_b bX6_lots_153_59 (lv' := [(6, .int (nI (k + 1))), (5, .int (zI ((lotP S z k) + (totZ (paidZ (prS S (lotC S z (k + 1)).1)) 31 5)))), (7, .int (nI (S.ca))), (4, .int ((lotC S z (k + 1)).2)), (0, .ref 0), (1, .int (nI (n))), (2, .int (z)), (3, .int (nI (1)))]) (st' := []) (w2 := compW T S P ((prS S (lotC S z (k + 1)).1)) O2 ((chB (prS S (lotC S z (k + 1)).1) B1.li B1.gw B1.un B1.lc)) Q C R tl rf) rfl ?_
          refine ev_pick (lv' := [(6, .int (nI (k + 1))), (5, .int (zI ((lotP S z k) + (totZ (paidZ (prS S (lotC S z (k + 1)).1)) 31 5)))), (4, .int ((lotC S z (k + 1)).2)), (0, .ref 0), (1, .int (nI (n))), (2, .int (z)), (3, .int (nI (1)))]) rfl ?_
          rw [show nI (k + 1) = nI ((k + 1)) from congrArg nI (by omega)]
          rw [show zI ((lotP S z k) + (totZ (paidZ (prS S (lotC S z (k + 1)).1)) 31 5)) = zI (lotP S z (k + 1)) from congrArg zI (by exact rfl)]
          exact ih59 (k + 1) (by omega) O2 (chB (prS S (lotC S z (k + 1)).1) B1.li B1.gw B1.un B1.lc) trivial
        | succ j_ ih68 =>
          intro j hk68  
          have hlt68 : j < S.ca := by omega
          have hcaU : SaleN.ca (prS S (drB (lotC S z k) j).1) = S.ca := rfl
          refine ev_b bX6_lots_68_77 (lv' := [(7, .int (nI (j))), (4, .int ((drB (lotC S z k) j).2)), (0, .ref 0), (1, .int (nI (n))), (2, .int (z)), (3, .int (nI (1))), (5, .int (zI (lotP S z k))), (6, .int (nI (k)))]) (st' := [.int (nI (SaleN.ca ((prS S (drB (lotC S z k) j).1)))), .int (nI (j))]) (w2 := compW T S P ((prS S (drB (lotC S z k) j).1)) O1 B1 Q C R tl rf) rfl ?_
          refine ev_icmp_ge_n (tgt := 111) (by omega) (by omega) dX6_lots_77 (by decide) (fun h77 => (by exfalso; omega)) (fun h77 => ?_)
          refine ev_b bX6_lots_80_82 (lv' := [(7, .int (nI (j))), (4, .int ((drB (lotC S z k) j).2)), (0, .ref 0), (1, .int (nI (n))), (2, .int (z)), (3, .int (nI (1))), (5, .int (zI (lotP S z k))), (6, .int (nI (k)))]) (st' := [.int ((drB (lotC S z k) j).2)]) (w2 := compW T S P ((prS S (drB (lotC S z k) j).1)) O1 B1 Q C R tl rf) rfl ?_
          refine ev_callS (Yc := mX6_nextSeed) [] dX6_lots_82 tw_874 kX6_nextSeed (m_X6_nextSeed ((drB (lotC S z k) j).2)) rfl (st := []) rfl (by decide) rfl (by decide) (Nat.le_of_ble_eq_true rfl) (Nat.le_refl _) (Nat.le_refl _) (fun r w' h => by obtain ⟨-, rfl⟩ := h; exact Nat.le_of_ble_eq_true rfl) ?_
          rintro _ _ ⟨rfl, rfl⟩
          refine ev_eq (lv' := [(7, .int (nI (j))), (4, .int ((drB (lotC S z k) j).2)), (0, .ref 0), (1, .int (nI (n))), (2, .int (z)), (3, .int (nI (1))), (5, .int (zI (lotP S z k))), (6, .int (nI (k)))]) (st' := [.int (seedN (drB (lotC S z k) j).2)]) (w' := compW T S P ((prS S (drB (lotC S z k) j).1)) O1 B1 Q C R tl rf) rfl rfl rfl ?_
          refine ev_b bX6_lots_85_98 (lv' := [(4, .int (seedN (drB (lotC S z k) j).2)), (7, .int (nI (j))), (0, .ref 0), (1, .int (nI (n))), (2, .int (z)), (3, .int (nI (1))), (5, .int (zI (lotP S z k))), (6, .int (nI (k)))]) (st' := [.int (nI (99)), .int (seedN (drB (lotC S z k) j).2), .int (nI (1)), .int (nI (j)), .ref 17]) (w2 := compW T S P ((prS S (drB (lotC S z k) j).1)) O1 B1 Q C R tl rf) rfl ?_
          refine ev_callS (Yc := mX6_drawn) [] dX6_lots_98 tw_879 kX6_drawn (m_X6_drawn (seedN (drB (lotC S z k) j).2)) rfl (st := [.int (nI (1)), .int (nI (j)), .ref 17]) rfl (by decide) rfl (by decide) (Nat.le_of_ble_eq_true rfl) (Nat.le_refl _) (Nat.le_refl _) (fun r w' h => by obtain ⟨-, rfl⟩ := h; exact Nat.le_of_ble_eq_true rfl) ?_
          rintro _ _ ⟨rfl, rfl⟩
          refine ev_eq (lv' := [(4, .int (seedN (drB (lotC S z k) j).2)), (7, .int (nI (j))), (0, .ref 0), (1, .int (nI (n))), (2, .int (z)), (3, .int (nI (1))), (5, .int (zI (lotP S z k))), (6, .int (nI (k)))]) (st' := [.int (nI (drN (seedN (drB (lotC S z k) j).2))), .int (nI (1)), .int (nI (j)), .ref 17]) (w' := compW T S P ((prS S (drB (lotC S z k) j).1)) O1 B1 Q C R tl rf) rfl rfl rfl ?_
          refine ev_iadd_n dX6_lots_101 ?_
          refine ev_callVN (Yc := mX3_setPrice) [17, 18, 19, 20, 21, 22, 23, 24] dX6_lots_102 tn_457 kX3_setPrice (m_X3_setPrice (prS S (drB (lotC S z k) j).1) j (1 + drN (seedN (drB (lotC S z k) j).2)) (prS_ok hS (drB_le (lot_le hS k) j)) hlt68) rfl (st := []) rfl rfl rfl (by decide) hw_comp__17 (by decide) (Nat.le_of_ble_eq_true rfl) (Nat.le_refl _) (Nat.le_refl _) (fun r w' h => by obtain ⟨-, rfl⟩ := h; exact Nat.le_of_ble_eq_true rfl) ?_
          rintro _ _ ⟨rfl, rfl⟩
          refine ev_eq (lv' := [(4, .int (seedN (drB (lotC S z k) j).2)), (7, .int (nI (j))), (0, .ref 0), (1, .int (nI (n))), (2, .int (z)), (3, .int (nI (1))), (5, .int (zI (lotP S z k))), (6, .int (nI (k)))]) (st' := []) (w' := compW T S P ((priceS (prS S (drB (lotC S z k) j).1) j (1 + drN (seedN (drB (lotC S z k) j).2)))) O1 B1 Q C R tl rf) rfl rfl xp_comp__17 ?_
          refine ev_iinc_n (x := j) (v := 1) dX6_lots_105 rfl (by decide) ?_
          refine ev_eq (lv' := [(7, .int (nI (j + 1))), (4, .int (seedN (drB (lotC S z k) j).2)), (0, .ref 0), (1, .int (nI (n))), (2, .int (z)), (3, .int (nI (1))), (5, .int (zI (lotP S z k))), (6, .int (nI (k)))]) rfl rfl rfl ?_
          refine ev_b bX6_lots_108_68 (lv' := [(7, .int (nI (j + 1))), (4, .int (seedN (drB (lotC S z k) j).2)), (0, .ref 0), (1, .int (nI (n))), (2, .int (z)), (3, .int (nI (1))), (5, .int (zI (lotP S z k))), (6, .int (nI (k)))]) (st' := []) (w2 := compW T S P ((priceS (prS S (drB (lotC S z k) j).1) j (1 + drN (seedN (drB (lotC S z k) j).2)))) O1 B1 Q C R tl rf) rfl ?_
          rw [show nI (j + 1) = nI ((j + 1)) from congrArg nI (by omega)]
          rw [show (.int (seedN (drB (lotC S z k) j).2) : Value) = .int ((drB (lotC S z k) (j + 1)).2) from by rw [drB_s2]]
          refine ev_eq (lv' := [(7, .int (nI ((j + 1)))), (4, .int ((drB (lotC S z k) (j + 1)).2)), (0, .ref 0), (1, .int (nI (n))), (2, .int (z)), (3, .int (nI (1))), (5, .int (zI (lotP S z k))), (6, .int (nI (k)))]) (w' := compW T S P ((prS S (drB (lotC S z k) (j + 1)).1)) O1 B1 Q C R tl rf) rfl rfl (by rw [drB_s1] <;> rfl) ?_
          exact ih68 (j + 1) (by omega) 
      refine ev_pick (lv' := [(7, .int (nI (0))), (4, .int ((lotC S z k).2)), (0, .ref 0), (1, .int (nI (n))), (2, .int (z)), (3, .int (nI (1))), (5, .int (zI (lotP S z k))), (6, .int (nI (k)))]) rfl ?_
      exact L68 S.ca 0 (by omega) 
  rw [show nI (0) = zI (lotP S z 0) from by rw [← zI_nat]; exact congrArg zI (by exact rfl)]
  exact L59 n 0 (by omega) O B trivial
