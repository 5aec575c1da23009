/-! ===== the reference: THE ORDER, the bound of a branch ===== -/
theorem share_mul {p n : Nat} (h1 : 1 ≤ n) (h2 : n ≤ 6) : 60 / n * p = 60 * p / n := by
  have h : n = 1 ∨ n = 2 ∨ n = 3 ∨ n = 4 ∨ n = 5 ∨ n = 6 := by omega
  rcases h with rfl | rfl | rfl | rfl | rfl | rfl <;> omega
theorem ord_lt {L : List Nat} {f : Nat → Nat} {k p : Nat} (hL : RowIs f L) (hm : ∀ x ∈ L, x < k) (hp : p < L.length) : ∃ m, L[p]? = some m ∧ f p = m ∧ m < k := by
  have h1 := List.getElem?_eq_getElem hp
  exact ⟨_, h1, hL p _ h1, hm _ (List.mem_of_getElem? h1)⟩
theorem bX7_findOrder_0_7 {l : Launch} {E : XE} : Snd l E mX7_findOrder 0 7 (xs [x_aload 0, x_push (.int (nI 0)), x_puti 8 23, x_push (.int (nI 0)), x_istore 1]) := Snd.cons (snd_aload_n (i := 0) dX7_findOrder_0 rfl) (Snd.cons (snd_iconst (v := nI 0) dX7_findOrder_1 (by decide)) (Snd.cons (snd_puti (ci := 8) (k := 23) dX7_findOrder_2 rfl inX7 tyX7_ok nmX7 (by decide) tw_937 rfl rfl) (Snd.cons (snd_iconst (v := nI 0) dX7_findOrder_5 (by decide)) (Snd.cons (snd_istore_n (i := 1) dX7_findOrder_6 rfl (by decide)) Snd.nil))))
theorem bX7_findOrder_7_12 {l : Launch} {E : XE} : Snd l E mX7_findOrder 7 12 (xs [x_iload 1, x_aload 0, x_get 8 6]) := Snd.cons (snd_iload_n (i := 1) dX7_findOrder_7 rfl) (Snd.cons (snd_aload_n (i := 0) dX7_findOrder_8 rfl) (Snd.cons (snd_get (ci := 8) (k := 6) dX7_findOrder_9 rfl inX7 (by decide) tw_920) Snd.nil))
theorem bX7_findOrder_15_20 {l : Launch} {E : XE} : Snd l E mX7_findOrder 15 20 (xs [x_aload 0, x_get 8 7, x_iload 1]) := Snd.cons (snd_aload_n (i := 0) dX7_findOrder_15 rfl) (Snd.cons (snd_get (ci := 8) (k := 7) dX7_findOrder_16 rfl inX7 (by decide) tw_921) (Snd.cons (snd_iload_n (i := 1) dX7_findOrder_19 rfl) Snd.nil))
theorem bX7_findOrder_29_34 {l : Launch} {E : XE} : Snd l E mX7_findOrder 29 34 (xs [x_aload 0, x_get 8 23, x_istore 2]) := Snd.cons (snd_aload_n (i := 0) dX7_findOrder_29 rfl) (Snd.cons (snd_get (ci := 8) (k := 23) dX7_findOrder_30 rfl inX7 (by decide) tw_937) (Snd.cons (snd_istore_n (i := 2) dX7_findOrder_33 rfl (by decide)) Snd.nil))
theorem bX7_findOrder_34_35 {l : Launch} {E : XE} : Snd l E mX7_findOrder 34 35 (xs [x_iload 2]) := Snd.cons (snd_iload_n (i := 2) dX7_findOrder_34 rfl) Snd.nil
theorem bX7_findOrder_107_113 {l : Launch} {E : XE} : Snd l E mX7_findOrder 107 113 (xs [x_aload 0, x_get 8 22, x_iload 2, x_iload 1]) := Snd.cons (snd_aload_n (i := 0) dX7_findOrder_107 rfl) (Snd.cons (snd_get (ci := 8) (k := 22) dX7_findOrder_108 rfl inX7 (by decide) tw_936) (Snd.cons (snd_iload_n (i := 2) dX7_findOrder_111 rfl) (Snd.cons (snd_iload_n (i := 1) dX7_findOrder_112 rfl) Snd.nil)))
theorem bX7_findOrder_114_120 {l : Launch} {E : XE} : Snd l E mX7_findOrder 114 120 (xs [x_aload 0, x_dup, x_get 8 23, x_push (.int (nI 1))]) := Snd.cons (snd_aload_n (i := 0) dX7_findOrder_114 rfl) (Snd.cons (snd_dup dX7_findOrder_115) (Snd.cons (snd_get (ci := 8) (k := 23) dX7_findOrder_116 rfl inX7 (by decide) tw_937) (Snd.cons (snd_iconst (v := nI 1) dX7_findOrder_119 (by decide)) Snd.nil)))
theorem bX7_findOrder_121_124 {l : Launch} {E : XE} : Snd l E mX7_findOrder 121 124 (xs [x_puti 8 23]) := Snd.cons (snd_puti (ci := 8) (k := 23) dX7_findOrder_121 rfl inX7 tyX7_ok nmX7 (by decide) tw_937 rfl rfl) Snd.nil
theorem bX7_findOrder_127_7 {l : Launch} {E : XE} : Snd l E mX7_findOrder 127 7 (xs [x_id]) := Snd.cons (snd_goto (tgt := 7) dX7_findOrder_127 (by decide)) Snd.nil
theorem bX7_findOrder_38_48 {l : Launch} {E : XE} : Snd l E mX7_findOrder 38 48 (xs [x_aload 0, x_get 8 5, x_aload 0, x_get 8 22, x_iload 2, x_push (.int (nI 1))]) := Snd.cons (snd_aload_n (i := 0) dX7_findOrder_38 rfl) (Snd.cons (snd_get (ci := 8) (k := 5) dX7_findOrder_39 rfl inX7 (by decide) tw_919) (Snd.cons (snd_aload_n (i := 0) dX7_findOrder_42 rfl) (Snd.cons (snd_get (ci := 8) (k := 22) dX7_findOrder_43 rfl inX7 (by decide) tw_936) (Snd.cons (snd_iload_n (i := 2) dX7_findOrder_46 rfl) (Snd.cons (snd_iconst (v := nI 1) dX7_findOrder_47 (by decide)) Snd.nil)))))
theorem bX7_findOrder_51_56 {l : Launch} {E : XE} : Snd l E mX7_findOrder 51 56 (xs [x_aload 0, x_get 8 4, x_iload 1]) := Snd.cons (snd_aload_n (i := 0) dX7_findOrder_51 rfl) (Snd.cons (snd_get (ci := 8) (k := 4) dX7_findOrder_52 rfl inX7 (by decide) tw_918) (Snd.cons (snd_iload_n (i := 1) dX7_findOrder_55 rfl) Snd.nil))
theorem bX7_findOrder_61_66 {l : Launch} {E : XE} : Snd l E mX7_findOrder 61 66 (xs [x_aload 0, x_get 8 5, x_iload 1]) := Snd.cons (snd_aload_n (i := 0) dX7_findOrder_61 rfl) (Snd.cons (snd_get (ci := 8) (k := 5) dX7_findOrder_62 rfl inX7 (by decide) tw_919) (Snd.cons (snd_iload_n (i := 1) dX7_findOrder_65 rfl) Snd.nil))
theorem bX7_findOrder_67_77 {l : Launch} {E : XE} : Snd l E mX7_findOrder 67 77 (xs [x_aload 0, x_get 8 4, x_aload 0, x_get 8 22, x_iload 2, x_push (.int (nI 1))]) := Snd.cons (snd_aload_n (i := 0) dX7_findOrder_67 rfl) (Snd.cons (snd_get (ci := 8) (k := 4) dX7_findOrder_68 rfl inX7 (by decide) tw_918) (Snd.cons (snd_aload_n (i := 0) dX7_findOrder_71 rfl) (Snd.cons (snd_get (ci := 8) (k := 22) dX7_findOrder_72 rfl inX7 (by decide) tw_936) (Snd.cons (snd_iload_n (i := 2) dX7_findOrder_75 rfl) (Snd.cons (snd_iconst (v := nI 1) dX7_findOrder_76 (by decide)) Snd.nil)))))
theorem bX7_findOrder_87_98 {l : Launch} {E : XE} : Snd l E mX7_findOrder 87 98 (xs [x_aload 0, x_get 8 22, x_iload 2, x_aload 0, x_get 8 22, x_iload 2, x_push (.int (nI 1))]) := Snd.cons (snd_aload_n (i := 0) dX7_findOrder_87 rfl) (Snd.cons (snd_get (ci := 8) (k := 22) dX7_findOrder_88 rfl inX7 (by decide) tw_936) (Snd.cons (snd_iload_n (i := 2) dX7_findOrder_91 rfl) (Snd.cons (snd_aload_n (i := 0) dX7_findOrder_92 rfl) (Snd.cons (snd_get (ci := 8) (k := 22) dX7_findOrder_93 rfl inX7 (by decide) tw_936) (Snd.cons (snd_iload_n (i := 2) dX7_findOrder_96 rfl) (Snd.cons (snd_iconst (v := nI 1) dX7_findOrder_97 (by decide)) Snd.nil))))))
theorem bX7_findOrder_104_34 {l : Launch} {E : XE} : Snd l E mX7_findOrder 104 34 (xs [x_id]) := Snd.cons (snd_goto (tgt := 34) dX7_findOrder_104 (by decide)) Snd.nil
theorem bX7_findOrder_26_124 {l : Launch} {E : XE} : Snd l E mX7_findOrder 26 124 (xs [x_id]) := Snd.cons (snd_goto (tgt := 124) dX7_findOrder_26 (by decide)) Snd.nil
set_option maxHeartbeats 4000000 in
set_option maxRecDepth 100000 in
theorem m_X7_findOrder {l : Launch} {E : XE} (S : SaleN) (X : ModN) (K : Option (Nat → Nat)) (hS : SaleOK S) : MetE l E mX7_findOrder (1) 0 0 [.ref 0] (modW 0 S X K) (fun r w' => r = none ∧ ∃ oo : Nat → Nat, w' = modW 0 S ((X.rf, X.wo, X.ta, X.ow, X.sl, X.sh, X.lt, X.ty, X.pl, X.nu, X.od, X.tt, oo, (ordN S S.ca).length, X.wn, X.pd, X.li, X.rr, X.rn, X.dr) : ModN) K ∧ RowIs oo (ordN S S.ca)) := by
  refine MetE.of (by decide +kernel) (Nat.le_of_ble_eq_true rfl) ?_
  have hca := hS.1
  have hac := ac_lt hS
  refine ev_eq (lv' := [(0, .ref 0)]) (st' := []) (w' := modW 0 S X K) rfl rfl rfl ?_
  refine ev_b bX7_findOrder_0_7 (lv' := [(1, .int (nI (0))), (0, .ref 0)]) (st' := []) (w2 := modW 0 S ((X.rf, X.wo, X.ta, X.ow, X.sl, X.sh, X.lt, X.ty, X.pl, X.nu, X.od, X.tt, X.oo, 0, X.wn, X.pd, X.li, X.rr, X.rn, X.dr) : ModN) K) rfl ?_
  have L7 : ∀ (j_ k : Nat), k + j_ = S.ca → ∀ (o : Nat → Nat), (RowIs o (ordN S k)) → Ev l E mX7_findOrder (1) 0 0 (modW 0 S X K) (fun r w' => r = none ∧ ∃ oo : Nat → Nat, w' = modW 0 S ((X.rf, X.wo, X.ta, X.ow, X.sl, X.sh, X.lt, X.ty, X.pl, X.nu, X.od, X.tt, oo, (ordN S S.ca).length, X.wn, X.pd, X.li, X.rr, X.rn, X.dr) : ModN) K ∧ RowIs oo (ordN S S.ca)) 0 0 7 [(1, .int (nI (k))), (0, .ref 0)] [] (modW 0 S ((X.rf, X.wo, X.ta, X.ow, X.sl, X.sh, X.lt, X.ty, X.pl, X.nu, X.od, X.tt, o, (ordN S k).length, X.wn, X.pd, X.li, X.rr, X.rn, X.dr) : ModN) K) := by
    intro j_
    induction j_ with
    | zero =>
      intro k hk7 o hinv7
      replace hk7 : k = S.ca := hk7
      have hol0 := ordN_len S k
      refine ev_b bX7_findOrder_7_12 (lv' := [(1, .int (nI (k))), (0, .ref 0)]) (st' := [.int (nI (S.ca)), .int (nI (k))]) (w2 := modW 0 S ((X.rf, X.wo, X.ta, X.ow, X.sl, X.sh, X.lt, X.ty, X.pl, X.nu, X.od, X.tt, o, (ordN S k).length, X.wn, X.pd, X.li, X.rr, X.rn, X.dr) : ModN) K) rfl ?_
      refine ev_icmp_ge_n (tgt := 130) (by omega) (by omega) dX7_findOrder_12 (by decide) (fun h12 => ?_) (fun h12 => (by exfalso; omega))
      exact ev_vret dX7_findOrder_130 rfl mod_le (Nat.le_refl _) (Nat.le_refl _) (by subst hk7; exact ⟨rfl, o, rfl, hinv7⟩)
    | succ j_ ih7 =>
      intro k hk7 o hinv7
      have hlt7 : k < S.ca := by omega
      obtain ⟨-, k1, k2, k3⟩ := hS.2.2.1 k hlt7
      have hol := ordN_len S k
      have hpk := pop_le (S.st k)
      have hol0 := ordN_len S k
      refine ev_b bX7_findOrder_7_12 (lv' := [(1, .int (nI (k))), (0, .ref 0)]) (st' := [.int (nI (S.ca)), .int (nI (k))]) (w2 := modW 0 S ((X.rf, X.wo, X.ta, X.ow, X.sl, X.sh, X.lt, X.ty, X.pl, X.nu, X.od, X.tt, o, (ordN S k).length, X.wn, X.pd, X.li, X.rr, X.rn, X.dr) : ModN) K) rfl ?_
      refine ev_icmp_ge_n (tgt := 130) (by omega) (by omega) dX7_findOrder_12 (by decide) (fun h12 => (by exfalso; omega)) (fun h12 => ?_)
      refine ev_b bX7_findOrder_15_20 (lv' := [(1, .int (nI (k))), (0, .ref 0)]) (st' := [.int (nI (k)), .int (nI (S.ac))]) (w2 := modW 0 S ((X.rf, X.wo, X.ta, X.ow, X.sl, X.sh, X.lt, X.ty, X.pl, X.nu, X.od, X.tt, o, (ordN S k).length, X.wn, X.pd, X.li, X.rr, X.rn, X.dr) : ModN) K) rfl ?_
      refine ev_callS (Yc := mX7_has) [] dX7_findOrder_20 tw_1057 kX7_has (m_X7_has S.ac k hac (by omega)) rfl (st := []) rfl (by decide) rfl (by decide) (Nat.le_of_ble_eq_true rfl) (Nat.le_refl _) (Nat.le_refl _) (fun r w' h => by obtain ⟨-, rfl⟩ := h; exact Nat.le_of_ble_eq_true rfl) ?_
      rintro _ _ ⟨rfl, rfl⟩
      refine ev_eq (lv' := [(1, .int (nI (k))), (0, .ref 0)]) (st' := [.int (nI (b01 (S.ac.testBit k = true)))]) (w' := modW 0 S ((X.rf, X.wo, X.ta, X.ow, X.sl, X.sh, X.lt, X.ty, X.pl, X.nu, X.od, X.tt, o, (ordN S k).length, X.wn, X.pd, X.li, X.rr, X.rn, X.dr) : ModN) K) rfl rfl rfl ?_
      refine ev_ifne_b (tgt := 29) dX7_findOrder_23 (by decide) (fun h23 => ?_) (fun h23 => ?_)
      · skip
        refine ev_b bX7_findOrder_29_34 (lv' := [(2, .int (nI ((ordN S k).length))), (1, .int (nI (k))), (0, .ref 0)]) (st' := []) (w2 := modW 0 S ((X.rf, X.wo, X.ta, X.ow, X.sl, X.sh, X.lt, X.ty, X.pl, X.nu, X.od, X.tt, o, (ordN S k).length, X.wn, X.pd, X.li, X.rr, X.rn, X.dr) : ModN) K) rfl ?_
        have L34 : ∀ (j_ j : Nat), j + j_ = (ordN S k).length → ∀ (o2 : Nat → Nat), (InsI o2 (ordN S k) S k ((ordN S k).length - j)) → Ev l E mX7_findOrder (1) 0 0 (modW 0 S X K) (fun r w' => r = none ∧ ∃ oo : Nat → Nat, w' = modW 0 S ((X.rf, X.wo, X.ta, X.ow, X.sl, X.sh, X.lt, X.ty, X.pl, X.nu, X.od, X.tt, oo, (ordN S S.ca).length, X.wn, X.pd, X.li, X.rr, X.rn, X.dr) : ModN) K ∧ RowIs oo (ordN S S.ca)) 0 0 34 [(2, .int (nI ((ordN S k).length - j))), (0, .ref 0), (1, .int (nI (k)))] [] (modW 0 S ((X.rf, X.wo, X.ta, X.ow, X.sl, X.sh, X.lt, X.ty, X.pl, X.nu, X.od, X.tt, o2, (ordN S k).length, X.wn, X.pd, X.li, X.rr, X.rn, X.dr) : ModN) K) := by
          intro j_
          induction j_ with
          | zero =>
            intro j hk34 o2 hinv34
            replace hk34 : j = (ordN S k).length := hk34
            have hz : (ordN S k).length - j = 0 ∨ ∃ m, (ordN S k)[(ordN S k).length - j - 1]? = some m ∧ ¬ before S m k := Or.inl (by omega)
            refine ev_b bX7_findOrder_34_35 (lv' := [(2, .int (nI ((ordN S k).length - j))), (0, .ref 0), (1, .int (nI (k)))]) (st' := [.int (nI ((ordN S k).length - j))]) (w2 := modW 0 S ((X.rf, X.wo, X.ta, X.ow, X.sl, X.sh, X.lt, X.ty, X.pl, X.nu, X.od, X.tt, o2, (ordN S k).length, X.wn, X.pd, X.li, X.rr, X.rn, X.dr) : ModN) K) rfl ?_
            refine ev_if_le_n (tgt := 107) (by omega) dX7_findOrder_35 (by decide) (fun h35 => ?_) (fun h35 => (by exfalso; omega))
            have hst : ordN S (k + 1) = insO S k (ordN S k) := by rw [ordN_s, if_pos h23]
            have hnext : RowIs (up o2 ((ordN S k).length - j) k) (ordN S (k + 1)) := by rw [hst]; exact ins_done hinv34 (by omega) hz
            have hln : (ordN S (k + 1)).length = (ordN S k).length + 1 := by rw [hst, insO_len]
            refine ev_b bX7_findOrder_107_113 (lv' := [(2, .int (nI ((ordN S k).length - j))), (0, .ref 0), (1, .int (nI (k)))]) (st' := [.int (nI (k)), .int (nI ((ordN S k).length - j)), .ref 15]) (w2 := modW 0 S ((X.rf, X.wo, X.ta, X.ow, X.sl, X.sh, X.lt, X.ty, X.pl, X.nu, X.od, X.tt, o2, (ordN S k).length, X.wn, X.pd, X.li, X.rr, X.rn, X.dr) : ModN) K) rfl ?_
            refine ev_iast_n (f := o2) dX7_findOrder_113 rfl (by omega) (by decide) ?_
            refine ev_eq (w' := modW 0 S ((X.rf, X.wo, X.ta, X.ow, X.sl, X.sh, X.lt, X.ty, X.pl, X.nu, X.od, X.tt, up o2 ((ordN S k).length - j) k, (ordN S k).length, X.wn, X.pd, X.li, X.rr, X.rn, X.dr) : ModN) K) rfl rfl rfl ?_
            refine ev_b bX7_findOrder_114_120 (lv' := [(2, .int (nI ((ordN S k).length - j))), (0, .ref 0), (1, .int (nI (k)))]) (st' := [.int (nI (1)), .int (nI ((ordN S k).length)), .ref 0]) (w2 := modW 0 S ((X.rf, X.wo, X.ta, X.ow, X.sl, X.sh, X.lt, X.ty, X.pl, X.nu, X.od, X.tt, up o2 ((ordN S k).length - j) k, (ordN S k).length, X.wn, X.pd, X.li, X.rr, X.rn, X.dr) : ModN) K) rfl ?_
            refine ev_iadd_n dX7_findOrder_120 ?_
            refine ev_b bX7_findOrder_121_124 (lv' := [(2, .int (nI ((ordN S k).length - j))), (0, .ref 0), (1, .int (nI (k)))]) (st' := []) (w2 := modW 0 S ((X.rf, X.wo, X.ta, X.ow, X.sl, X.sh, X.lt, X.ty, X.pl, X.nu, X.od, X.tt, up o2 ((ordN S k).length - j) k, ((ordN S k).length) + 1, X.wn, X.pd, X.li, X.rr, X.rn, X.dr) : ModN) K) rfl ?_
            refine ev_eq (w' := modW 0 S ((X.rf, X.wo, X.ta, X.ow, X.sl, X.sh, X.lt, X.ty, X.pl, X.nu, X.od, X.tt, up o2 ((ordN S k).length - j) k, (ordN S (k + 1)).length, X.wn, X.pd, X.li, X.rr, X.rn, X.dr) : ModN) K) rfl rfl (by first | rw [hln] | rw [hst]) ?_
            refine ev_iinc_n (x := k) (v := 1) dX7_findOrder_124 rfl (by decide) ?_
            refine ev_eq (lv' := [(1, .int (nI (k + 1))), (2, .int (nI ((ordN S k).length - j))), (0, .ref 0)]) rfl rfl rfl ?_
            refine ev_b bX7_findOrder_127_7 (lv' := [(1, .int (nI (k + 1))), (2, .int (nI ((ordN S k).length - j))), (0, .ref 0)]) (st' := []) (w2 := modW 0 S ((X.rf, X.wo, X.ta, X.ow, X.sl, X.sh, X.lt, X.ty, X.pl, X.nu, X.od, X.tt, up o2 ((ordN S k).length - j) k, (ordN S (k + 1)).length, X.wn, X.pd, X.li, X.rr, X.rn, X.dr) : ModN) K) rfl ?_
            refine ev_pick (lv' := [(1, .int (nI (k + 1))), (0, .ref 0)]) rfl ?_
            rw [show nI (k + 1) = nI ((k + 1)) from congrArg nI (by omega)]
            exact ih7 (k + 1) (by omega) _ hnext
          | succ j_ ih34 =>
            intro j hk34 o2 hinv34
            have hlt34 : j < (ordN S k).length := by omega
            obtain ⟨m, em⟩ : ∃ m, (ordN S k)[(ordN S k).length - j - 1]? = some m := ⟨_, List.getElem?_eq_getElem (by omega)⟩
            have eo2 := hinv34.1 _ m (by omega) em
            have emc : m < S.ca := by have := ordN_mem S k m (List.mem_of_getElem? em); omega
            obtain ⟨-, q1, q2, q3⟩ := hS.2.2.1 m emc
            have hpm := pop_le (S.st m)
            rw [← eo2] at emc q1 q2 q3 hpm
            have hml1 := Nat.mul_le_mul q3 hpk
            have hml2 := Nat.mul_le_mul k3 hpm
            refine ev_b bX7_findOrder_34_35 (lv' := [(2, .int (nI ((ordN S k).length - j))), (0, .ref 0), (1, .int (nI (k)))]) (st' := [.int (nI ((ordN S k).length - j))]) (w2 := modW 0 S ((X.rf, X.wo, X.ta, X.ow, X.sl, X.sh, X.lt, X.ty, X.pl, X.nu, X.od, X.tt, o2, (ordN S k).length, X.wn, X.pd, X.li, X.rr, X.rn, X.dr) : ModN) K) rfl ?_
            refine ev_if_le_n (tgt := 107) (by omega) dX7_findOrder_35 (by decide) (fun h35 => (by exfalso; omega)) (fun h35 => ?_)
            refine ev_b bX7_findOrder_38_48 (lv' := [(2, .int (nI ((ordN S k).length - j))), (0, .ref 0), (1, .int (nI (k)))]) (st' := [.int (nI (1)), .int (nI ((ordN S k).length - j)), .ref 15, .ref 6]) (w2 := modW 0 S ((X.rf, X.wo, X.ta, X.ow, X.sl, X.sh, X.lt, X.ty, X.pl, X.nu, X.od, X.tt, o2, (ordN S k).length, X.wn, X.pd, X.li, X.rr, X.rn, X.dr) : ModN) K) rfl ?_
            refine ev_isub_n (by omega) dX7_findOrder_48 ?_
            refine ev_iald_n (f := o2) dX7_findOrder_49 rfl (by omega) (by decide) ?_
            refine ev_iald_n (f := S.pr) dX7_findOrder_50 rfl (by omega) (by decide) ?_
            refine ev_b bX7_findOrder_51_56 (lv' := [(2, .int (nI ((ordN S k).length - j))), (0, .ref 0), (1, .int (nI (k)))]) (st' := [.int (nI (k)), .ref 5, .int (nI (S.pr (o2 (((ordN S k).length - j) - 1))))]) (w2 := modW 0 S ((X.rf, X.wo, X.ta, X.ow, X.sl, X.sh, X.lt, X.ty, X.pl, X.nu, X.od, X.tt, o2, (ordN S k).length, X.wn, X.pd, X.li, X.rr, X.rn, X.dr) : ModN) K) rfl ?_
            refine ev_iald_n (f := S.st) dX7_findOrder_56 rfl (by omega) (by decide) ?_
            refine ev_callS (Yc := mX7_size) [] dX7_findOrder_57 tw_1132 kX7_size (m_X7_size (S.st k) (by omega)) rfl (st := [.int (nI (S.pr (o2 (((ordN S k).length - j) - 1))))]) rfl (by decide) rfl (by decide) (Nat.le_of_ble_eq_true rfl) (Nat.le_refl _) (Nat.le_refl _) (fun r w' h => by obtain ⟨-, rfl⟩ := h; exact Nat.le_of_ble_eq_true rfl) ?_
            rintro _ _ ⟨rfl, rfl⟩
            refine ev_eq (lv' := [(2, .int (nI ((ordN S k).length - j))), (0, .ref 0), (1, .int (nI (k)))]) (st' := [.int (nI (pop (S.st k))), .int (nI (S.pr (o2 (((ordN S k).length - j) - 1))))]) (w' := modW 0 S ((X.rf, X.wo, X.ta, X.ow, X.sl, X.sh, X.lt, X.ty, X.pl, X.nu, X.od, X.tt, o2, (ordN S k).length, X.wn, X.pd, X.li, X.rr, X.rn, X.dr) : ModN) K) rfl rfl rfl ?_
            refine ev_imul_n dX7_findOrder_60 ?_
            refine ev_b bX7_findOrder_61_66 (lv' := [(2, .int (nI ((ordN S k).length - j))), (0, .ref 0), (1, .int (nI (k)))]) (st' := [.int (nI (k)), .ref 6, .int (nI ((S.pr (o2 (((ordN S k).length - j) - 1))) * (pop (S.st k))))]) (w2 := modW 0 S ((X.rf, X.wo, X.ta, X.ow, X.sl, X.sh, X.lt, X.ty, X.pl, X.nu, X.od, X.tt, o2, (ordN S k).length, X.wn, X.pd, X.li, X.rr, X.rn, X.dr) : ModN) K) rfl ?_
            refine ev_iald_n (f := S.pr) dX7_findOrder_66 rfl (by omega) (by decide) ?_
            refine ev_b bX7_findOrder_67_77 (lv' := [(2, .int (nI ((ordN S k).length - j))), (0, .ref 0), (1, .int (nI (k)))]) (st' := [.int (nI (1)), .int (nI ((ordN S k).length - j)), .ref 15, .ref 5, .int (nI (S.pr k)), .int (nI ((S.pr (o2 (((ordN S k).length - j) - 1))) * (pop (S.st k))))]) (w2 := modW 0 S ((X.rf, X.wo, X.ta, X.ow, X.sl, X.sh, X.lt, X.ty, X.pl, X.nu, X.od, X.tt, o2, (ordN S k).length, X.wn, X.pd, X.li, X.rr, X.rn, X.dr) : ModN) K) rfl ?_
            refine ev_isub_n (by omega) dX7_findOrder_77 ?_
            refine ev_iald_n (f := o2) dX7_findOrder_78 rfl (by omega) (by decide) ?_
            refine ev_iald_n (f := S.st) dX7_findOrder_79 rfl (by omega) (by decide) ?_
            refine ev_callS (Yc := mX7_size) [] dX7_findOrder_80 tw_1132 kX7_size (m_X7_size (S.st (o2 ((ordN S k).length - j - 1))) (by omega)) rfl (st := [.int (nI (S.pr k)), .int (nI ((S.pr (o2 (((ordN S k).length - j) - 1))) * (pop (S.st k))))]) rfl (by decide) rfl (by decide) (Nat.le_of_ble_eq_true rfl) (Nat.le_refl _) (Nat.le_refl _) (fun r w' h => by obtain ⟨-, rfl⟩ := h; exact Nat.le_of_ble_eq_true rfl) ?_
            rintro _ _ ⟨rfl, rfl⟩
            refine ev_eq (lv' := [(2, .int (nI ((ordN S k).length - j))), (0, .ref 0), (1, .int (nI (k)))]) (st' := [.int (nI (pop (S.st (o2 ((ordN S k).length - j - 1))))), .int (nI (S.pr k)), .int (nI ((S.pr (o2 (((ordN S k).length - j) - 1))) * (pop (S.st k))))]) (w' := modW 0 S ((X.rf, X.wo, X.ta, X.ow, X.sl, X.sh, X.lt, X.ty, X.pl, X.nu, X.od, X.tt, o2, (ordN S k).length, X.wn, X.pd, X.li, X.rr, X.rn, X.dr) : ModN) K) rfl rfl rfl ?_
            refine ev_imul_n dX7_findOrder_83 ?_
            refine ev_icmp_ge_n (tgt := 107) (by omega) (by omega) dX7_findOrder_84 (by decide) (fun h84 => ?_) (fun h84 => ?_)
            · skip
              have hz : (ordN S k).length - j = 0 ∨ ∃ m, (ordN S k)[(ordN S k).length - j - 1]? = some m ∧ ¬ before S m k := Or.inr ⟨m, em, fun z => absurd z (by rw [← eo2]; exact Nat.not_lt.mpr h84)⟩
              have hst : ordN S (k + 1) = insO S k (ordN S k) := by rw [ordN_s, if_pos h23]
              have hnext : RowIs (up o2 ((ordN S k).length - j) k) (ordN S (k + 1)) := by rw [hst]; exact ins_done hinv34 (by omega) hz
              have hln : (ordN S (k + 1)).length = (ordN S k).length + 1 := by rw [hst, insO_len]
              refine ev_b bX7_findOrder_107_113 (lv' := [(2, .int (nI ((ordN S k).length - j))), (0, .ref 0), (1, .int (nI (k)))]) (st' := [.int (nI (k)), .int (nI ((ordN S k).length - j)), .ref 15]) (w2 := modW 0 S ((X.rf, X.wo, X.ta, X.ow, X.sl, X.sh, X.lt, X.ty, X.pl, X.nu, X.od, X.tt, o2, (ordN S k).length, X.wn, X.pd, X.li, X.rr, X.rn, X.dr) : ModN) K) rfl ?_
              refine ev_iast_n (f := o2) dX7_findOrder_113 rfl (by omega) (by decide) ?_
              refine ev_eq (w' := modW 0 S ((X.rf, X.wo, X.ta, X.ow, X.sl, X.sh, X.lt, X.ty, X.pl, X.nu, X.od, X.tt, up o2 ((ordN S k).length - j) k, (ordN S k).length, X.wn, X.pd, X.li, X.rr, X.rn, X.dr) : ModN) K) rfl rfl rfl ?_
              refine ev_b bX7_findOrder_114_120 (lv' := [(2, .int (nI ((ordN S k).length - j))), (0, .ref 0), (1, .int (nI (k)))]) (st' := [.int (nI (1)), .int (nI ((ordN S k).length)), .ref 0]) (w2 := modW 0 S ((X.rf, X.wo, X.ta, X.ow, X.sl, X.sh, X.lt, X.ty, X.pl, X.nu, X.od, X.tt, up o2 ((ordN S k).length - j) k, (ordN S k).length, X.wn, X.pd, X.li, X.rr, X.rn, X.dr) : ModN) K) rfl ?_
              refine ev_iadd_n dX7_findOrder_120 ?_
              refine ev_b bX7_findOrder_121_124 (lv' := [(2, .int (nI ((ordN S k).length - j))), (0, .ref 0), (1, .int (nI (k)))]) (st' := []) (w2 := modW 0 S ((X.rf, X.wo, X.ta, X.ow, X.sl, X.sh, X.lt, X.ty, X.pl, X.nu, X.od, X.tt, up o2 ((ordN S k).length - j) k, ((ordN S k).length) + 1, X.wn, X.pd, X.li, X.rr, X.rn, X.dr) : ModN) K) rfl ?_
              refine ev_eq (w' := modW 0 S ((X.rf, X.wo, X.ta, X.ow, X.sl, X.sh, X.lt, X.ty, X.pl, X.nu, X.od, X.tt, up o2 ((ordN S k).length - j) k, (ordN S (k + 1)).length, X.wn, X.pd, X.li, X.rr, X.rn, X.dr) : ModN) K) rfl rfl (by first | rw [hln] | rw [hst]) ?_
              refine ev_iinc_n (x := k) (v := 1) dX7_findOrder_124 rfl (by decide) ?_
              refine ev_eq (lv' := [(1, .int (nI (k + 1))), (2, .int (nI ((ordN S k).length - j))), (0, .ref 0)]) rfl rfl rfl ?_
              refine ev_b bX7_findOrder_127_7 (lv' := [(1, .int (nI (k + 1))), (2, .int (nI ((ordN S k).length - j))), (0, .ref 0)]) (st' := []) (w2 := modW 0 S ((X.rf, X.wo, X.ta, X.ow, X.sl, X.sh, X.lt, X.ty, X.pl, X.nu, X.od, X.tt, up o2 ((ordN S k).length - j) k, (ordN S (k + 1)).length, X.wn, X.pd, X.li, X.rr, X.rn, X.dr) : ModN) K) rfl ?_
              refine ev_pick (lv' := [(1, .int (nI (k + 1))), (0, .ref 0)]) rfl ?_
              rw [show nI (k + 1) = nI ((k + 1)) from congrArg nI (by omega)]
              exact ih7 (k + 1) (by omega) _ hnext
            · skip
              have hbf : before S m k := by rw [← eo2]; exact Nat.not_le.mp h84
              have hnx2 : InsI (up o2 ((ordN S k).length - j) (o2 ((ordN S k).length - j - 1))) (ordN S k) S k ((ordN S k).length - (j + 1)) := by
                rw [eo2, show (ordN S k).length - (j + 1) = (ordN S k).length - j - 1 by omega, show (ordN S k).length - j = (ordN S k).length - j - 1 + 1 by omega]
                exact ins_step (by rw [show (ordN S k).length - j - 1 + 1 = (ordN S k).length - j by omega]; exact hinv34) em hbf
              refine ev_b bX7_findOrder_87_98 (lv' := [(2, .int (nI ((ordN S k).length - j))), (0, .ref 0), (1, .int (nI (k)))]) (st' := [.int (nI (1)), .int (nI ((ordN S k).length - j)), .ref 15, .int (nI ((ordN S k).length - j)), .ref 15]) (w2 := modW 0 S ((X.rf, X.wo, X.ta, X.ow, X.sl, X.sh, X.lt, X.ty, X.pl, X.nu, X.od, X.tt, o2, (ordN S k).length, X.wn, X.pd, X.li, X.rr, X.rn, X.dr) : ModN) K) rfl ?_
              refine ev_isub_n (by omega) dX7_findOrder_98 ?_
              refine ev_iald_n (f := o2) dX7_findOrder_99 rfl (by omega) (by decide) ?_
              refine ev_iast_n (f := o2) dX7_findOrder_100 rfl (by omega) (by decide) ?_
              refine ev_eq (w' := modW 0 S ((X.rf, X.wo, X.ta, X.ow, X.sl, X.sh, X.lt, X.ty, X.pl, X.nu, X.od, X.tt, up o2 ((ordN S k).length - j) (o2 (((ordN S k).length - j) - 1)), (ordN S k).length, X.wn, X.pd, X.li, X.rr, X.rn, X.dr) : ModN) K) rfl rfl rfl ?_
              refine ev_idec_n (x := (ordN S k).length - j) dX7_findOrder_101 rfl (by decide) (by omega) ?_
              refine ev_eq (lv' := [(2, .int (nI (((ordN S k).length - j) - 1))), (0, .ref 0), (1, .int (nI (k)))]) rfl rfl rfl ?_
              refine ev_b bX7_findOrder_104_34 (lv' := [(2, .int (nI (((ordN S k).length - j) - 1))), (0, .ref 0), (1, .int (nI (k)))]) (st' := []) (w2 := modW 0 S ((X.rf, X.wo, X.ta, X.ow, X.sl, X.sh, X.lt, X.ty, X.pl, X.nu, X.od, X.tt, up o2 ((ordN S k).length - j) (o2 (((ordN S k).length - j) - 1)), (ordN S k).length, X.wn, X.pd, X.li, X.rr, X.rn, X.dr) : ModN) K) rfl ?_
              rw [show nI (((ordN S k).length - j) - 1) = nI ((ordN S k).length - (j + 1)) from congrArg nI (by omega)]
              exact ih34 (j + 1) (by omega) _ hnx2
        refine ev_pick (lv' := [(2, .int (nI ((ordN S k).length))), (0, .ref 0), (1, .int (nI (k)))]) rfl ?_
        rw [show nI ((ordN S k).length) = nI ((ordN S k).length - 0) from congrArg nI (by omega)]
        exact L34 ((ordN S k).length) 0 (by omega) o (by rw [Nat.sub_zero]; exact ins_start hinv7)
      · skip
        have hst : ordN S (k + 1) = ordN S k := by rw [ordN_s, if_neg h23]
        have hnext : RowIs o (ordN S (k + 1)) := by rw [hst]; exact hinv7
        refine ev_b bX7_findOrder_26_124 (lv' := [(1, .int (nI (k))), (0, .ref 0)]) (st' := []) (w2 := modW 0 S ((X.rf, X.wo, X.ta, X.ow, X.sl, X.sh, X.lt, X.ty, X.pl, X.nu, X.od, X.tt, o, (ordN S k).length, X.wn, X.pd, X.li, X.rr, X.rn, X.dr) : ModN) K) rfl ?_
        refine ev_eq (w' := modW 0 S ((X.rf, X.wo, X.ta, X.ow, X.sl, X.sh, X.lt, X.ty, X.pl, X.nu, X.od, X.tt, o, (ordN S (k + 1)).length, X.wn, X.pd, X.li, X.rr, X.rn, X.dr) : ModN) K) rfl rfl (by first | rw [hln] | rw [hst]) ?_
        refine ev_iinc_n (x := k) (v := 1) dX7_findOrder_124 rfl (by decide) ?_
        refine ev_eq (lv' := [(1, .int (nI (k + 1))), (0, .ref 0)]) rfl rfl rfl ?_
        refine ev_b bX7_findOrder_127_7 (lv' := [(1, .int (nI (k + 1))), (0, .ref 0)]) (st' := []) (w2 := modW 0 S ((X.rf, X.wo, X.ta, X.ow, X.sl, X.sh, X.lt, X.ty, X.pl, X.nu, X.od, X.tt, o, (ordN S (k + 1)).length, X.wn, X.pd, X.li, X.rr, X.rn, X.dr) : ModN) K) rfl ?_
        rw [show nI (k + 1) = nI ((k + 1)) from congrArg nI (by omega)]
        exact ih7 (k + 1) (by omega) _ hnext
  exact L7 S.ca 0 (by omega) X.oo (fun p m z => by cases z)
theorem bX7_placeOf_0_1 {l : Launch} {E : XE} : Snd l E mX7_placeOf 0 1 (xs [x_aload 0]) := Snd.cons (snd_aload_n (i := 0) dX7_placeOf_0 rfl) Snd.nil
theorem bX7_placeOf_4_6 {l : Launch} {E : XE} : Snd l E mX7_placeOf 4 6 (xs [x_push (.int (nI 0)), x_istore 2]) := Snd.cons (snd_iconst (v := nI 0) dX7_placeOf_4 (by decide)) (Snd.cons (snd_istore_n (i := 2) dX7_placeOf_5 rfl (by decide)) Snd.nil)
theorem bX7_placeOf_6_11 {l : Launch} {E : XE} : Snd l E mX7_placeOf 6 11 (xs [x_iload 2, x_aload 0, x_get 8 23]) := Snd.cons (snd_iload_n (i := 2) dX7_placeOf_6 rfl) (Snd.cons (snd_aload_n (i := 0) dX7_placeOf_7 rfl) (Snd.cons (snd_get (ci := 8) (k := 23) dX7_placeOf_8 rfl inX7 (by decide) tw_937) Snd.nil))
theorem bX7_placeOf_32_34 {l : Launch} {E : XE} : Snd l E mX7_placeOf 32 34 (xs [x_push (.int (-9))]) := Snd.cons (snd_bipush (v := -9) dX7_placeOf_32 (by decide)) Snd.nil
theorem bX7_placeOf_14_19 {l : Launch} {E : XE} : Snd l E mX7_placeOf 14 19 (xs [x_aload 0, x_get 8 22, x_iload 2]) := Snd.cons (snd_aload_n (i := 0) dX7_placeOf_14 rfl) (Snd.cons (snd_get (ci := 8) (k := 22) dX7_placeOf_15 rfl inX7 (by decide) tw_936) (Snd.cons (snd_iload_n (i := 2) dX7_placeOf_18 rfl) Snd.nil))
theorem bX7_placeOf_20_21 {l : Launch} {E : XE} : Snd l E mX7_placeOf 20 21 (xs [x_iload 1]) := Snd.cons (snd_iload_n (i := 1) dX7_placeOf_20 rfl) Snd.nil
theorem bX7_placeOf_29_6 {l : Launch} {E : XE} : Snd l E mX7_placeOf 29 6 (xs [x_id]) := Snd.cons (snd_goto (tgt := 6) dX7_placeOf_29 (by decide)) Snd.nil
theorem bX7_placeOf_24_25 {l : Launch} {E : XE} : Snd l E mX7_placeOf 24 25 (xs [x_iload 2]) := Snd.cons (snd_iload_n (i := 2) dX7_placeOf_24 rfl) Snd.nil
set_option maxHeartbeats 4000000 in
set_option maxRecDepth 100000 in
theorem m_X7_placeOf {l : Launch} {E : XE} (S : SaleN) (X : ModN) (K : Option (Nat → Nat)) (b : Nat) (hS : SaleOK S) (hb : b < 2147483648) : MetE l E mX7_placeOf (2) 0 0 [.ref 0, .int (nI (b))] (modW 0 S X K) (fun r w' => r = some (.int (zI (posZ b (ordN S S.ca) 0))) ∧ ∃ oo : Nat → Nat, w' = modW 0 S ((X.rf, X.wo, X.ta, X.ow, X.sl, X.sh, X.lt, X.ty, X.pl, X.nu, X.od, X.tt, oo, (ordN S S.ca).length, X.wn, X.pd, X.li, X.rr, X.rn, X.dr) : ModN) K) := by
  refine MetE.of (by decide +kernel) (Nat.le_of_ble_eq_true rfl) ?_
  have hca := hS.1
  have hlen := ordN_len S S.ca
  refine ev_eq (lv' := [(0, .ref 0), (1, .int (nI (b)))]) (st' := []) (w' := modW 0 S X K) rfl rfl rfl ?_
  refine ev_b bX7_placeOf_0_1 (lv' := [(0, .ref 0), (1, .int (nI (b)))]) (st' := [.ref 0]) (w2 := modW 0 S X K) rfl ?_
  refine ev_callM (Yc := mX7_findOrder) (st := []) dX7_placeOf_1 tw_1147 kX7_findOrder (m_X7_findOrder S X K hS) rfl rfl rfl rfl (by decide) (Nat.le_of_ble_eq_true rfl) (Nat.le_refl _) (Nat.le_refl _) (fun r w' h => by obtain ⟨-, oo, rfl, -⟩ := h; exact mod_eq) ?_
  rintro _ _ ⟨rfl, oo, rfl, hO⟩
  refine ev_eq (lv' := [(0, .ref 0), (1, .int (nI (b)))]) (st' := []) (w' := modW 0 S ((X.rf, X.wo, X.ta, X.ow, X.sl, X.sh, X.lt, X.ty, X.pl, X.nu, X.od, X.tt, oo, (ordN S S.ca).length, X.wn, X.pd, X.li, X.rr, X.rn, X.dr) : ModN) K) rfl rfl rfl ?_
  refine ev_b bX7_placeOf_4_6 (lv' := [(2, .int (nI (0))), (0, .ref 0), (1, .int (nI (b)))]) (st' := []) (w2 := modW 0 S ((X.rf, X.wo, X.ta, X.ow, X.sl, X.sh, X.lt, X.ty, X.pl, X.nu, X.od, X.tt, oo, (ordN S S.ca).length, X.wn, X.pd, X.li, X.rr, X.rn, X.dr) : ModN) K) rfl ?_
  have L6 : ∀ (j_ k : Nat), k + j_ = (ordN S S.ca).length → (posZ b (ordN S S.ca) 0 = posZ b ((ordN S S.ca).drop k) k) → Ev l E mX7_placeOf (2) 0 0 (modW 0 S X K) (fun r w' => r = some (.int (zI (posZ b (ordN S S.ca) 0))) ∧ ∃ oo : Nat → Nat, w' = modW 0 S ((X.rf, X.wo, X.ta, X.ow, X.sl, X.sh, X.lt, X.ty, X.pl, X.nu, X.od, X.tt, oo, (ordN S S.ca).length, X.wn, X.pd, X.li, X.rr, X.rn, X.dr) : ModN) K) 0 0 6 [(2, .int (nI (k))), (0, .ref 0), (1, .int (nI (b)))] [] (modW 0 S ((X.rf, X.wo, X.ta, X.ow, X.sl, X.sh, X.lt, X.ty, X.pl, X.nu, X.od, X.tt, oo, (ordN S S.ca).length, X.wn, X.pd, X.li, X.rr, X.rn, X.dr) : ModN) K) := by
    intro j_
    induction j_ with
    | zero =>
      intro k hk6  hinv6
      replace hk6 : k = (ordN S S.ca).length := hk6
      refine ev_b bX7_placeOf_6_11 (lv' := [(2, .int (nI (k))), (0, .ref 0), (1, .int (nI (b)))]) (st' := [.int (nI ((ordN S S.ca).length)), .int (nI (k))]) (w2 := modW 0 S ((X.rf, X.wo, X.ta, X.ow, X.sl, X.sh, X.lt, X.ty, X.pl, X.nu, X.od, X.tt, oo, (ordN S S.ca).length, X.wn, X.pd, X.li, X.rr, X.rn, X.dr) : ModN) K) rfl ?_
      refine ev_icmp_ge_n (tgt := 32) (by omega) (by omega) dX7_placeOf_11 (by decide) (fun h11 => ?_) (fun h11 => (by exfalso; omega))
      refine ev_b bX7_placeOf_32_34 (lv' := [(2, .int (nI (k))), (0, .ref 0), (1, .int (nI (b)))]) (st' := [.int (-9)]) (w2 := modW 0 S ((X.rf, X.wo, X.ta, X.ow, X.sl, X.sh, X.lt, X.ty, X.pl, X.nu, X.od, X.tt, oo, (ordN S S.ca).length, X.wn, X.pd, X.li, X.rr, X.rn, X.dr) : ModN) K) rfl ?_
      exact ev_iret dX7_placeOf_34 rfl mod_le (Nat.le_refl _) (Nat.le_refl _) ⟨by rw [hinv6, hk6, List.drop_length]; exact congrArg (fun v => some (Value.int v)) (show (-9 : Int32) = zI (-9) from by decide), oo, rfl⟩
    | succ j_ ih6 =>
      intro k hk6  hinv6
      have hlt6 : k < (ordN S S.ca).length := by omega
      obtain ⟨m, hm, hom, hmc⟩ := ord_lt hO (ordN_mem S S.ca) hlt6
      have hst := pos_step hinv6 hm
      refine ev_b bX7_placeOf_6_11 (lv' := [(2, .int (nI (k))), (0, .ref 0), (1, .int (nI (b)))]) (st' := [.int (nI ((ordN S S.ca).length)), .int (nI (k))]) (w2 := modW 0 S ((X.rf, X.wo, X.ta, X.ow, X.sl, X.sh, X.lt, X.ty, X.pl, X.nu, X.od, X.tt, oo, (ordN S S.ca).length, X.wn, X.pd, X.li, X.rr, X.rn, X.dr) : ModN) K) rfl ?_
      refine ev_icmp_ge_n (tgt := 32) (by omega) (by omega) dX7_placeOf_11 (by decide) (fun h11 => (by exfalso; omega)) (fun h11 => ?_)
      refine ev_b bX7_placeOf_14_19 (lv' := [(2, .int (nI (k))), (0, .ref 0), (1, .int (nI (b)))]) (st' := [.int (nI (k)), .ref 15]) (w2 := modW 0 S ((X.rf, X.wo, X.ta, X.ow, X.sl, X.sh, X.lt, X.ty, X.pl, X.nu, X.od, X.tt, oo, (ordN S S.ca).length, X.wn, X.pd, X.li, X.rr, X.rn, X.dr) : ModN) K) rfl ?_
      refine ev_iald_n (f := oo) dX7_placeOf_19 rfl (by omega) (by decide) ?_
      refine ev_b bX7_placeOf_20_21 (lv' := [(2, .int (nI (k))), (0, .ref 0), (1, .int (nI (b)))]) (st' := [.int (nI (b)), .int (nI (oo k))]) (w2 := modW 0 S ((X.rf, X.wo, X.ta, X.ow, X.sl, X.sh, X.lt, X.ty, X.pl, X.nu, X.od, X.tt, oo, (ordN S S.ca).length, X.wn, X.pd, X.li, X.rr, X.rn, X.dr) : ModN) K) rfl ?_
      refine ev_icmp_ne_n (tgt := 26) (by omega) (by omega) dX7_placeOf_21 (by decide) (fun h21 => ?_) (fun h21 => ?_)
      · skip
        have hnext : posZ b (ordN S S.ca) 0 = posZ b ((ordN S S.ca).drop (k + 1)) (k + 1) := by rw [hst, if_neg (by rw [← hom]; exact h21)]
        refine ev_iinc_n (x := k) (v := 1) dX7_placeOf_26 rfl (by decide) ?_
        refine ev_eq (lv' := [(2, .int (nI (k + 1))), (0, .ref 0), (1, .int (nI (b)))]) rfl rfl rfl ?_
        refine ev_b bX7_placeOf_29_6 (lv' := [(2, .int (nI (k + 1))), (0, .ref 0), (1, .int (nI (b)))]) (st' := []) (w2 := modW 0 S ((X.rf, X.wo, X.ta, X.ow, X.sl, X.sh, X.lt, X.ty, X.pl, X.nu, X.od, X.tt, oo, (ordN S S.ca).length, X.wn, X.pd, X.li, X.rr, X.rn, X.dr) : ModN) K) rfl ?_
        rw [show nI (k + 1) = nI ((k + 1)) from congrArg nI (by omega)]
        exact ih6 (k + 1) (by omega) hnext
      · skip
        refine ev_b bX7_placeOf_24_25 (lv' := [(2, .int (nI (k))), (0, .ref 0), (1, .int (nI (b)))]) (st' := [.int (nI (k))]) (w2 := modW 0 S ((X.rf, X.wo, X.ta, X.ow, X.sl, X.sh, X.lt, X.ty, X.pl, X.nu, X.od, X.tt, oo, (ordN S S.ca).length, X.wn, X.pd, X.li, X.rr, X.rn, X.dr) : ModN) K) rfl ?_
        exact ev_iret dX7_placeOf_25 rfl mod_le (Nat.le_refl _) (Nat.le_refl _) ⟨by rw [hst, if_pos (by rw [← hom]; exact h21), zI_nat], oo, rfl⟩
  exact L6 ((ordN S S.ca).length) 0 (by omega) rfl
theorem bX7_boundOf_0_5 {l : Launch} {E : XE} : Snd l E mX7_boundOf 0 5 (xs [x_push (.int (nI 0)), x_istore 3, x_push (.int (nI 0)), x_istore 4]) := Snd.cons (snd_iconst (v := nI 0) dX7_boundOf_0 (by decide)) (Snd.cons (snd_istore_n (i := 3) dX7_boundOf_1 rfl (by decide)) (Snd.cons (snd_iconst (v := nI 0) dX7_boundOf_2 (by decide)) (Snd.cons (snd_istore dX7_boundOf_3 (by decide)) Snd.nil)))
theorem bX7_boundOf_5_11 {l : Launch} {E : XE} : Snd l E mX7_boundOf 5 11 (xs [x_iload 4, x_aload 0, x_get 8 6]) := Snd.cons (snd_iload dX7_boundOf_5) (Snd.cons (snd_aload_n (i := 0) dX7_boundOf_7 rfl) (Snd.cons (snd_get (ci := 8) (k := 6) dX7_boundOf_8 rfl inX7 (by decide) tw_920) Snd.nil))
theorem bX7_boundOf_46_49 {l : Launch} {E : XE} : Snd l E mX7_boundOf 46 49 (xs [x_push (.int (nI 0)), x_istore 4]) := Snd.cons (snd_iconst (v := nI 0) dX7_boundOf_46 (by decide)) (Snd.cons (snd_istore dX7_boundOf_47 (by decide)) Snd.nil)
theorem bX7_boundOf_49_53 {l : Launch} {E : XE} : Snd l E mX7_boundOf 49 53 (xs [x_iload 4, x_push (.int (nI 6))]) := Snd.cons (snd_iload dX7_boundOf_49) (Snd.cons (snd_bipush (v := nI 6) dX7_boundOf_51 (by decide)) Snd.nil)
theorem bX7_boundOf_172_173 {l : Launch} {E : XE} : Snd l E mX7_boundOf 172 173 (xs [x_iload 3]) := Snd.cons (snd_iload_n (i := 3) dX7_boundOf_172 rfl) Snd.nil
theorem bX7_boundOf_56_61 {l : Launch} {E : XE} : Snd l E mX7_boundOf 56 61 (xs [x_aload 0, x_get 8 10, x_iload 1]) := Snd.cons (snd_aload_n (i := 0) dX7_boundOf_56 rfl) (Snd.cons (snd_get (ci := 8) (k := 10) dX7_boundOf_57 rfl inX7 (by decide) tw_924) (Snd.cons (snd_iload_n (i := 1) dX7_boundOf_60 rfl) Snd.nil))
theorem bX7_boundOf_62_64 {l : Launch} {E : XE} : Snd l E mX7_boundOf 62 64 (xs [x_iload 4]) := Snd.cons (snd_iload dX7_boundOf_62) Snd.nil
theorem bX7_boundOf_73_81 {l : Launch} {E : XE} : Snd l E mX7_boundOf 73 81 (xs [x_push (.int (nI 60)), x_aload 0, x_get 8 0, x_iload 4]) := Snd.cons (snd_bipush (v := nI 60) dX7_boundOf_73 (by decide)) (Snd.cons (snd_aload_n (i := 0) dX7_boundOf_75 rfl) (Snd.cons (snd_get (ci := 8) (k := 0) dX7_boundOf_76 rfl inX7 (by decide) tw_914) (Snd.cons (snd_iload dX7_boundOf_79) Snd.nil)))
theorem bX7_boundOf_83_88 {l : Launch} {E : XE} : Snd l E mX7_boundOf 83 88 (xs [x_istore 5, x_iload 2, x_istore 6]) := Snd.cons (snd_istore dX7_boundOf_83 (by decide)) (Snd.cons (snd_iload_n (i := 2) dX7_boundOf_85 rfl) (Snd.cons (snd_istore dX7_boundOf_86 (by decide)) Snd.nil))
theorem bX7_boundOf_88_94 {l : Launch} {E : XE} : Snd l E mX7_boundOf 88 94 (xs [x_iload 6, x_aload 0, x_get 8 23]) := Snd.cons (snd_iload dX7_boundOf_88) (Snd.cons (snd_aload_n (i := 0) dX7_boundOf_90 rfl) (Snd.cons (snd_get (ci := 8) (k := 23) dX7_boundOf_91 rfl inX7 (by decide) tw_937) Snd.nil))
theorem bX7_boundOf_161_164 {l : Launch} {E : XE} : Snd l E mX7_boundOf 161 164 (xs [x_iload 3, x_iload 5]) := Snd.cons (snd_iload_n (i := 3) dX7_boundOf_161 rfl) (Snd.cons (snd_iload dX7_boundOf_162) Snd.nil)
theorem bX7_boundOf_165_166 {l : Launch} {E : XE} : Snd l E mX7_boundOf 165 166 (xs [x_istore 3]) := Snd.cons (snd_istore_n (i := 3) dX7_boundOf_165 rfl (by decide)) Snd.nil
theorem bX7_boundOf_169_49 {l : Launch} {E : XE} : Snd l E mX7_boundOf 169 49 (xs [x_id]) := Snd.cons (snd_goto (tgt := 49) dX7_boundOf_169 (by decide)) Snd.nil
theorem bX7_boundOf_97_107 {l : Launch} {E : XE} : Snd l E mX7_boundOf 97 107 (xs [x_aload 0, x_get 8 4, x_aload 0, x_get 8 22, x_iload 6]) := Snd.cons (snd_aload_n (i := 0) dX7_boundOf_97 rfl) (Snd.cons (snd_get (ci := 8) (k := 4) dX7_boundOf_98 rfl inX7 (by decide) tw_918) (Snd.cons (snd_aload_n (i := 0) dX7_boundOf_101 rfl) (Snd.cons (snd_get (ci := 8) (k := 22) dX7_boundOf_102 rfl inX7 (by decide) tw_936) (Snd.cons (snd_iload dX7_boundOf_105) Snd.nil))))
theorem bX7_boundOf_109_111 {l : Launch} {E : XE} : Snd l E mX7_boundOf 109 111 (xs [x_iload 4]) := Snd.cons (snd_iload dX7_boundOf_109) Snd.nil
theorem bX7_boundOf_158_88 {l : Launch} {E : XE} : Snd l E mX7_boundOf 158 88 (xs [x_id]) := Snd.cons (snd_goto (tgt := 88) dX7_boundOf_158 (by decide)) Snd.nil
theorem bX7_boundOf_117_131 {l : Launch} {E : XE} : Snd l E mX7_boundOf 117 131 (xs [x_iload 5, x_push (.int (nI 60)), x_aload 0, x_get 8 4, x_aload 0, x_get 8 22, x_iload 6]) := Snd.cons (snd_iload dX7_boundOf_117) (Snd.cons (snd_bipush (v := nI 60) dX7_boundOf_119 (by decide)) (Snd.cons (snd_aload_n (i := 0) dX7_boundOf_121 rfl) (Snd.cons (snd_get (ci := 8) (k := 4) dX7_boundOf_122 rfl inX7 (by decide) tw_918) (Snd.cons (snd_aload_n (i := 0) dX7_boundOf_125 rfl) (Snd.cons (snd_get (ci := 8) (k := 22) dX7_boundOf_126 rfl inX7 (by decide) tw_936) (Snd.cons (snd_iload dX7_boundOf_129) Snd.nil))))))
theorem bX7_boundOf_137_147 {l : Launch} {E : XE} : Snd l E mX7_boundOf 137 147 (xs [x_aload 0, x_get 8 5, x_aload 0, x_get 8 22, x_iload 6]) := Snd.cons (snd_aload_n (i := 0) dX7_boundOf_137 rfl) (Snd.cons (snd_get (ci := 8) (k := 5) dX7_boundOf_138 rfl inX7 (by decide) tw_919) (Snd.cons (snd_aload_n (i := 0) dX7_boundOf_141 rfl) (Snd.cons (snd_get (ci := 8) (k := 22) dX7_boundOf_142 rfl inX7 (by decide) tw_936) (Snd.cons (snd_iload dX7_boundOf_145) Snd.nil))))
theorem bX7_boundOf_153_155 {l : Launch} {E : XE} : Snd l E mX7_boundOf 153 155 (xs [x_istore 5]) := Snd.cons (snd_istore dX7_boundOf_153 (by decide)) Snd.nil
theorem bX7_boundOf_70_166 {l : Launch} {E : XE} : Snd l E mX7_boundOf 70 166 (xs [x_id]) := Snd.cons (snd_goto (tgt := 166) dX7_boundOf_70 (by decide)) Snd.nil
theorem bX7_boundOf_14_18 {l : Launch} {E : XE} : Snd l E mX7_boundOf 14 18 (xs [x_iload 3, x_iload 1, x_iload 4]) := Snd.cons (snd_iload_n (i := 3) dX7_boundOf_14 rfl) (Snd.cons (snd_iload_n (i := 1) dX7_boundOf_15 rfl) (Snd.cons (snd_iload dX7_boundOf_16) Snd.nil))
theorem bX7_boundOf_37_38 {l : Launch} {E : XE} : Snd l E mX7_boundOf 37 38 (xs [x_push (.int (nI 0))]) := Snd.cons (snd_iconst (v := nI 0) dX7_boundOf_37 (by decide)) Snd.nil
theorem bX7_boundOf_39_40 {l : Launch} {E : XE} : Snd l E mX7_boundOf 39 40 (xs [x_istore 3]) := Snd.cons (snd_istore_n (i := 3) dX7_boundOf_39 rfl (by decide)) Snd.nil
theorem bX7_boundOf_43_5 {l : Launch} {E : XE} : Snd l E mX7_boundOf 43 5 (xs [x_id]) := Snd.cons (snd_goto (tgt := 5) dX7_boundOf_43 (by decide)) Snd.nil
theorem bX7_boundOf_24_32 {l : Launch} {E : XE} : Snd l E mX7_boundOf 24 32 (xs [x_push (.int (nI 60)), x_aload 0, x_get 8 5, x_iload 4]) := Snd.cons (snd_bipush (v := nI 60) dX7_boundOf_24 (by decide)) (Snd.cons (snd_aload_n (i := 0) dX7_boundOf_26 rfl) (Snd.cons (snd_get (ci := 8) (k := 5) dX7_boundOf_27 rfl inX7 (by decide) tw_919) (Snd.cons (snd_iload dX7_boundOf_30) Snd.nil)))
theorem bX7_boundOf_34_38 {l : Launch} {E : XE} : Snd l E mX7_boundOf 34 38 (xs [x_id]) := Snd.cons (snd_goto (tgt := 38) dX7_boundOf_34 (by decide)) Snd.nil
set_option maxHeartbeats 4000000 in
set_option maxRecDepth 100000 in
theorem m_X7_boundOf {l : Launch} {E : XE} (S : SaleN) (X : ModN) (K : Option (Nat → Nat)) (L : List Nat) (m p : Nat) (hS : SaleOK S) (hT : X.ta m = ((itTo S.st m S.ca : Nat) : Int)) (hm : m < 1024) (hL : RowIs X.oo L) (hLm : ∀ x ∈ L, x < S.ca) (ho : X.on = L.length) (hl : L.length ≤ 10) (hp : p ≤ L.length) : MetE l E mX7_boundOf (1) 0 0 [.ref 0, .int (nI (m)), .int (nI (p))] (modW 0 S X K) (fun r w' => r = some (.int (nI (bdTo S (L.drop p) m 6))) ∧ w' = modW 0 S X K) := by
  refine MetE.of (by decide +kernel) (Nat.le_of_ble_eq_true rfl) ?_
  have hca := hS.1
  have hit : itTo S.st m S.ca < 64 := itTo_lt S.ca (Nat.le_refl _) (fun k hk => (hS.2.2.1 k hk).2.2.1)
  refine ev_eq (lv' := [(0, .ref 0), (1, .int (nI (m))), (2, .int (nI (p)))]) (st' := []) (w' := modW 0 S X K) rfl rfl rfl ?_
  refine ev_b bX7_boundOf_0_5 (lv' := [(4, .int (nI (0))), (3, .int (nI (0))), (0, .ref 0), (1, .int (nI (m))), (2, .int (nI (p)))]) (st' := []) (w2 := modW 0 S X K) rfl ?_
  have L5 : ∀ (j_ k : Nat), k + j_ = S.ca → Ev l E mX7_boundOf (1) 0 0 (modW 0 S X K) (fun r w' => r = some (.int (nI (bdTo S (L.drop p) m 6))) ∧ w' = modW 0 S X K) 0 0 5 [(4, .int (nI (k))), (3, .int (nI (60 * prTo S.pr m k))), (0, .ref 0), (1, .int (nI (m))), (2, .int (nI (p)))] [] (modW 0 S X K) := by
    intro j_
    induction j_ with
    | zero =>
      intro k hk5  
      replace hk5 : k = S.ca := hk5
      subst hk5
      refine ev_b bX7_boundOf_5_11 (lv' := [(4, .int (nI (S.ca))), (3, .int (nI (60 * prTo S.pr m S.ca))), (0, .ref 0), (1, .int (nI (m))), (2, .int (nI (p)))]) (st' := [.int (nI (S.ca)), .int (nI (S.ca))]) (w2 := modW 0 S X K) rfl ?_
      refine ev_icmp_ge_n (tgt := 46) (by omega) (by omega) dX7_boundOf_11 (by decide) (fun h11 => ?_) (fun h11 => (by exfalso; omega))
      refine ev_b bX7_boundOf_46_49 (lv' := [(4, .int (nI (0))), (3, .int (nI (60 * prTo S.pr m S.ca))), (0, .ref 0), (1, .int (nI (m))), (2, .int (nI (p)))]) (st' := []) (w2 := modW 0 S X K) rfl ?_
      have L49 : ∀ (j_ k : Nat), k + j_ = 6 → Ev l E mX7_boundOf (1) 0 0 (modW 0 S X K) (fun r w' => r = some (.int (nI (bdTo S (L.drop p) m 6))) ∧ w' = modW 0 S X K) 0 0 49 [(4, .int (nI (k))), (3, .int (nI (bdTo S (L.drop p) m k))), (0, .ref 0), (1, .int (nI (m))), (2, .int (nI (p)))] [] (modW 0 S X K) := by
        intro j_
        induction j_ with
        | zero =>
          intro k hk49  
          replace hk49 : k = 6 := hk49
          subst hk49
          refine ev_b bX7_boundOf_49_53 (lv' := [(4, .int (nI (6))), (3, .int (nI (bdTo S (L.drop p) m 6))), (0, .ref 0), (1, .int (nI (m))), (2, .int (nI (p)))]) (st' := [.int (nI (6)), .int (nI (6))]) (w2 := modW 0 S X K) rfl ?_
          refine ev_icmp_ge_n (tgt := 172) (by decide) (by decide) dX7_boundOf_53 (by decide) (fun h53 => ?_) (fun h53 => (by exfalso; omega))
          refine ev_b bX7_boundOf_172_173 (lv' := [(4, .int (nI (6))), (3, .int (nI (bdTo S (L.drop p) m 6))), (0, .ref 0), (1, .int (nI (m))), (2, .int (nI (p)))]) (st' := [.int (nI (bdTo S (L.drop p) m 6))]) (w2 := modW 0 S X K) rfl ?_
          exact ev_iret dX7_boundOf_173 rfl mod_le (Nat.le_refl _) (Nat.le_refl _) ⟨rfl, rfl⟩
        | succ j_ ih49 =>
          intro k hk49  
          have hlt49 : k < 6 := by omega
          have hmf : ∀ j, mostF S k ((L.drop p).take j) ≤ 5940 := fun j => mostF_le hS hlt49 (fun x hx => hLm x (List.mem_of_mem_drop (List.mem_of_mem_take hx)))
          refine ev_b bX7_boundOf_49_53 (lv' := [(4, .int (nI (k))), (3, .int (nI (bdTo S (L.drop p) m k))), (0, .ref 0), (1, .int (nI (m))), (2, .int (nI (p)))]) (st' := [.int (nI (6)), .int (nI (k))]) (w2 := modW 0 S X K) rfl ?_
          refine ev_icmp_ge_n (tgt := 172) (by omega) (by decide) dX7_boundOf_53 (by decide) (fun h53 => (by exfalso; omega)) (fun h53 => ?_)
          refine ev_b bX7_boundOf_56_61 (lv' := [(4, .int (nI (k))), (3, .int (nI (bdTo S (L.drop p) m k))), (0, .ref 0), (1, .int (nI (m))), (2, .int (nI (p)))]) (st' := [.int (nI (m)), .ref 9]) (w2 := modW 0 S X K) rfl ?_
          refine ev_iald_z (f := X.ta) dX7_boundOf_61 rfl (by omega) (by decide) ?_
          refine ev_top (y := (nI (itTo S.st m S.ca))) (by rw [show X.ta m = ((itTo S.st m S.ca : Nat) : Int) from by exact hT]; exact zI_nat _) ?_
          refine ev_b bX7_boundOf_62_64 (lv' := [(4, .int (nI (k))), (3, .int (nI (bdTo S (L.drop p) m k))), (0, .ref 0), (1, .int (nI (m))), (2, .int (nI (p)))]) (st' := [.int (nI (k)), .int (nI (itTo S.st m S.ca))]) (w2 := modW 0 S X K) rfl ?_
          refine ev_callS (Yc := mX7_has) [] dX7_boundOf_64 tw_1057 kX7_has (m_X7_has (itTo S.st m S.ca) k (by omega) (by omega)) rfl (st := []) rfl (by decide) rfl (by decide) (Nat.le_of_ble_eq_true rfl) (Nat.le_refl _) (Nat.le_refl _) (fun r w' h => by obtain ⟨-, rfl⟩ := h; exact Nat.le_of_ble_eq_true rfl) ?_
          rintro _ _ ⟨rfl, rfl⟩
          refine ev_eq (lv' := [(4, .int (nI (k))), (3, .int (nI (bdTo S (L.drop p) m k))), (0, .ref 0), (1, .int (nI (m))), (2, .int (nI (p)))]) (st' := [.int (nI (b01 ((itTo S.st m S.ca).testBit k = true)))]) (w' := modW 0 S X K) rfl rfl rfl ?_
          refine ev_ifeq_b (tgt := 73) dX7_boundOf_67 (by decide) (fun h67 => ?_) (fun h67 => ?_)
          · skip
            refine ev_b bX7_boundOf_73_81 (lv' := [(4, .int (nI (k))), (3, .int (nI (bdTo S (L.drop p) m k))), (0, .ref 0), (1, .int (nI (m))), (2, .int (nI (p)))]) (st' := [.int (nI (k)), .ref 1, .int (nI (60))]) (w2 := modW 0 S X K) rfl ?_
            refine ev_iald_n (f := S.rs) dX7_boundOf_81 rfl (by omega) (by decide) ?_
            refine ev_imul_n dX7_boundOf_82 ?_
            refine ev_b bX7_boundOf_83_88 (lv' := [(6, .int (nI (p))), (5, .int (nI (60 * (S.rs k)))), (4, .int (nI (k))), (3, .int (nI (bdTo S (L.drop p) m k))), (0, .ref 0), (1, .int (nI (m))), (2, .int (nI (p)))]) (st' := []) (w2 := modW 0 S X K) rfl ?_
            have L88 : ∀ (j_ q : Nat), q + j_ = L.length → (p ≤ q) → Ev l E mX7_boundOf (1) 0 0 (modW 0 S X K) (fun r w' => r = some (.int (nI (bdTo S (L.drop p) m 6))) ∧ w' = modW 0 S X K) 0 0 88 [(6, .int (nI (q))), (5, .int (nI (mostF S k ((L.drop p).take (q - p))))), (0, .ref 0), (1, .int (nI (m))), (2, .int (nI (p))), (3, .int (nI (bdTo S (L.drop p) m k))), (4, .int (nI (k)))] [] (modW 0 S X K) := by
              intro j_
              induction j_ with
              | zero =>
                intro q hk88  hinv88
                replace hk88 : q = L.length := hk88
                have hm0 := hmf (q - p)
                refine ev_b bX7_boundOf_88_94 (lv' := [(6, .int (nI (q))), (5, .int (nI (mostF S k ((L.drop p).take (q - p))))), (0, .ref 0), (1, .int (nI (m))), (2, .int (nI (p))), (3, .int (nI (bdTo S (L.drop p) m k))), (4, .int (nI (k)))]) (st' := [.int (nI (X.on)), .int (nI (q))]) (w2 := modW 0 S X K) rfl ?_
                refine ev_icmp_ge_n (tgt := 161) (by omega) (by omega) dX7_boundOf_94 (by decide) (fun h94 => ?_) (fun h94 => (by exfalso; omega))
                refine ev_b bX7_boundOf_161_164 (lv' := [(6, .int (nI (q))), (5, .int (nI (mostF S k ((L.drop p).take (q - p))))), (0, .ref 0), (1, .int (nI (m))), (2, .int (nI (p))), (3, .int (nI (bdTo S (L.drop p) m k))), (4, .int (nI (k)))]) (st' := [.int (nI (mostF S k ((L.drop p).take (q - p)))), .int (nI (bdTo S (L.drop p) m k))]) (w2 := modW 0 S X K) rfl ?_
                refine ev_iadd_n dX7_boundOf_164 ?_
                refine ev_top (y := (nI (bdTo S (L.drop p) m k + mostF S k (L.drop p)))) (congrArg nI (show (bdTo S (L.drop p) m k) + (mostF S k ((L.drop p).take (q - p))) = bdTo S (L.drop p) m k + mostF S k (L.drop p) from by rw [List.take_of_length_le (by rw [List.length_drop]; omega)])) ?_
                refine ev_b bX7_boundOf_165_166 (lv' := [(3, .int (nI (bdTo S (L.drop p) m k + mostF S k (L.drop p)))), (6, .int (nI (q))), (5, .int (nI (mostF S k ((L.drop p).take (q - p))))), (0, .ref 0), (1, .int (nI (m))), (2, .int (nI (p))), (4, .int (nI (k)))]) (st' := []) (w2 := modW 0 S X K) rfl ?_
                refine ev_iinc_n (x := k) (v := 1) dX7_boundOf_166 rfl (by decide) ?_
                refine ev_eq (lv' := [(4, .int (nI (k + 1))), (3, .int (nI (bdTo S (L.drop p) m k + mostF S k (L.drop p)))), (6, .int (nI (q))), (5, .int (nI (mostF S k ((L.drop p).take (q - p))))), (0, .ref 0), (1, .int (nI (m))), (2, .int (nI (p)))]) rfl rfl rfl ?_
                refine ev_b bX7_boundOf_169_49 (lv' := [(4, .int (nI (k + 1))), (3, .int (nI (bdTo S (L.drop p) m k + mostF S k (L.drop p)))), (6, .int (nI (q))), (5, .int (nI (mostF S k ((L.drop p).take (q - p))))), (0, .ref 0), (1, .int (nI (m))), (2, .int (nI (p)))]) (st' := []) (w2 := modW 0 S X K) rfl ?_
                refine ev_pick (lv' := [(4, .int (nI (k + 1))), (3, .int (nI (bdTo S (L.drop p) m k + mostF S k (L.drop p)))), (0, .ref 0), (1, .int (nI (m))), (2, .int (nI (p)))]) rfl ?_
                rw [show nI (k + 1) = nI ((k + 1)) from congrArg nI (by omega)]
                rw [show nI (bdTo S (L.drop p) m k + mostF S k (L.drop p)) = nI (bdTo S (L.drop p) m (k + 1)) from congrArg nI (by rw [bdTo_s]; first | (rw [if_pos h67]; rfl) | rw [if_neg h67])]
                exact ih49 (k + 1) (by omega) 
              | succ j_ ih88 =>
                intro q hk88  hinv88
                have hlt88 : q < L.length := by omega
                obtain ⟨m2, em, eo, emc⟩ := ord_lt hL hLm hlt88
                obtain ⟨-, k1, k2, k3⟩ := hS.2.2.1 m2 emc
                obtain ⟨p1, p2⟩ := pop64 _ k2 k1
                have esl := share_le hS emc
                have hdr : (L.drop p)[q - p]? = some m2 := by rw [List.getElem?_drop, show p + (q - p) = q by omega]; exact em
                have hst := mf_take (S := S) (i := k) hdr
                rw [← eo] at emc k1 k2 k3 p1 p2 esl
                have hm0 := hmf (q - p)
                refine ev_b bX7_boundOf_88_94 (lv' := [(6, .int (nI (q))), (5, .int (nI (mostF S k ((L.drop p).take (q - p))))), (0, .ref 0), (1, .int (nI (m))), (2, .int (nI (p))), (3, .int (nI (bdTo S (L.drop p) m k))), (4, .int (nI (k)))]) (st' := [.int (nI (X.on)), .int (nI (q))]) (w2 := modW 0 S X K) rfl ?_
                refine ev_icmp_ge_n (tgt := 161) (by omega) (by omega) dX7_boundOf_94 (by decide) (fun h94 => (by exfalso; omega)) (fun h94 => ?_)
                refine ev_b bX7_boundOf_97_107 (lv' := [(6, .int (nI (q))), (5, .int (nI (mostF S k ((L.drop p).take (q - p))))), (0, .ref 0), (1, .int (nI (m))), (2, .int (nI (p))), (3, .int (nI (bdTo S (L.drop p) m k))), (4, .int (nI (k)))]) (st' := [.int (nI (q)), .ref 15, .ref 5]) (w2 := modW 0 S X K) rfl ?_
                refine ev_iald_n (f := X.oo) dX7_boundOf_107 rfl (by omega) (by decide) ?_
                refine ev_iald_n (f := S.st) dX7_boundOf_108 rfl (by omega) (by decide) ?_
                refine ev_b bX7_boundOf_109_111 (lv' := [(6, .int (nI (q))), (5, .int (nI (mostF S k ((L.drop p).take (q - p))))), (0, .ref 0), (1, .int (nI (m))), (2, .int (nI (p))), (3, .int (nI (bdTo S (L.drop p) m k))), (4, .int (nI (k)))]) (st' := [.int (nI (k)), .int (nI (S.st (X.oo q)))]) (w2 := modW 0 S X K) rfl ?_
                refine ev_callS (Yc := mX7_has) [] dX7_boundOf_111 tw_1057 kX7_has (m_X7_has (S.st (X.oo q)) k (by omega) (by omega)) rfl (st := []) rfl (by decide) rfl (by decide) (Nat.le_of_ble_eq_true rfl) (Nat.le_refl _) (Nat.le_refl _) (fun r w' h => by obtain ⟨-, rfl⟩ := h; exact Nat.le_of_ble_eq_true rfl) ?_
                rintro _ _ ⟨rfl, rfl⟩
                refine ev_eq (lv' := [(6, .int (nI (q))), (5, .int (nI (mostF S k ((L.drop p).take (q - p))))), (0, .ref 0), (1, .int (nI (m))), (2, .int (nI (p))), (3, .int (nI (bdTo S (L.drop p) m k))), (4, .int (nI (k)))]) (st' := [.int (nI (b01 ((S.st (X.oo q)).testBit k = true)))]) (w' := modW 0 S X K) rfl rfl rfl ?_
                refine ev_ifeq_b (tgt := 155) dX7_boundOf_114 (by decide) (fun h114 => ?_) (fun h114 => ?_)
                · skip
                  refine ev_iinc_n (x := q) (v := 1) dX7_boundOf_155 rfl (by decide) ?_
                  refine ev_eq (lv' := [(6, .int (nI (q + 1))), (5, .int (nI (mostF S k ((L.drop p).take (q - p))))), (0, .ref 0), (1, .int (nI (m))), (2, .int (nI (p))), (3, .int (nI (bdTo S (L.drop p) m k))), (4, .int (nI (k)))]) rfl rfl rfl ?_
                  refine ev_b bX7_boundOf_158_88 (lv' := [(6, .int (nI (q + 1))), (5, .int (nI (mostF S k ((L.drop p).take (q - p))))), (0, .ref 0), (1, .int (nI (m))), (2, .int (nI (p))), (3, .int (nI (bdTo S (L.drop p) m k))), (4, .int (nI (k)))]) (st' := []) (w2 := modW 0 S X K) rfl ?_
                  rw [show nI (q + 1) = nI ((q + 1)) from congrArg nI (by omega)]
                  rw [show nI (mostF S k ((L.drop p).take (q - p))) = nI (mostF S k ((L.drop p).take ((q + 1) - p))) from congrArg nI (by rw [show q + 1 - p = (q - p) + 1 by omega, hst]; unfold mfF; rw [← eo]; first | rw [if_neg h114] | rw [if_pos h114])]
                  exact ih88 (q + 1) (by omega) (by omega)
                · skip
                  refine ev_b bX7_boundOf_117_131 (lv' := [(6, .int (nI (q))), (5, .int (nI (mostF S k ((L.drop p).take (q - p))))), (0, .ref 0), (1, .int (nI (m))), (2, .int (nI (p))), (3, .int (nI (bdTo S (L.drop p) m k))), (4, .int (nI (k)))]) (st' := [.int (nI (q)), .ref 15, .ref 5, .int (nI (60)), .int (nI (mostF S k ((L.drop p).take (q - p))))]) (w2 := modW 0 S X K) rfl ?_
                  refine ev_iald_n (f := X.oo) dX7_boundOf_131 rfl (by omega) (by decide) ?_
                  refine ev_iald_n (f := S.st) dX7_boundOf_132 rfl (by omega) (by decide) ?_
                  refine ev_callS (Yc := mX7_size) [] dX7_boundOf_133 tw_1132 kX7_size (m_X7_size (S.st (X.oo q)) (by omega)) rfl (st := [.int (nI (60)), .int (nI (mostF S k ((L.drop p).take (q - p))))]) rfl (by decide) rfl (by decide) (Nat.le_of_ble_eq_true rfl) (Nat.le_refl _) (Nat.le_refl _) (fun r w' h => by obtain ⟨-, rfl⟩ := h; exact Nat.le_of_ble_eq_true rfl) ?_
                  rintro _ _ ⟨rfl, rfl⟩
                  refine ev_eq (lv' := [(6, .int (nI (q))), (5, .int (nI (mostF S k ((L.drop p).take (q - p))))), (0, .ref 0), (1, .int (nI (m))), (2, .int (nI (p))), (3, .int (nI (bdTo S (L.drop p) m k))), (4, .int (nI (k)))]) (st' := [.int (nI (pop (S.st (X.oo q)))), .int (nI (60)), .int (nI (mostF S k ((L.drop p).take (q - p))))]) (w' := modW 0 S X K) rfl rfl rfl ?_
                  refine ev_idiv_n (by decide) (by omega) (by omega) dX7_boundOf_136 ?_
                  refine ev_b bX7_boundOf_137_147 (lv' := [(6, .int (nI (q))), (5, .int (nI (mostF S k ((L.drop p).take (q - p))))), (0, .ref 0), (1, .int (nI (m))), (2, .int (nI (p))), (3, .int (nI (bdTo S (L.drop p) m k))), (4, .int (nI (k)))]) (st' := [.int (nI (q)), .ref 15, .ref 6, .int (nI (60 / (pop (S.st (X.oo q))))), .int (nI (mostF S k ((L.drop p).take (q - p))))]) (w2 := modW 0 S X K) rfl ?_
                  refine ev_iald_n (f := X.oo) dX7_boundOf_147 rfl (by omega) (by decide) ?_
                  refine ev_iald_n (f := S.pr) dX7_boundOf_148 rfl (by omega) (by decide) ?_
                  refine ev_imul_n dX7_boundOf_149 ?_
                  refine ev_top (y := (nI (shareN S (X.oo q)))) (congrArg nI (show (60 / (pop (S.st (X.oo q)))) * (S.pr (X.oo q)) = shareN S (X.oo q) from by exact share_mul p1 p2)) ?_
                  refine ev_max dX7_boundOf_150 tw_1187 tw_655 tw_15 tw_656 (by decide) (Nat.le_of_ble_eq_true rfl) (Nat.le_refl _) (Nat.le_refl _) ?_
                  refine ev_top (n_max (by omega) (by omega)) ?_
                  refine ev_b bX7_boundOf_153_155 (lv' := [(5, .int (nI (max (mostF S k ((L.drop p).take (q - p))) (shareN S (X.oo q))))), (6, .int (nI (q))), (0, .ref 0), (1, .int (nI (m))), (2, .int (nI (p))), (3, .int (nI (bdTo S (L.drop p) m k))), (4, .int (nI (k)))]) (st' := []) (w2 := modW 0 S X K) rfl ?_
                  refine ev_iinc_n (x := q) (v := 1) dX7_boundOf_155 rfl (by decide) ?_
                  refine ev_eq (lv' := [(6, .int (nI (q + 1))), (5, .int (nI (max (mostF S k ((L.drop p).take (q - p))) (shareN S (X.oo q))))), (0, .ref 0), (1, .int (nI (m))), (2, .int (nI (p))), (3, .int (nI (bdTo S (L.drop p) m k))), (4, .int (nI (k)))]) rfl rfl rfl ?_
                  refine ev_b bX7_boundOf_158_88 (lv' := [(6, .int (nI (q + 1))), (5, .int (nI (max (mostF S k ((L.drop p).take (q - p))) (shareN S (X.oo q))))), (0, .ref 0), (1, .int (nI (m))), (2, .int (nI (p))), (3, .int (nI (bdTo S (L.drop p) m k))), (4, .int (nI (k)))]) (st' := []) (w2 := modW 0 S X K) rfl ?_
                  rw [show nI (q + 1) = nI ((q + 1)) from congrArg nI (by omega)]
                  rw [show nI (max (mostF S k ((L.drop p).take (q - p))) (shareN S (X.oo q))) = nI (mostF S k ((L.drop p).take ((q + 1) - p))) from congrArg nI (by rw [show q + 1 - p = (q - p) + 1 by omega, hst]; unfold mfF; rw [← eo]; first | rw [if_neg h114] | rw [if_pos h114])]
                  exact ih88 (q + 1) (by omega) (by omega)
            refine ev_pick (lv' := [(6, .int (nI (p))), (5, .int (nI (60 * (S.rs k)))), (0, .ref 0), (1, .int (nI (m))), (2, .int (nI (p))), (3, .int (nI (bdTo S (L.drop p) m k))), (4, .int (nI (k)))]) rfl ?_
            rw [show nI (60 * (S.rs k)) = nI (mostF S k ((L.drop p).take (p - p))) from congrArg nI (by rw [Nat.sub_self]; rfl)]
            exact L88 (L.length - p) p (by omega) (Nat.le_refl _)
          · skip
            refine ev_b bX7_boundOf_70_166 (lv' := [(4, .int (nI (k))), (3, .int (nI (bdTo S (L.drop p) m k))), (0, .ref 0), (1, .int (nI (m))), (2, .int (nI (p)))]) (st' := []) (w2 := modW 0 S X K) rfl ?_
            refine ev_iinc_n (x := k) (v := 1) dX7_boundOf_166 rfl (by decide) ?_
            refine ev_eq (lv' := [(4, .int (nI (k + 1))), (3, .int (nI (bdTo S (L.drop p) m k))), (0, .ref 0), (1, .int (nI (m))), (2, .int (nI (p)))]) rfl rfl rfl ?_
            refine ev_b bX7_boundOf_169_49 (lv' := [(4, .int (nI (k + 1))), (3, .int (nI (bdTo S (L.drop p) m k))), (0, .ref 0), (1, .int (nI (m))), (2, .int (nI (p)))]) (st' := []) (w2 := modW 0 S X K) rfl ?_
            rw [show nI (k + 1) = nI ((k + 1)) from congrArg nI (by omega)]
            rw [show nI (bdTo S (L.drop p) m k) = nI (bdTo S (L.drop p) m (k + 1)) from congrArg nI (by rw [bdTo_s]; first | (rw [if_pos h67]; rfl) | rw [if_neg h67])]
            exact ih49 (k + 1) (by omega) 
      exact L49 6 0 (by omega) 
    | succ j_ ih5 =>
      intro k hk5  
      have hlt5 : k < S.ca := by omega
      refine ev_b bX7_boundOf_5_11 (lv' := [(4, .int (nI (k))), (3, .int (nI (60 * prTo S.pr m k))), (0, .ref 0), (1, .int (nI (m))), (2, .int (nI (p)))]) (st' := [.int (nI (S.ca)), .int (nI (k))]) (w2 := modW 0 S X K) rfl ?_
      refine ev_icmp_ge_n (tgt := 46) (by omega) (by omega) dX7_boundOf_11 (by decide) (fun h11 => (by exfalso; omega)) (fun h11 => ?_)
      refine ev_b bX7_boundOf_14_18 (lv' := [(4, .int (nI (k))), (3, .int (nI (60 * prTo S.pr m k))), (0, .ref 0), (1, .int (nI (m))), (2, .int (nI (p)))]) (st' := [.int (nI (k)), .int (nI (m)), .int (nI (60 * prTo S.pr m k))]) (w2 := modW 0 S X K) rfl ?_
      refine ev_callS (Yc := mX7_has) [] dX7_boundOf_18 tw_1057 kX7_has (m_X7_has m k (by omega) (by omega)) rfl (st := [.int (nI (60 * prTo S.pr m k))]) rfl (by decide) rfl (by decide) (Nat.le_of_ble_eq_true rfl) (Nat.le_refl _) (Nat.le_refl _) (fun r w' h => by obtain ⟨-, rfl⟩ := h; exact Nat.le_of_ble_eq_true rfl) ?_
      rintro _ _ ⟨rfl, rfl⟩
      refine ev_eq (lv' := [(4, .int (nI (k))), (3, .int (nI (60 * prTo S.pr m k))), (0, .ref 0), (1, .int (nI (m))), (2, .int (nI (p)))]) (st' := [.int (nI (b01 (m.testBit k = true))), .int (nI (60 * prTo S.pr m k))]) (w' := modW 0 S X K) rfl rfl rfl ?_
      refine ev_ifeq_b (tgt := 37) dX7_boundOf_21 (by decide) (fun h21 => ?_) (fun h21 => ?_)
      · skip
        refine ev_b bX7_boundOf_37_38 (lv' := [(4, .int (nI (k))), (3, .int (nI (60 * prTo S.pr m k))), (0, .ref 0), (1, .int (nI (m))), (2, .int (nI (p)))]) (st' := [.int (nI (0)), .int (nI (60 * prTo S.pr m k))]) (w2 := modW 0 S X K) rfl ?_
        refine ev_iadd_n dX7_boundOf_38 ?_
        refine ev_b bX7_boundOf_39_40 (lv' := [(3, .int (nI ((60 * prTo S.pr m k) + 0))), (4, .int (nI (k))), (0, .ref 0), (1, .int (nI (m))), (2, .int (nI (p)))]) (st' := []) (w2 := modW 0 S X K) rfl ?_
        refine ev_iinc_n (x := k) (v := 1) dX7_boundOf_40 rfl (by decide) ?_
        refine ev_eq (lv' := [(4, .int (nI (k + 1))), (3, .int (nI ((60 * prTo S.pr m k) + 0))), (0, .ref 0), (1, .int (nI (m))), (2, .int (nI (p)))]) rfl rfl rfl ?_
        refine ev_b bX7_boundOf_43_5 (lv' := [(4, .int (nI (k + 1))), (3, .int (nI ((60 * prTo S.pr m k) + 0))), (0, .ref 0), (1, .int (nI (m))), (2, .int (nI (p)))]) (st' := []) (w2 := modW 0 S X K) rfl ?_
        rw [show nI (k + 1) = nI ((k + 1)) from congrArg nI (by omega)]
        rw [show nI ((60 * prTo S.pr m k) + 0) = nI (60 * prTo S.pr m (k + 1)) from congrArg nI (by rw [prTo_s]; first | (rw [if_neg h21]; omega) | rw [if_neg h21] | (rw [if_pos h21]; omega))]
        exact ih5 (k + 1) (by omega) 
      · skip
        refine ev_b bX7_boundOf_24_32 (lv' := [(4, .int (nI (k))), (3, .int (nI (60 * prTo S.pr m k))), (0, .ref 0), (1, .int (nI (m))), (2, .int (nI (p)))]) (st' := [.int (nI (k)), .ref 6, .int (nI (60)), .int (nI (60 * prTo S.pr m k))]) (w2 := modW 0 S X K) rfl ?_
        refine ev_iald_n (f := S.pr) dX7_boundOf_32 rfl (by omega) (by decide) ?_
        refine ev_imul_n dX7_boundOf_33 ?_
        refine ev_b bX7_boundOf_34_38 (lv' := [(4, .int (nI (k))), (3, .int (nI (60 * prTo S.pr m k))), (0, .ref 0), (1, .int (nI (m))), (2, .int (nI (p)))]) (st' := [.int (nI (60 * (S.pr k))), .int (nI (60 * prTo S.pr m k))]) (w2 := modW 0 S X K) rfl ?_
        refine ev_iadd_n dX7_boundOf_38 ?_
        refine ev_b bX7_boundOf_39_40 (lv' := [(3, .int (nI ((60 * prTo S.pr m k) + (60 * (S.pr k))))), (4, .int (nI (k))), (0, .ref 0), (1, .int (nI (m))), (2, .int (nI (p)))]) (st' := []) (w2 := modW 0 S X K) rfl ?_
        refine ev_iinc_n (x := k) (v := 1) dX7_boundOf_40 rfl (by decide) ?_
        refine ev_eq (lv' := [(4, .int (nI (k + 1))), (3, .int (nI ((60 * prTo S.pr m k) + (60 * (S.pr k))))), (0, .ref 0), (1, .int (nI (m))), (2, .int (nI (p)))]) rfl rfl rfl ?_
        refine ev_b bX7_boundOf_43_5 (lv' := [(4, .int (nI (k + 1))), (3, .int (nI ((60 * prTo S.pr m k) + (60 * (S.pr k))))), (0, .ref 0), (1, .int (nI (m))), (2, .int (nI (p)))]) (st' := []) (w2 := modW 0 S X K) rfl ?_
        rw [show nI (k + 1) = nI ((k + 1)) from congrArg nI (by omega)]
        rw [show nI ((60 * prTo S.pr m k) + (60 * (S.pr k))) = nI (60 * prTo S.pr m (k + 1)) from congrArg nI (by rw [prTo_s]; first | (rw [if_neg h21]; omega) | rw [if_neg h21] | (rw [if_pos h21]; omega))]
        exact ih5 (k + 1) (by omega) 
  exact L5 S.ca 0 (by omega) 
