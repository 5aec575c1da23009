theorem bX7_part_187_190 {l : Launch} {E : XE} : Snd l E mX7_part 187 190 (xs [x_puti 8 19]) := Snd.cons (snd_puti (ci := 8) (k := 19) dX7_part_187 rfl inX7 tyX7_ok nmX7 (by decide) tw_933 rfl rfl) Snd.nil
set_option maxHeartbeats 4000000 in
set_option maxRecDepth 100000 in
theorem m_X7_part_s {l : Launch} {E : XE} (S : SaleN) (X : ModN) (K : Option (Nat → Nat)) (hT : X.ty ≤ 96) (hL : ∀ k, k < X.ty → X.lt k ≤ 255) (hp : X.pl ≤ 96) (ho : X.od = 0) : MetE l E mX7_part (2) 0 0 [.ref 0, .int (nI (115))] (modW 0 S X K) (fun r w' => r = some (.int (nI (b01 ((rdSet X.lt X.ty (X.pl, -9)).2.2 = -9)))) ∧ ∃ n1 o1 : Nat, w' = modW 0 S ((X.rf, X.wo, X.ta, X.ow, X.sl, X.sh, X.lt, X.ty, (rdSet X.lt X.ty (X.pl, -9)).2.1, n1, o1, X.tt, X.oo, X.on, X.wn, X.pd, X.li, X.rr, X.rn, X.dr) : ModN) K ∧ o1 ≤ 1 ∧ n1 < 64 ∧ ((rdSet X.lt X.ty (X.pl, -9)).2.2 = -9 → (o1 = 0 → (rdSet X.lt X.ty (X.pl, -9)).1 = ((n1 : Nat) : Int)) ∧ (o1 ≠ 0 → (rdSet X.lt X.ty (X.pl, -9)).1 = -1))) := by
  refine MetE.of (by decide +kernel) (Nat.le_of_ble_eq_true rfl) ?_
  refine ev_eq (lv' := [(0, .ref 0), (1, .int (nI (115)))]) (st' := []) (w' := modW 0 S X K) rfl rfl rfl ?_
  refine ev_b bX7_part_0_8 (lv' := [(0, .ref 0), (1, .int (nI (115)))]) (st' := [.int (nI (110)), .int (nI (115))]) (w2 := modW 0 S ((X.rf, X.wo, X.ta, X.ow, X.sl, X.sh, X.lt, X.ty, X.pl, 0, X.od, X.tt, X.oo, X.on, X.wn, X.pd, X.li, X.rr, X.rn, X.dr) : ModN) K) rfl ?_
  refine ev_icmp_ne_n (tgt := 91) (by decide) (by decide) dX7_part_8 (by decide) (fun h8 => ?_) (fun h8 => (by exfalso; omega))
  refine ev_b bX7_part_91_92 (lv' := [(0, .ref 0), (1, .int (nI (115)))]) (st' := [.ref 0]) (w2 := modW 0 S ((X.rf, X.wo, X.ta, X.ow, X.sl, X.sh, X.lt, X.ty, X.pl, 0, X.od, X.tt, X.oo, X.on, X.wn, X.pd, X.li, X.rr, X.rn, X.dr) : ModN) K) rfl ?_
  refine ev_callM (Yc := mX7_isLetter) (st := []) dX7_part_92 tw_1032 kX7_isLetter (m_X7_isLetter S ((X.rf, X.wo, X.ta, X.ow, X.sl, X.sh, X.lt, X.ty, X.pl, 0, X.od, X.tt, X.oo, X.on, X.wn, X.pd, X.li, X.rr, X.rn, X.dr) : ModN) K hT hL hp) rfl rfl rfl rfl (by decide) (Nat.le_of_ble_eq_true rfl) (Nat.le_refl _) (Nat.le_refl _) (fun r w' h => by obtain ⟨-, rfl⟩ := h; exact mod_eq) ?_
  rintro _ _ ⟨rfl, rfl⟩
  refine ev_eq (lv' := [(0, .ref 0), (1, .int (nI (115)))]) (st' := [.int (nI (b01 (isSm (sgz X.lt X.ty X.pl))))]) (w' := modW 0 S ((X.rf, X.wo, X.ta, X.ow, X.sl, X.sh, X.lt, X.ty, X.pl, 0, X.od, X.tt, X.oo, X.on, X.wn, X.pd, X.li, X.rr, X.rn, X.dr) : ModN) K) rfl rfl rfl ?_
  refine ev_ifne_b (tgt := 100) dX7_part_95 (by decide) (fun h95 => ?_) (fun h95 => ?_)
  · skip
    have hsg0 := sgz_lt (lt := X.lt) (n := X.ty) (p := X.pl) (by omega)
    have hd0 : 97 ≤ X.lt X.pl ∧ X.lt X.pl ≤ 122 := by omega
    have e9 : rdItem X.lt X.ty (X.pl, -9) = (X.lt X.pl - 97, (X.pl + 1, -9)) := (if_pos rfl).trans (if_pos h95)
    refine ev_eq (w' := modW 0 S ((X.rf, X.wo, X.ta, X.ow, X.sl, X.sh, X.lt, X.ty, X.pl, 0, 0, X.tt, X.oo, X.on, X.wn, X.pd, X.li, X.rr, X.rn, X.dr) : ModN) K) rfl rfl (by rw [ho]) ?_
    refine ev_b bX7_part_100_105 (lv' := [(2, .int (nI (X.pl))), (0, .ref 0), (1, .int (nI (115)))]) (st' := []) (w2 := modW 0 S ((X.rf, X.wo, X.ta, X.ow, X.sl, X.sh, X.lt, X.ty, X.pl, 0, 0, X.tt, X.oo, X.on, X.wn, X.pd, X.li, X.rr, X.rn, X.dr) : ModN) K) rfl ?_
    have L105 : ∀ (j_ k : Nat), k + j_ = 97 → ∀ (n1 o1 : Nat), (MInv X.lt X.ty X.pl k n1 o1) → Ev l E mX7_part (2) 0 0 (modW 0 S X K) (fun r w' => r = some (.int (nI (b01 ((rdSet X.lt X.ty (X.pl, -9)).2.2 = -9)))) ∧ ∃ n1 o1 : Nat, w' = modW 0 S ((X.rf, X.wo, X.ta, X.ow, X.sl, X.sh, X.lt, X.ty, (rdSet X.lt X.ty (X.pl, -9)).2.1, n1, o1, X.tt, X.oo, X.on, X.wn, X.pd, X.li, X.rr, X.rn, X.dr) : ModN) K ∧ o1 ≤ 1 ∧ n1 < 64 ∧ ((rdSet X.lt X.ty (X.pl, -9)).2.2 = -9 → (o1 = 0 → (rdSet X.lt X.ty (X.pl, -9)).1 = ((n1 : Nat) : Int)) ∧ (o1 ≠ 0 → (rdSet X.lt X.ty (X.pl, -9)).1 = -1))) 0 0 105 [(0, .ref 0), (1, .int (nI (115))), (2, .int (nI (X.pl)))] [] (modW 0 S ((X.rf, X.wo, X.ta, X.ow, X.sl, X.sh, X.lt, X.ty, (X.pl + k), n1, o1, X.tt, X.oo, X.on, X.wn, X.pd, X.li, X.rr, X.rn, X.dr) : ModN) K) := by
      intro j_
      induction j_ with
      | zero =>
        intro k hk105 n1 o1 hinv105
        replace hk105 : k = 97 := hk105
        have hI := hinv105
        obtain ⟨hi1, hi2, hi3, hi4, hi5⟩ := hI
        exfalso; omega
      | succ j_ ih105 =>
        intro k hk105 n1 o1 hinv105
        have hlt105 : k < 97 := by omega
        have hI := hinv105
        obtain ⟨hi1, hi2, hi3, hi4, hi5⟩ := hI
        refine ev_b bX7_part_105_106 (lv' := [(0, .ref 0), (1, .int (nI (115))), (2, .int (nI (X.pl)))]) (st' := [.ref 0]) (w2 := modW 0 S ((X.rf, X.wo, X.ta, X.ow, X.sl, X.sh, X.lt, X.ty, (X.pl + k), n1, o1, X.tt, X.oo, X.on, X.wn, X.pd, X.li, X.rr, X.rn, X.dr) : ModN) K) rfl ?_
        refine ev_callM (Yc := mX7_isLetter) (st := []) dX7_part_106 tw_1032 kX7_isLetter (m_X7_isLetter S ((X.rf, X.wo, X.ta, X.ow, X.sl, X.sh, X.lt, X.ty, (X.pl + k), n1, o1, X.tt, X.oo, X.on, X.wn, X.pd, X.li, X.rr, X.rn, X.dr) : ModN) K hT hL (show X.pl + k ≤ 96 by omega)) rfl rfl rfl rfl (by decide) (Nat.le_of_ble_eq_true rfl) (Nat.le_refl _) (Nat.le_refl _) (fun r w' h => by obtain ⟨-, rfl⟩ := h; exact mod_eq) ?_
        rintro _ _ ⟨rfl, rfl⟩
        refine ev_eq (lv' := [(0, .ref 0), (1, .int (nI (115))), (2, .int (nI (X.pl)))]) (st' := [.int (nI (b01 (isSm (sgz X.lt X.ty (X.pl + k)))))]) (w' := modW 0 S ((X.rf, X.wo, X.ta, X.ow, X.sl, X.sh, X.lt, X.ty, (X.pl + k), n1, o1, X.tt, X.oo, X.on, X.wn, X.pd, X.li, X.rr, X.rn, X.dr) : ModN) K) rfl rfl rfl ?_
        refine ev_ifeq_b (tgt := 203) dX7_part_109 (by decide) (fun h109 => ?_) (fun h109 => ?_)
        · skip
          have hk1 : 1 ≤ k := by
            rcases Nat.eq_zero_or_pos k with z | z
            · subst z
              exact absurd h95 h109
            · exact z
          have hE : rdSet X.lt X.ty (X.pl, -9) = (setZ (n1, 1 - o1, 0), (X.pl + k, -9)) := by
            have h0 : (rdItem X.lt X.ty (X.pl, -9)).2.2 = -9 := by rw [e9]
            have h1 := set_end (lt := X.lt) (n := X.ty) (q := (X.pl, -9)) (s1 := n1) (o1 := 1 - o1) (p1 := X.pl + k) (fun _ => by rw [e9]; exact ms_end hinv105 hT hk1 h109) (fun hf => absurd h0 hf)
            rw [h1, h0]
          refine ev_b bX7_part_203_206 (lv' := [(0, .ref 0), (1, .int (nI (115))), (2, .int (nI (X.pl)))]) (st' := [.int (nI (108)), .int (nI (115))]) (w2 := modW 0 S ((X.rf, X.wo, X.ta, X.ow, X.sl, X.sh, X.lt, X.ty, (X.pl + k), n1, o1, X.tt, X.oo, X.on, X.wn, X.pd, X.li, X.rr, X.rn, X.dr) : ModN) K) rfl ?_
          refine ev_icmp_ne_n (tgt := 229) (by decide) (by decide) dX7_part_206 (by decide) (fun h206 => ?_) (fun h206 => (by exfalso; omega))
          refine ev_b bX7_part_229_230 (lv' := [(0, .ref 0), (1, .int (nI (115))), (2, .int (nI (X.pl)))]) (st' := [.int (nI (1))]) (w2 := modW 0 S ((X.rf, X.wo, X.ta, X.ow, X.sl, X.sh, X.lt, X.ty, (X.pl + k), n1, o1, X.tt, X.oo, X.on, X.wn, X.pd, X.li, X.rr, X.rn, X.dr) : ModN) K) rfl ?_
          exact ev_zret dX7_part_230 rfl rfl mod_le (Nat.le_refl _) (Nat.le_refl _) ⟨congrArg (fun t => some (Value.int (nI t))) (b01_t (by rw [hE])).symm, n1, o1, by rw [hE], hi3, hi2, fun _ => ⟨fun z => by rw [hE]; exact if_pos (show 1 - o1 = 1 by omega), fun z => by rw [hE]; exact if_neg (show ¬ 1 - o1 = 1 by omega)⟩⟩
        · skip
          have hsgk := sgz_lt (lt := X.lt) (n := X.ty) (p := X.pl + k) (by omega)
          have hdk : 97 ≤ X.lt (X.pl + k) ∧ X.lt (X.pl + k) ≤ 122 := by omega
          have hst := bit_step (X.lt (X.pl + k) - 97) (by omega) n1 hi2
          refine ev_b bX7_part_112_115 (lv' := [(0, .ref 0), (1, .int (nI (115))), (2, .int (nI (X.pl)))]) (st' := [.int (nI (115)), .int (nI (115))]) (w2 := modW 0 S ((X.rf, X.wo, X.ta, X.ow, X.sl, X.sh, X.lt, X.ty, (X.pl + k), n1, o1, X.tt, X.oo, X.on, X.wn, X.pd, X.li, X.rr, X.rn, X.dr) : ModN) K) rfl ?_
          refine ev_icmp_eq_n (tgt := 126) (by decide) (by decide) dX7_part_115 (by decide) (fun h115 => ?_) (fun h115 => (by exfalso; omega))
          refine ev_b bX7_part_126_134 (lv' := [(0, .ref 0), (1, .int (nI (115))), (2, .int (nI (X.pl)))]) (st' := [.int (nI ((X.pl + k))), .ref 11]) (w2 := modW 0 S ((X.rf, X.wo, X.ta, X.ow, X.sl, X.sh, X.lt, X.ty, (X.pl + k), n1, o1, X.tt, X.oo, X.on, X.wn, X.pd, X.li, X.rr, X.rn, X.dr) : ModN) K) rfl ?_
          refine ev_iald_n (f := X.lt) dX7_part_134 rfl (by omega) (by decide) ?_
          refine ev_b bX7_part_135_137 (lv' := [(0, .ref 0), (1, .int (nI (115))), (2, .int (nI (X.pl)))]) (st' := [.int (nI (97)), .int (nI (X.lt ((X.pl + k))))]) (w2 := modW 0 S ((X.rf, X.wo, X.ta, X.ow, X.sl, X.sh, X.lt, X.ty, (X.pl + k), n1, o1, X.tt, X.oo, X.on, X.wn, X.pd, X.li, X.rr, X.rn, X.dr) : ModN) K) rfl ?_
          refine ev_isub_n (by omega) dX7_part_137 ?_
          refine ev_b bX7_part_138_144 (lv' := [(3, .int (nI ((X.lt ((X.pl + k))) - 97))), (0, .ref 0), (1, .int (nI (115))), (2, .int (nI (X.pl)))]) (st' := [.int (nI (o1)), .ref 0]) (w2 := modW 0 S ((X.rf, X.wo, X.ta, X.ow, X.sl, X.sh, X.lt, X.ty, (X.pl + k), n1, o1, X.tt, X.oo, X.on, X.wn, X.pd, X.li, X.rr, X.rn, X.dr) : ModN) K) rfl ?_
          refine ev_if_ne_n (tgt := 164) (by omega) dX7_part_144 (by decide) (fun h144 => ?_) (fun h144 => ?_)
          · skip
            refine ev_b bX7_part_164_169 (lv' := [(3, .int (nI ((X.lt ((X.pl + k))) - 97))), (0, .ref 0), (1, .int (nI (115))), (2, .int (nI (X.pl)))]) (st' := [.int (nI (1)), .ref 0]) (w2 := modW 0 S ((X.rf, X.wo, X.ta, X.ow, X.sl, X.sh, X.lt, X.ty, (X.pl + k), n1, o1, X.tt, X.oo, X.on, X.wn, X.pd, X.li, X.rr, X.rn, X.dr) : ModN) K) rfl ?_
            refine snd_put (ci := 8) (k := 20) (a := 0) dX7_part_169 rfl inX7 tyX7_ok nmX7 (by decide) tw_934 rfl rfl (Nat.le_of_ble_eq_true rfl) (fun _ => rfl) (fun _ => rfl) ?_
            refine ev_eq (w' := modW 0 S ((X.rf, X.wo, X.ta, X.ow, X.sl, X.sh, X.lt, X.ty, (X.pl + k), n1, 1, X.tt, X.oo, X.on, X.wn, X.pd, X.li, X.rr, X.rn, X.dr) : ModN) K) rfl rfl rfl ?_
            refine ev_b bX7_part_172_175 (lv' := [(3, .int (nI ((X.lt ((X.pl + k))) - 97))), (0, .ref 0), (1, .int (nI (115))), (2, .int (nI (X.pl)))]) (st' := [.int (nI (6)), .int (nI ((X.lt ((X.pl + k))) - 97))]) (w2 := modW 0 S ((X.rf, X.wo, X.ta, X.ow, X.sl, X.sh, X.lt, X.ty, (X.pl + k), n1, 1, X.tt, X.oo, X.on, X.wn, X.pd, X.li, X.rr, X.rn, X.dr) : ModN) K) rfl ?_
            refine ev_icmp_ge_n (tgt := 190) (by omega) (by decide) dX7_part_175 (by decide) (fun h175 => ?_) (fun h175 => ?_)
            · skip
              have hnext : MInv X.lt X.ty X.pl (k + 1) (n1) 1 := ms_next hinv105 hT h109 (n1) 1 (by first | exact hst.1 (by omega) | exact hst.2.1 (by omega) | (exfalso; omega)) (by first | (exfalso; omega) | (exact (if_neg (fun z => by have z2 := hst.2.2.mp z.2; first | omega | (rw [h161] at z2; exact Bool.noConfusion z2.2))).symm)) (by decide)
              refine ev_b bX7_part_190_196 (lv' := [(3, .int (nI ((X.lt ((X.pl + k))) - 97))), (0, .ref 0), (1, .int (nI (115))), (2, .int (nI (X.pl)))]) (st' := [.int (nI (1)), .int (nI ((X.pl + k))), .ref 0]) (w2 := modW 0 S ((X.rf, X.wo, X.ta, X.ow, X.sl, X.sh, X.lt, X.ty, (X.pl + k), n1, 1, X.tt, X.oo, X.on, X.wn, X.pd, X.li, X.rr, X.rn, X.dr) : ModN) K) rfl ?_
              refine ev_iadd_n dX7_part_196 ?_
              refine ev_b bX7_part_197_105 (lv' := [(3, .int (nI ((X.lt ((X.pl + k))) - 97))), (0, .ref 0), (1, .int (nI (115))), (2, .int (nI (X.pl)))]) (st' := []) (w2 := modW 0 S ((X.rf, X.wo, X.ta, X.ow, X.sl, X.sh, X.lt, X.ty, ((X.pl + k)) + 1, n1, 1, X.tt, X.oo, X.on, X.wn, X.pd, X.li, X.rr, X.rn, X.dr) : ModN) K) rfl ?_
              refine ev_pick (lv' := [(0, .ref 0), (1, .int (nI (115))), (2, .int (nI (X.pl)))]) rfl ?_
              exact ih105 (k + 1) (by omega) _ _ hnext
            · skip
              refine ev_b bX7_part_178_185 (lv' := [(3, .int (nI ((X.lt ((X.pl + k))) - 97))), (0, .ref 0), (1, .int (nI (115))), (2, .int (nI (X.pl)))]) (st' := [.int (nI ((X.lt ((X.pl + k))) - 97)), .int (nI (1)), .int (nI (n1)), .ref 0]) (w2 := modW 0 S ((X.rf, X.wo, X.ta, X.ow, X.sl, X.sh, X.lt, X.ty, (X.pl + k), n1, 1, X.tt, X.oo, X.on, X.wn, X.pd, X.li, X.rr, X.rn, X.dr) : ModN) K) rfl ?_
              refine ev_ishl_n (by omega) dX7_part_185 ?_
              refine ev_ior_n dX7_part_186 ?_
              refine ev_b bX7_part_187_190 (lv' := [(3, .int (nI ((X.lt ((X.pl + k))) - 97))), (0, .ref 0), (1, .int (nI (115))), (2, .int (nI (X.pl)))]) (st' := []) (w2 := modW 0 S ((X.rf, X.wo, X.ta, X.ow, X.sl, X.sh, X.lt, X.ty, (X.pl + k), n1 ||| (1 <<< ((X.lt ((X.pl + k))) - 97)), 1, X.tt, X.oo, X.on, X.wn, X.pd, X.li, X.rr, X.rn, X.dr) : ModN) K) rfl ?_
              have hnext : MInv X.lt X.ty X.pl (k + 1) (n1 ||| (1 <<< ((X.lt ((X.pl + k))) - 97))) 1 := ms_next hinv105 hT h109 (n1 ||| (1 <<< ((X.lt ((X.pl + k))) - 97))) 1 (by first | exact hst.1 (by omega) | exact hst.2.1 (by omega) | (exfalso; omega)) (by first | (exfalso; omega) | (exact (if_neg (fun z => by have z2 := hst.2.2.mp z.2; first | omega | (rw [h161] at z2; exact Bool.noConfusion z2.2))).symm)) (by decide)
              refine ev_b bX7_part_190_196 (lv' := [(3, .int (nI ((X.lt ((X.pl + k))) - 97))), (0, .ref 0), (1, .int (nI (115))), (2, .int (nI (X.pl)))]) (st' := [.int (nI (1)), .int (nI ((X.pl + k))), .ref 0]) (w2 := modW 0 S ((X.rf, X.wo, X.ta, X.ow, X.sl, X.sh, X.lt, X.ty, (X.pl + k), n1 ||| (1 <<< ((X.lt ((X.pl + k))) - 97)), 1, X.tt, X.oo, X.on, X.wn, X.pd, X.li, X.rr, X.rn, X.dr) : ModN) K) rfl ?_
              refine ev_iadd_n dX7_part_196 ?_
              refine ev_b bX7_part_197_105 (lv' := [(3, .int (nI ((X.lt ((X.pl + k))) - 97))), (0, .ref 0), (1, .int (nI (115))), (2, .int (nI (X.pl)))]) (st' := []) (w2 := modW 0 S ((X.rf, X.wo, X.ta, X.ow, X.sl, X.sh, X.lt, X.ty, ((X.pl + k)) + 1, n1 ||| (1 <<< ((X.lt ((X.pl + k))) - 97)), 1, X.tt, X.oo, X.on, X.wn, X.pd, X.li, X.rr, X.rn, X.dr) : ModN) K) rfl ?_
              refine ev_pick (lv' := [(0, .ref 0), (1, .int (nI (115))), (2, .int (nI (X.pl)))]) rfl ?_
              exact ih105 (k + 1) (by omega) _ _ hnext
          · skip
            refine ev_b bX7_part_147_150 (lv' := [(3, .int (nI ((X.lt ((X.pl + k))) - 97))), (0, .ref 0), (1, .int (nI (115))), (2, .int (nI (X.pl)))]) (st' := [.int (nI (6)), .int (nI ((X.lt ((X.pl + k))) - 97)), .ref 0]) (w2 := modW 0 S ((X.rf, X.wo, X.ta, X.ow, X.sl, X.sh, X.lt, X.ty, (X.pl + k), n1, o1, X.tt, X.oo, X.on, X.wn, X.pd, X.li, X.rr, X.rn, X.dr) : ModN) K) rfl ?_
            refine ev_icmp_ge_n (tgt := 164) (by omega) (by decide) dX7_part_150 (by decide) (fun h150 => ?_) (fun h150 => ?_)
            · skip
              refine ev_b bX7_part_164_169 (lv' := [(3, .int (nI ((X.lt ((X.pl + k))) - 97))), (0, .ref 0), (1, .int (nI (115))), (2, .int (nI (X.pl)))]) (st' := [.int (nI (1)), .ref 0]) (w2 := modW 0 S ((X.rf, X.wo, X.ta, X.ow, X.sl, X.sh, X.lt, X.ty, (X.pl + k), n1, o1, X.tt, X.oo, X.on, X.wn, X.pd, X.li, X.rr, X.rn, X.dr) : ModN) K) rfl ?_
              refine snd_put (ci := 8) (k := 20) (a := 0) dX7_part_169 rfl inX7 tyX7_ok nmX7 (by decide) tw_934 rfl rfl (Nat.le_of_ble_eq_true rfl) (fun _ => rfl) (fun _ => rfl) ?_
              refine ev_eq (w' := modW 0 S ((X.rf, X.wo, X.ta, X.ow, X.sl, X.sh, X.lt, X.ty, (X.pl + k), n1, 1, X.tt, X.oo, X.on, X.wn, X.pd, X.li, X.rr, X.rn, X.dr) : ModN) K) rfl rfl rfl ?_
              refine ev_b bX7_part_172_175 (lv' := [(3, .int (nI ((X.lt ((X.pl + k))) - 97))), (0, .ref 0), (1, .int (nI (115))), (2, .int (nI (X.pl)))]) (st' := [.int (nI (6)), .int (nI ((X.lt ((X.pl + k))) - 97))]) (w2 := modW 0 S ((X.rf, X.wo, X.ta, X.ow, X.sl, X.sh, X.lt, X.ty, (X.pl + k), n1, 1, X.tt, X.oo, X.on, X.wn, X.pd, X.li, X.rr, X.rn, X.dr) : ModN) K) rfl ?_
              refine ev_icmp_ge_n (tgt := 190) (by omega) (by decide) dX7_part_175 (by decide) (fun h175 => ?_) (fun h175 => ?_)
              · skip
                have hnext : MInv X.lt X.ty X.pl (k + 1) (n1) 1 := ms_next hinv105 hT h109 (n1) 1 (by first | exact hst.1 (by omega) | exact hst.2.1 (by omega) | (exfalso; omega)) (by first | (exfalso; omega) | (exact (if_neg (fun z => by have z2 := hst.2.2.mp z.2; first | omega | (rw [h161] at z2; exact Bool.noConfusion z2.2))).symm)) (by decide)
                refine ev_b bX7_part_190_196 (lv' := [(3, .int (nI ((X.lt ((X.pl + k))) - 97))), (0, .ref 0), (1, .int (nI (115))), (2, .int (nI (X.pl)))]) (st' := [.int (nI (1)), .int (nI ((X.pl + k))), .ref 0]) (w2 := modW 0 S ((X.rf, X.wo, X.ta, X.ow, X.sl, X.sh, X.lt, X.ty, (X.pl + k), n1, 1, X.tt, X.oo, X.on, X.wn, X.pd, X.li, X.rr, X.rn, X.dr) : ModN) K) rfl ?_
                refine ev_iadd_n dX7_part_196 ?_
                refine ev_b bX7_part_197_105 (lv' := [(3, .int (nI ((X.lt ((X.pl + k))) - 97))), (0, .ref 0), (1, .int (nI (115))), (2, .int (nI (X.pl)))]) (st' := []) (w2 := modW 0 S ((X.rf, X.wo, X.ta, X.ow, X.sl, X.sh, X.lt, X.ty, ((X.pl + k)) + 1, n1, 1, X.tt, X.oo, X.on, X.wn, X.pd, X.li, X.rr, X.rn, X.dr) : ModN) K) rfl ?_
                refine ev_pick (lv' := [(0, .ref 0), (1, .int (nI (115))), (2, .int (nI (X.pl)))]) rfl ?_
                exact ih105 (k + 1) (by omega) _ _ hnext
              · skip
                refine ev_b bX7_part_178_185 (lv' := [(3, .int (nI ((X.lt ((X.pl + k))) - 97))), (0, .ref 0), (1, .int (nI (115))), (2, .int (nI (X.pl)))]) (st' := [.int (nI ((X.lt ((X.pl + k))) - 97)), .int (nI (1)), .int (nI (n1)), .ref 0]) (w2 := modW 0 S ((X.rf, X.wo, X.ta, X.ow, X.sl, X.sh, X.lt, X.ty, (X.pl + k), n1, 1, X.tt, X.oo, X.on, X.wn, X.pd, X.li, X.rr, X.rn, X.dr) : ModN) K) rfl ?_
                refine ev_ishl_n (by omega) dX7_part_185 ?_
                refine ev_ior_n dX7_part_186 ?_
                refine ev_b bX7_part_187_190 (lv' := [(3, .int (nI ((X.lt ((X.pl + k))) - 97))), (0, .ref 0), (1, .int (nI (115))), (2, .int (nI (X.pl)))]) (st' := []) (w2 := modW 0 S ((X.rf, X.wo, X.ta, X.ow, X.sl, X.sh, X.lt, X.ty, (X.pl + k), n1 ||| (1 <<< ((X.lt ((X.pl + k))) - 97)), 1, X.tt, X.oo, X.on, X.wn, X.pd, X.li, X.rr, X.rn, X.dr) : ModN) K) rfl ?_
                have hnext : MInv X.lt X.ty X.pl (k + 1) (n1 ||| (1 <<< ((X.lt ((X.pl + k))) - 97))) 1 := ms_next hinv105 hT h109 (n1 ||| (1 <<< ((X.lt ((X.pl + k))) - 97))) 1 (by first | exact hst.1 (by omega) | exact hst.2.1 (by omega) | (exfalso; omega)) (by first | (exfalso; omega) | (exact (if_neg (fun z => by have z2 := hst.2.2.mp z.2; first | omega | (rw [h161] at z2; exact Bool.noConfusion z2.2))).symm)) (by decide)
                refine ev_b bX7_part_190_196 (lv' := [(3, .int (nI ((X.lt ((X.pl + k))) - 97))), (0, .ref 0), (1, .int (nI (115))), (2, .int (nI (X.pl)))]) (st' := [.int (nI (1)), .int (nI ((X.pl + k))), .ref 0]) (w2 := modW 0 S ((X.rf, X.wo, X.ta, X.ow, X.sl, X.sh, X.lt, X.ty, (X.pl + k), n1 ||| (1 <<< ((X.lt ((X.pl + k))) - 97)), 1, X.tt, X.oo, X.on, X.wn, X.pd, X.li, X.rr, X.rn, X.dr) : ModN) K) rfl ?_
                refine ev_iadd_n dX7_part_196 ?_
                refine ev_b bX7_part_197_105 (lv' := [(3, .int (nI ((X.lt ((X.pl + k))) - 97))), (0, .ref 0), (1, .int (nI (115))), (2, .int (nI (X.pl)))]) (st' := []) (w2 := modW 0 S ((X.rf, X.wo, X.ta, X.ow, X.sl, X.sh, X.lt, X.ty, ((X.pl + k)) + 1, n1 ||| (1 <<< ((X.lt ((X.pl + k))) - 97)), 1, X.tt, X.oo, X.on, X.wn, X.pd, X.li, X.rr, X.rn, X.dr) : ModN) K) rfl ?_
                refine ev_pick (lv' := [(0, .ref 0), (1, .int (nI (115))), (2, .int (nI (X.pl)))]) rfl ?_
                exact ih105 (k + 1) (by omega) _ _ hnext
            · skip
              refine ev_b bX7_part_153_158 (lv' := [(3, .int (nI ((X.lt ((X.pl + k))) - 97))), (0, .ref 0), (1, .int (nI (115))), (2, .int (nI (X.pl)))]) (st' := [.int (nI ((X.lt ((X.pl + k))) - 97)), .int (nI (n1)), .ref 0]) (w2 := modW 0 S ((X.rf, X.wo, X.ta, X.ow, X.sl, X.sh, X.lt, X.ty, (X.pl + k), n1, o1, X.tt, X.oo, X.on, X.wn, X.pd, X.li, X.rr, X.rn, X.dr) : ModN) K) rfl ?_
              refine ev_callS (Yc := mX7_has) [] dX7_part_158 tw_1057 kX7_has (m_X7_has n1 (X.lt (X.pl + k) - 97) (by omega) (by omega)) rfl (st := [.ref 0]) rfl (by decide) rfl (by decide) (Nat.le_of_ble_eq_true rfl) (Nat.le_refl _) (Nat.le_refl _) (fun r w' h => by obtain ⟨-, rfl⟩ := h; exact Nat.le_of_ble_eq_true rfl) ?_
              rintro _ _ ⟨rfl, rfl⟩
              refine ev_eq (lv' := [(3, .int (nI ((X.lt ((X.pl + k))) - 97))), (0, .ref 0), (1, .int (nI (115))), (2, .int (nI (X.pl)))]) (st' := [.int (nI (b01 (n1.testBit (X.lt (X.pl + k) - 97) = true))), .ref 0]) (w' := modW 0 S ((X.rf, X.wo, X.ta, X.ow, X.sl, X.sh, X.lt, X.ty, (X.pl + k), n1, o1, X.tt, X.oo, X.on, X.wn, X.pd, X.li, X.rr, X.rn, X.dr) : ModN) K) rfl rfl rfl ?_
              refine ev_ifeq_b (tgt := 168) dX7_part_161 (by decide) (fun h161 => ?_) (fun h161 => ?_)
              · skip
                refine ev_b bX7_part_168_169 (lv' := [(3, .int (nI ((X.lt ((X.pl + k))) - 97))), (0, .ref 0), (1, .int (nI (115))), (2, .int (nI (X.pl)))]) (st' := [.int (nI (0)), .ref 0]) (w2 := modW 0 S ((X.rf, X.wo, X.ta, X.ow, X.sl, X.sh, X.lt, X.ty, (X.pl + k), n1, o1, X.tt, X.oo, X.on, X.wn, X.pd, X.li, X.rr, X.rn, X.dr) : ModN) K) rfl ?_
                refine snd_put (ci := 8) (k := 20) (a := 0) dX7_part_169 rfl inX7 tyX7_ok nmX7 (by decide) tw_934 rfl rfl (Nat.le_of_ble_eq_true rfl) (fun _ => rfl) (fun _ => rfl) ?_
                refine ev_eq (w' := modW 0 S ((X.rf, X.wo, X.ta, X.ow, X.sl, X.sh, X.lt, X.ty, (X.pl + k), n1, 0, X.tt, X.oo, X.on, X.wn, X.pd, X.li, X.rr, X.rn, X.dr) : ModN) K) rfl rfl rfl ?_
                refine ev_b bX7_part_172_175 (lv' := [(3, .int (nI ((X.lt ((X.pl + k))) - 97))), (0, .ref 0), (1, .int (nI (115))), (2, .int (nI (X.pl)))]) (st' := [.int (nI (6)), .int (nI ((X.lt ((X.pl + k))) - 97))]) (w2 := modW 0 S ((X.rf, X.wo, X.ta, X.ow, X.sl, X.sh, X.lt, X.ty, (X.pl + k), n1, 0, X.tt, X.oo, X.on, X.wn, X.pd, X.li, X.rr, X.rn, X.dr) : ModN) K) rfl ?_
                refine ev_icmp_ge_n (tgt := 190) (by omega) (by decide) dX7_part_175 (by decide) (fun h175 => ?_) (fun h175 => ?_)
                · skip
                  have hnext : MInv X.lt X.ty X.pl (k + 1) (n1) 0 := ms_next hinv105 hT h109 (n1) 0 (by first | exact hst.1 (by omega) | exact hst.2.1 (by omega) | (exfalso; omega)) (by first | (exfalso; omega) | (exact (if_pos ⟨by omega, hst.2.2.mpr ⟨by omega, Bool.eq_false_iff.mpr h161⟩⟩).symm)) (by decide)
                  refine ev_b bX7_part_190_196 (lv' := [(3, .int (nI ((X.lt ((X.pl + k))) - 97))), (0, .ref 0), (1, .int (nI (115))), (2, .int (nI (X.pl)))]) (st' := [.int (nI (1)), .int (nI ((X.pl + k))), .ref 0]) (w2 := modW 0 S ((X.rf, X.wo, X.ta, X.ow, X.sl, X.sh, X.lt, X.ty, (X.pl + k), n1, 0, X.tt, X.oo, X.on, X.wn, X.pd, X.li, X.rr, X.rn, X.dr) : ModN) K) rfl ?_
                  refine ev_iadd_n dX7_part_196 ?_
                  refine ev_b bX7_part_197_105 (lv' := [(3, .int (nI ((X.lt ((X.pl + k))) - 97))), (0, .ref 0), (1, .int (nI (115))), (2, .int (nI (X.pl)))]) (st' := []) (w2 := modW 0 S ((X.rf, X.wo, X.ta, X.ow, X.sl, X.sh, X.lt, X.ty, ((X.pl + k)) + 1, n1, 0, X.tt, X.oo, X.on, X.wn, X.pd, X.li, X.rr, X.rn, X.dr) : ModN) K) rfl ?_
                  refine ev_pick (lv' := [(0, .ref 0), (1, .int (nI (115))), (2, .int (nI (X.pl)))]) rfl ?_
                  exact ih105 (k + 1) (by omega) _ _ hnext
                · skip
                  refine ev_b bX7_part_178_185 (lv' := [(3, .int (nI ((X.lt ((X.pl + k))) - 97))), (0, .ref 0), (1, .int (nI (115))), (2, .int (nI (X.pl)))]) (st' := [.int (nI ((X.lt ((X.pl + k))) - 97)), .int (nI (1)), .int (nI (n1)), .ref 0]) (w2 := modW 0 S ((X.rf, X.wo, X.ta, X.ow, X.sl, X.sh, X.lt, X.ty, (X.pl + k), n1, 0, X.tt, X.oo, X.on, X.wn, X.pd, X.li, X.rr, X.rn, X.dr) : ModN) K) rfl ?_
                  refine ev_ishl_n (by omega) dX7_part_185 ?_
                  refine ev_ior_n dX7_part_186 ?_
                  refine ev_b bX7_part_187_190 (lv' := [(3, .int (nI ((X.lt ((X.pl + k))) - 97))), (0, .ref 0), (1, .int (nI (115))), (2, .int (nI (X.pl)))]) (st' := []) (w2 := modW 0 S ((X.rf, X.wo, X.ta, X.ow, X.sl, X.sh, X.lt, X.ty, (X.pl + k), n1 ||| (1 <<< ((X.lt ((X.pl + k))) - 97)), 0, X.tt, X.oo, X.on, X.wn, X.pd, X.li, X.rr, X.rn, X.dr) : ModN) K) rfl ?_
                  have hnext : MInv X.lt X.ty X.pl (k + 1) (n1 ||| (1 <<< ((X.lt ((X.pl + k))) - 97))) 0 := ms_next hinv105 hT h109 (n1 ||| (1 <<< ((X.lt ((X.pl + k))) - 97))) 0 (by first | exact hst.1 (by omega) | exact hst.2.1 (by omega) | (exfalso; omega)) (by first | (exfalso; omega) | (exact (if_pos ⟨by omega, hst.2.2.mpr ⟨by omega, Bool.eq_false_iff.mpr h161⟩⟩).symm)) (by decide)
                  refine ev_b bX7_part_190_196 (lv' := [(3, .int (nI ((X.lt ((X.pl + k))) - 97))), (0, .ref 0), (1, .int (nI (115))), (2, .int (nI (X.pl)))]) (st' := [.int (nI (1)), .int (nI ((X.pl + k))), .ref 0]) (w2 := modW 0 S ((X.rf, X.wo, X.ta, X.ow, X.sl, X.sh, X.lt, X.ty, (X.pl + k), n1 ||| (1 <<< ((X.lt ((X.pl + k))) - 97)), 0, X.tt, X.oo, X.on, X.wn, X.pd, X.li, X.rr, X.rn, X.dr) : ModN) K) rfl ?_
                  refine ev_iadd_n dX7_part_196 ?_
                  refine ev_b bX7_part_197_105 (lv' := [(3, .int (nI ((X.lt ((X.pl + k))) - 97))), (0, .ref 0), (1, .int (nI (115))), (2, .int (nI (X.pl)))]) (st' := []) (w2 := modW 0 S ((X.rf, X.wo, X.ta, X.ow, X.sl, X.sh, X.lt, X.ty, ((X.pl + k)) + 1, n1 ||| (1 <<< ((X.lt ((X.pl + k))) - 97)), 0, X.tt, X.oo, X.on, X.wn, X.pd, X.li, X.rr, X.rn, X.dr) : ModN) K) rfl ?_
                  refine ev_pick (lv' := [(0, .ref 0), (1, .int (nI (115))), (2, .int (nI (X.pl)))]) rfl ?_
                  exact ih105 (k + 1) (by omega) _ _ hnext
              · skip
                refine ev_b bX7_part_164_169 (lv' := [(3, .int (nI ((X.lt ((X.pl + k))) - 97))), (0, .ref 0), (1, .int (nI (115))), (2, .int (nI (X.pl)))]) (st' := [.int (nI (1)), .ref 0]) (w2 := modW 0 S ((X.rf, X.wo, X.ta, X.ow, X.sl, X.sh, X.lt, X.ty, (X.pl + k), n1, o1, X.tt, X.oo, X.on, X.wn, X.pd, X.li, X.rr, X.rn, X.dr) : ModN) K) rfl ?_
                refine snd_put (ci := 8) (k := 20) (a := 0) dX7_part_169 rfl inX7 tyX7_ok nmX7 (by decide) tw_934 rfl rfl (Nat.le_of_ble_eq_true rfl) (fun _ => rfl) (fun _ => rfl) ?_
                refine ev_eq (w' := modW 0 S ((X.rf, X.wo, X.ta, X.ow, X.sl, X.sh, X.lt, X.ty, (X.pl + k), n1, 1, X.tt, X.oo, X.on, X.wn, X.pd, X.li, X.rr, X.rn, X.dr) : ModN) K) rfl rfl rfl ?_
                refine ev_b bX7_part_172_175 (lv' := [(3, .int (nI ((X.lt ((X.pl + k))) - 97))), (0, .ref 0), (1, .int (nI (115))), (2, .int (nI (X.pl)))]) (st' := [.int (nI (6)), .int (nI ((X.lt ((X.pl + k))) - 97))]) (w2 := modW 0 S ((X.rf, X.wo, X.ta, X.ow, X.sl, X.sh, X.lt, X.ty, (X.pl + k), n1, 1, X.tt, X.oo, X.on, X.wn, X.pd, X.li, X.rr, X.rn, X.dr) : ModN) K) rfl ?_
                refine ev_icmp_ge_n (tgt := 190) (by omega) (by decide) dX7_part_175 (by decide) (fun h175 => ?_) (fun h175 => ?_)
                · skip
                  have hnext : MInv X.lt X.ty X.pl (k + 1) (n1) 1 := ms_next hinv105 hT h109 (n1) 1 (by first | exact hst.1 (by omega) | exact hst.2.1 (by omega) | (exfalso; omega)) (by first | (exfalso; omega) | (exact (if_neg (fun z => by have z2 := hst.2.2.mp z.2; first | omega | (rw [h161] at z2; exact Bool.noConfusion z2.2))).symm)) (by decide)
                  refine ev_b bX7_part_190_196 (lv' := [(3, .int (nI ((X.lt ((X.pl + k))) - 97))), (0, .ref 0), (1, .int (nI (115))), (2, .int (nI (X.pl)))]) (st' := [.int (nI (1)), .int (nI ((X.pl + k))), .ref 0]) (w2 := modW 0 S ((X.rf, X.wo, X.ta, X.ow, X.sl, X.sh, X.lt, X.ty, (X.pl + k), n1, 1, X.tt, X.oo, X.on, X.wn, X.pd, X.li, X.rr, X.rn, X.dr) : ModN) K) rfl ?_
                  refine ev_iadd_n dX7_part_196 ?_
                  refine ev_b bX7_part_197_105 (lv' := [(3, .int (nI ((X.lt ((X.pl + k))) - 97))), (0, .ref 0), (1, .int (nI (115))), (2, .int (nI (X.pl)))]) (st' := []) (w2 := modW 0 S ((X.rf, X.wo, X.ta, X.ow, X.sl, X.sh, X.lt, X.ty, ((X.pl + k)) + 1, n1, 1, X.tt, X.oo, X.on, X.wn, X.pd, X.li, X.rr, X.rn, X.dr) : ModN) K) rfl ?_
                  refine ev_pick (lv' := [(0, .ref 0), (1, .int (nI (115))), (2, .int (nI (X.pl)))]) rfl ?_
                  exact ih105 (k + 1) (by omega) _ _ hnext
                · skip
                  refine ev_b bX7_part_178_185 (lv' := [(3, .int (nI ((X.lt ((X.pl + k))) - 97))), (0, .ref 0), (1, .int (nI (115))), (2, .int (nI (X.pl)))]) (st' := [.int (nI ((X.lt ((X.pl + k))) - 97)), .int (nI (1)), .int (nI (n1)), .ref 0]) (w2 := modW 0 S ((X.rf, X.wo, X.ta, X.ow, X.sl, X.sh, X.lt, X.ty, (X.pl + k), n1, 1, X.tt, X.oo, X.on, X.wn, X.pd, X.li, X.rr, X.rn, X.dr) : ModN) K) rfl ?_
                  refine ev_ishl_n (by omega) dX7_part_185 ?_
                  refine ev_ior_n dX7_part_186 ?_
                  refine ev_b bX7_part_187_190 (lv' := [(3, .int (nI ((X.lt ((X.pl + k))) - 97))), (0, .ref 0), (1, .int (nI (115))), (2, .int (nI (X.pl)))]) (st' := []) (w2 := modW 0 S ((X.rf, X.wo, X.ta, X.ow, X.sl, X.sh, X.lt, X.ty, (X.pl + k), n1 ||| (1 <<< ((X.lt ((X.pl + k))) - 97)), 1, X.tt, X.oo, X.on, X.wn, X.pd, X.li, X.rr, X.rn, X.dr) : ModN) K) rfl ?_
                  have hnext : MInv X.lt X.ty X.pl (k + 1) (n1 ||| (1 <<< ((X.lt ((X.pl + k))) - 97))) 1 := ms_next hinv105 hT h109 (n1 ||| (1 <<< ((X.lt ((X.pl + k))) - 97))) 1 (by first | exact hst.1 (by omega) | exact hst.2.1 (by omega) | (exfalso; omega)) (by first | (exfalso; omega) | (exact (if_neg (fun z => by have z2 := hst.2.2.mp z.2; first | omega | (rw [h161] at z2; exact Bool.noConfusion z2.2))).symm)) (by decide)
                  refine ev_b bX7_part_190_196 (lv' := [(3, .int (nI ((X.lt ((X.pl + k))) - 97))), (0, .ref 0), (1, .int (nI (115))), (2, .int (nI (X.pl)))]) (st' := [.int (nI (1)), .int (nI ((X.pl + k))), .ref 0]) (w2 := modW 0 S ((X.rf, X.wo, X.ta, X.ow, X.sl, X.sh, X.lt, X.ty, (X.pl + k), n1 ||| (1 <<< ((X.lt ((X.pl + k))) - 97)), 1, X.tt, X.oo, X.on, X.wn, X.pd, X.li, X.rr, X.rn, X.dr) : ModN) K) rfl ?_
                  refine ev_iadd_n dX7_part_196 ?_
                  refine ev_b bX7_part_197_105 (lv' := [(3, .int (nI ((X.lt ((X.pl + k))) - 97))), (0, .ref 0), (1, .int (nI (115))), (2, .int (nI (X.pl)))]) (st' := []) (w2 := modW 0 S ((X.rf, X.wo, X.ta, X.ow, X.sl, X.sh, X.lt, X.ty, ((X.pl + k)) + 1, n1 ||| (1 <<< ((X.lt ((X.pl + k))) - 97)), 1, X.tt, X.oo, X.on, X.wn, X.pd, X.li, X.rr, X.rn, X.dr) : ModN) K) rfl ?_
                  refine ev_pick (lv' := [(0, .ref 0), (1, .int (nI (115))), (2, .int (nI (X.pl)))]) rfl ?_
                  exact ih105 (k + 1) (by omega) _ _ hnext
    refine ev_pick (lv' := [(0, .ref 0), (1, .int (nI (115))), (2, .int (nI (X.pl)))]) rfl ?_
    exact L105 97 0 (by omega) 0 0 ⟨by omega, by decide, by decide, fun _ => ⟨rfl, rfl⟩, fun z => absurd z (by decide)⟩
  · skip
    have e9 : rdItem X.lt X.ty (X.pl, -9) = (0, (X.pl, ((X.pl : Nat) : Int))) := (if_pos rfl).trans (if_neg h95)
    have eR : (rdSet X.lt X.ty (X.pl, -9)).2 = (X.pl, ((X.pl : Nat) : Int)) := by
      unfold rdSet
      rw [e9, if_neg (show ¬ ((X.pl : Nat) : Int) = -9 by omega)]
    refine ev_b bX7_part_98_99 (lv' := [(0, .ref 0), (1, .int (nI (115)))]) (st' := [.int (nI (0))]) (w2 := modW 0 S ((X.rf, X.wo, X.ta, X.ow, X.sl, X.sh, X.lt, X.ty, X.pl, 0, X.od, X.tt, X.oo, X.on, X.wn, X.pd, X.li, X.rr, X.rn, X.dr) : ModN) K) rfl ?_
    exact ev_zret dX7_part_99 rfl rfl mod_le (Nat.le_refl _) (Nat.le_refl _) ⟨congrArg (fun t => some (Value.int (nI t))) (b01_f (by rw [eR]; show ¬ ((X.pl : Nat) : Int) = -9; omega)).symm, 0, 0, by rw [eR, ho], by decide, by decide, fun z => absurd z (by rw [eR]; show ¬ ((X.pl : Nat) : Int) = -9; omega)⟩
