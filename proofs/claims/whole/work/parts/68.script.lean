theorem hw_Scr0_Sale7__7 {x0 : ScrN} {x1 : SaleN} : ([7, 8, 9, 10, 11, 12, 13, 14] : List Nat).map (fun i => (scrW 0 x0 ++ saleW 7 x1)[i]?) = (saleW 0 x1).map (fun e => some (xr ([7, 8, 9, 10, 11, 12, 13, 14] : List Nat) (scrW 0 x0 ++ saleW 7 x1).length e)) := rfl
theorem xp_Scr0_Sale7__7 {x0 : ScrN} {x1 : SaleN} {y0 : SaleN} : xput ([7, 8, 9, 10, 11, 12, 13, 14] : List Nat) (scrW 0 x0 ++ saleW 7 x1).length (scrW 0 x0 ++ saleW 7 x1) ([7, 8, 9, 10, 11, 12, 13, 14] : List Nat) (saleW 0 y0) = scrW 0 x0 ++ saleW 7 y0 := by
  have e0 : xput ([7, 8, 9, 10, 11, 12, 13, 14] : List Nat) (scrW 0 x0 ++ saleW 7 x1).length (scrW 0 x0 ++ saleW 7 x1) ([7, 8, 9, 10, 11, 12, 13, 14] : List Nat) (saleW 0 y0) = scrW 0 x0 ++ saleW 7 y0 := xput_blk (scrW 0 x0) (saleW 7 x1) ([]) (saleW 0 y0) rfl
  exact e0
theorem bX4_isRight_0_1 {l : Launch} {E : XE} : Snd l E mX4_isRight 0 1 (xs [x_iload 2]) := Snd.cons (snd_iload_n (i := 2) dX4_isRight_0 rfl) Snd.nil
theorem bX4_isRight_4_7 {l : Launch} {E : XE} : Snd l E mX4_isRight 4 7 (xs [x_iload 2, x_push (.int (nI 16))]) := Snd.cons (snd_iload_n (i := 2) dX4_isRight_4 rfl) (Snd.cons (snd_bipush (v := nI 16) dX4_isRight_5 (by decide)) Snd.nil)
theorem bX4_isRight_12_17 {l : Launch} {E : XE} : Snd l E mX4_isRight 12 17 (xs [x_aload 0, x_get 5 2, x_iload 2]) := Snd.cons (snd_aload_n (i := 0) dX4_isRight_12 rfl) (Snd.cons (snd_get (ci := 5) (k := 2) dX4_isRight_13 rfl inX4 (by decide) tw_162) (Snd.cons (snd_iload_n (i := 2) dX4_isRight_16 rfl) Snd.nil))
theorem bX4_isRight_48_53 {l : Launch} {E : XE} : Snd l E mX4_isRight 48 53 (xs [x_aload 0, x_get 5 3, x_iload 2]) := Snd.cons (snd_aload_n (i := 0) dX4_isRight_48 rfl) (Snd.cons (snd_get (ci := 5) (k := 3) dX4_isRight_49 rfl inX4 (by decide) tw_163) (Snd.cons (snd_iload_n (i := 2) dX4_isRight_52 rfl) Snd.nil))
theorem bX4_isRight_90_91 {l : Launch} {E : XE} : Snd l E mX4_isRight 90 91 (xs [x_push (.int (nI 0))]) := Snd.cons (snd_iconst (v := nI 0) dX4_isRight_90 (by decide)) Snd.nil
theorem bX4_isRight_60_65 {l : Launch} {E : XE} : Snd l E mX4_isRight 60 65 (xs [x_aload 0, x_get 5 4, x_iload 2]) := Snd.cons (snd_aload_n (i := 0) dX4_isRight_60 rfl) (Snd.cons (snd_get (ci := 5) (k := 4) dX4_isRight_61 rfl inX4 (by decide) tw_164) (Snd.cons (snd_iload_n (i := 2) dX4_isRight_64 rfl) Snd.nil))
theorem bX4_isRight_66_67 {l : Launch} {E : XE} : Snd l E mX4_isRight 66 67 (xs [x_push (.int (-1))]) := Snd.cons (snd_iconst (v := -1) dX4_isRight_66 (by decide)) Snd.nil
theorem bX4_isRight_70_75 {l : Launch} {E : XE} : Snd l E mX4_isRight 70 75 (xs [x_aload 0, x_get 5 5, x_iload 2]) := Snd.cons (snd_aload_n (i := 0) dX4_isRight_70 rfl) (Snd.cons (snd_get (ci := 5) (k := 5) dX4_isRight_71 rfl inX4 (by decide) tw_165) (Snd.cons (snd_iload_n (i := 2) dX4_isRight_74 rfl) Snd.nil))
theorem bX4_isRight_79_80 {l : Launch} {E : XE} : Snd l E mX4_isRight 79 80 (xs [x_aload 1]) := Snd.cons (snd_aload_n (i := 1) dX4_isRight_79 rfl) Snd.nil
theorem bX4_isRight_86_91 {l : Launch} {E : XE} : Snd l E mX4_isRight 86 91 (xs [x_push (.int (nI 1)), x_id]) := Snd.cons (snd_iconst (v := nI 1) dX4_isRight_86 (by decide)) (Snd.cons (snd_goto (tgt := 91) dX4_isRight_87 (by decide)) Snd.nil)
theorem bX4_isRight_92_98 {l : Launch} {E : XE} : Snd l E mX4_isRight 92 98 (xs [x_aload 1, x_aload 0, x_get 5 3, x_iload 2]) := Snd.cons (snd_aload_n (i := 1) dX4_isRight_92 rfl) (Snd.cons (snd_aload_n (i := 0) dX4_isRight_93 rfl) (Snd.cons (snd_get (ci := 5) (k := 3) dX4_isRight_94 rfl inX4 (by decide) tw_163) (Snd.cons (snd_iload_n (i := 2) dX4_isRight_97 rfl) Snd.nil)))
theorem bX4_isRight_103_108 {l : Launch} {E : XE} : Snd l E mX4_isRight 103 108 (xs [x_aload 0, x_get 5 3, x_iload 2]) := Snd.cons (snd_aload_n (i := 0) dX4_isRight_103 rfl) (Snd.cons (snd_get (ci := 5) (k := 3) dX4_isRight_104 rfl inX4 (by decide) tw_163) (Snd.cons (snd_iload_n (i := 2) dX4_isRight_107 rfl) Snd.nil))
theorem bX4_isRight_141_142 {l : Launch} {E : XE} : Snd l E mX4_isRight 141 142 (xs [x_push (.int (nI 0))]) := Snd.cons (snd_iconst (v := nI 0) dX4_isRight_141 (by decide)) Snd.nil
theorem bX4_isRight_115_120 {l : Launch} {E : XE} : Snd l E mX4_isRight 115 120 (xs [x_aload 0, x_get 5 4, x_iload 2]) := Snd.cons (snd_aload_n (i := 0) dX4_isRight_115 rfl) (Snd.cons (snd_get (ci := 5) (k := 4) dX4_isRight_116 rfl inX4 (by decide) tw_164) (Snd.cons (snd_iload_n (i := 2) dX4_isRight_119 rfl) Snd.nil))
theorem bX4_isRight_121_123 {l : Launch} {E : XE} : Snd l E mX4_isRight 121 123 (xs [x_push (.int (nI 6))]) := Snd.cons (snd_bipush (v := nI 6) dX4_isRight_121 (by decide)) Snd.nil
theorem bX4_isRight_126_131 {l : Launch} {E : XE} : Snd l E mX4_isRight 126 131 (xs [x_aload 0, x_get 5 5, x_iload 2]) := Snd.cons (snd_aload_n (i := 0) dX4_isRight_126 rfl) (Snd.cons (snd_get (ci := 5) (k := 5) dX4_isRight_127 rfl inX4 (by decide) tw_165) (Snd.cons (snd_iload_n (i := 2) dX4_isRight_130 rfl) Snd.nil))
theorem bX4_isRight_132_134 {l : Launch} {E : XE} : Snd l E mX4_isRight 132 134 (xs [x_push (.int (nI 9))]) := Snd.cons (snd_bipush (v := nI 9) dX4_isRight_132 (by decide)) Snd.nil
theorem bX4_isRight_137_142 {l : Launch} {E : XE} : Snd l E mX4_isRight 137 142 (xs [x_push (.int (nI 1)), x_id]) := Snd.cons (snd_iconst (v := nI 1) dX4_isRight_137 (by decide)) (Snd.cons (snd_goto (tgt := 142) dX4_isRight_138 (by decide)) Snd.nil)
theorem bX4_isRight_143_148 {l : Launch} {E : XE} : Snd l E mX4_isRight 143 148 (xs [x_aload 0, x_get 5 3, x_iload 2]) := Snd.cons (snd_aload_n (i := 0) dX4_isRight_143 rfl) (Snd.cons (snd_get (ci := 5) (k := 3) dX4_isRight_144 rfl inX4 (by decide) tw_163) (Snd.cons (snd_iload_n (i := 2) dX4_isRight_147 rfl) Snd.nil))
theorem bX4_isRight_170_171 {l : Launch} {E : XE} : Snd l E mX4_isRight 170 171 (xs [x_push (.int (nI 0))]) := Snd.cons (snd_iconst (v := nI 0) dX4_isRight_170 (by decide)) Snd.nil
theorem bX4_isRight_155_160 {l : Launch} {E : XE} : Snd l E mX4_isRight 155 160 (xs [x_aload 0, x_get 5 4, x_iload 2]) := Snd.cons (snd_aload_n (i := 0) dX4_isRight_155 rfl) (Snd.cons (snd_get (ci := 5) (k := 4) dX4_isRight_156 rfl inX4 (by decide) tw_164) (Snd.cons (snd_iload_n (i := 2) dX4_isRight_159 rfl) Snd.nil))
theorem bX4_isRight_161_163 {l : Launch} {E : XE} : Snd l E mX4_isRight 161 163 (xs [x_push (.int (nI 9))]) := Snd.cons (snd_bipush (v := nI 9) dX4_isRight_161 (by decide)) Snd.nil
theorem bX4_isRight_166_171 {l : Launch} {E : XE} : Snd l E mX4_isRight 166 171 (xs [x_push (.int (nI 1)), x_id]) := Snd.cons (snd_iconst (v := nI 1) dX4_isRight_166 (by decide)) (Snd.cons (snd_goto (tgt := 171) dX4_isRight_167 (by decide)) Snd.nil)
theorem bX4_isRight_172_178 {l : Launch} {E : XE} : Snd l E mX4_isRight 172 178 (xs [x_aload 1, x_aload 0, x_get 5 3, x_iload 2]) := Snd.cons (snd_aload_n (i := 1) dX4_isRight_172 rfl) (Snd.cons (snd_aload_n (i := 0) dX4_isRight_173 rfl) (Snd.cons (snd_get (ci := 5) (k := 3) dX4_isRight_174 rfl inX4 (by decide) tw_163) (Snd.cons (snd_iload_n (i := 2) dX4_isRight_177 rfl) Snd.nil)))
theorem bX4_isRight_198_199 {l : Launch} {E : XE} : Snd l E mX4_isRight 198 199 (xs [x_push (.int (nI 0))]) := Snd.cons (snd_iconst (v := nI 0) dX4_isRight_198 (by decide)) Snd.nil
theorem bX4_isRight_185_190 {l : Launch} {E : XE} : Snd l E mX4_isRight 185 190 (xs [x_aload 0, x_get 5 4, x_iload 2]) := Snd.cons (snd_aload_n (i := 0) dX4_isRight_185 rfl) (Snd.cons (snd_get (ci := 5) (k := 4) dX4_isRight_186 rfl inX4 (by decide) tw_164) (Snd.cons (snd_iload_n (i := 2) dX4_isRight_189 rfl) Snd.nil))
theorem bX4_isRight_194_199 {l : Launch} {E : XE} : Snd l E mX4_isRight 194 199 (xs [x_push (.int (nI 1)), x_id]) := Snd.cons (snd_iconst (v := nI 1) dX4_isRight_194 (by decide)) (Snd.cons (snd_goto (tgt := 199) dX4_isRight_195 (by decide)) Snd.nil)
set_option maxHeartbeats 4000000 in
set_option maxRecDepth 100000 in
theorem m_X4_isRight {l : Launch} {E : XE} (C : ScrN) (S : SaleN) (s : Nat) (hC : StOK C) (hs : s < C.sn) (hS : SaleOK S) : MetE l E mX4_isRight (1) 0 0 [.ref 0, .ref 7, .int (nI (s))] (scrW 0 C ++ saleW 7 S) (fun r w' => r = some (.int (nI (b01 (stOk S (C.wd s) (C.f1 s) (C.f2 s) (C.f3 s))))) ∧ w' = scrW 0 C ++ saleW 7 S) := by
  refine MetE.of (by decide +kernel) (Nat.le_of_ble_eq_true rfl) ?_
  have hca := hS.1
  have hsn := hC.1
  obtain ⟨⟨hw1, hw2⟩, ⟨ha1, ha2⟩, ⟨hb1, hb2⟩, ⟨hc1, hc2⟩, hb0, hbn⟩ := st_one hC hs
  refine ev_eq (lv' := [(0, .ref 0), (1, .ref 7), (2, .int (nI (s)))]) (st' := []) (w' := scrW 0 C ++ saleW 7 S) rfl rfl rfl ?_
  refine ev_b bX4_isRight_0_1 (lv' := [(0, .ref 0), (1, .ref 7), (2, .int (nI (s)))]) (st' := [.int (nI (s))]) (w2 := scrW 0 C ++ saleW 7 S) rfl ?_
  refine ev_if_lt_n (tgt := 10) (by omega) dX4_isRight_1 (by decide) (fun h1 => (by exfalso; omega)) (fun h1 => ?_)
  refine ev_b bX4_isRight_4_7 (lv' := [(0, .ref 0), (1, .ref 7), (2, .int (nI (s)))]) (st' := [.int (nI (16)), .int (nI (s))]) (w2 := scrW 0 C ++ saleW 7 S) rfl ?_
  refine ev_icmp_lt_n (tgt := 12) (by omega) (by decide) dX4_isRight_7 (by decide) (fun h7 => ?_) (fun h7 => (by exfalso; omega))
  refine ev_b bX4_isRight_12_17 (lv' := [(0, .ref 0), (1, .ref 7), (2, .int (nI (s)))]) (st' := [.int (nI (s)), .ref 3]) (w2 := scrW 0 C ++ saleW 7 S) rfl ?_
  refine ev_iald_z (f := C.wd) dX4_isRight_17 rfl (by omega) (by decide) ?_
  rcases (show C.wd s = 0 ∨ C.wd s = 1 ∨ C.wd s = 2 ∨ C.wd s = 3 ∨ (C.wd s < 0 ∨ 3 < C.wd s) from by omega) with h18 | h18 | h18 | h18 | h18
  · skip
    refine ev_tableIn (off := 30) (tgt := 48) dX4_isRight_18 (by rw [zI_toInt (by omega) (by omega)]; omega) (by rw [zI_toInt (by omega) (by omega)]; omega) (by rw [h18]; rfl) (by decide) ?_
    refine ev_b bX4_isRight_48_53 (lv' := [(0, .ref 0), (1, .ref 7), (2, .int (nI (s)))]) (st' := [.int (nI (s)), .ref 4]) (w2 := scrW 0 C ++ saleW 7 S) rfl ?_
    refine ev_iald_z (f := C.f1) dX4_isRight_53 rfl (by omega) (by decide) ?_
    refine ev_callSN (Yc := mX6_isBidder) [] dX4_isRight_54 tn_387 kX6_isBidder (m_X6_isBidder_z (C.f1 s) (by constructor <;> omega)) rfl (st := []) rfl (by decide) rfl (by decide) (Nat.le_of_ble_eq_true rfl) (Nat.le_refl _) (Nat.le_refl _) (fun r w' h => by obtain ⟨-, rfl⟩ := h; exact Nat.le_of_ble_eq_true rfl) ?_
    rintro _ _ ⟨rfl, rfl⟩
    refine ev_eq (lv' := [(0, .ref 0), (1, .ref 7), (2, .int (nI (s)))]) (st' := [.int (nI (b01 (0 ≤ C.f1 s ∧ C.f1 s < 5)))]) (w' := scrW 0 C ++ saleW 7 S) rfl rfl rfl ?_
    refine ev_ifeq_b (tgt := 90) dX4_isRight_57 (by decide) (fun h57 => ?_) (fun h57 => ?_)
    · skip
      refine ev_b bX4_isRight_90_91 (lv' := [(0, .ref 0), (1, .ref 7), (2, .int (nI (s)))]) (st' := [.int (nI (0))]) (w2 := scrW 0 C ++ saleW 7 S) rfl ?_
      exact ev_zret dX4_isRight_91 rfl rfl (Nat.le_of_ble_eq_true rfl) (Nat.le_refl _) (Nat.le_refl _) ⟨(congrArg (fun t => some (Value.int (nI t))) (b01_f (by unfold stOk; omega)).symm), rfl⟩
    · skip
      refine ev_b bX4_isRight_60_65 (lv' := [(0, .ref 0), (1, .ref 7), (2, .int (nI (s)))]) (st' := [.int (nI (s)), .ref 5]) (w2 := scrW 0 C ++ saleW 7 S) rfl ?_
      refine ev_iald_z (f := C.f2) dX4_isRight_65 rfl (by omega) (by decide) ?_
      refine ev_b bX4_isRight_66_67 (lv' := [(0, .ref 0), (1, .ref 7), (2, .int (nI (s)))]) (st' := [.int (-1), .int (zI (C.f2 s))]) (w2 := scrW 0 C ++ saleW 7 S) rfl ?_
      refine ev_top (y := zI (-1)) (by decide) ?_
      refine ev_icmp_eq_z (tgt := 90) (by constructor <;> omega) (by constructor <;> omega) dX4_isRight_67 (by decide) (fun h67 => ?_) (fun h67 => ?_)
      · skip
        refine ev_b bX4_isRight_90_91 (lv' := [(0, .ref 0), (1, .ref 7), (2, .int (nI (s)))]) (st' := [.int (nI (0))]) (w2 := scrW 0 C ++ saleW 7 S) rfl ?_
        exact ev_zret dX4_isRight_91 rfl rfl (Nat.le_of_ble_eq_true rfl) (Nat.le_refl _) (Nat.le_refl _) ⟨(congrArg (fun t => some (Value.int (nI t))) (b01_f (by unfold stOk; omega)).symm), rfl⟩
      · skip
        refine ev_b bX4_isRight_70_75 (lv' := [(0, .ref 0), (1, .ref 7), (2, .int (nI (s)))]) (st' := [.int (nI (s)), .ref 6]) (w2 := scrW 0 C ++ saleW 7 S) rfl ?_
        refine ev_iald_z (f := C.f3) dX4_isRight_75 rfl (by omega) (by decide) ?_
        refine ev_if_le_z (tgt := 90) (by constructor <;> omega) dX4_isRight_76 (by decide) (fun h76 => ?_) (fun h76 => ?_)
        · skip
          refine ev_b bX4_isRight_90_91 (lv' := [(0, .ref 0), (1, .ref 7), (2, .int (nI (s)))]) (st' := [.int (nI (0))]) (w2 := scrW 0 C ++ saleW 7 S) rfl ?_
          exact ev_zret dX4_isRight_91 rfl rfl (Nat.le_of_ble_eq_true rfl) (Nat.le_refl _) (Nat.le_refl _) ⟨(congrArg (fun t => some (Value.int (nI t))) (b01_f (by unfold stOk; omega)).symm), rfl⟩
        · skip
          refine ev_b bX4_isRight_79_80 (lv' := [(0, .ref 0), (1, .ref 7), (2, .int (nI (s)))]) (st' := [.ref 7]) (w2 := scrW 0 C ++ saleW 7 S) rfl ?_
          refine ev_callVN (Yc := mX3_isFull) [7, 8, 9, 10, 11, 12, 13, 14] dX4_isRight_80 tn_390 kX3_isFull (m_X3_isFull S hS) rfl (st := []) rfl rfl rfl (by decide) hw_Scr0_Sale7__7 (by decide) (Nat.le_of_ble_eq_true rfl) (Nat.le_refl _) (Nat.le_refl _) (fun r w' h => by obtain ⟨-, rfl⟩ := h; exact Nat.le_of_ble_eq_true rfl) ?_
          rintro _ _ ⟨rfl, rfl⟩
          refine ev_eq (lv' := [(0, .ref 0), (1, .ref 7), (2, .int (nI (s)))]) (st' := [.int (nI (b01 (10 ≤ S.ca)))]) (w' := scrW 0 C ++ saleW 7 S) rfl rfl xp_Scr0_Sale7__7 ?_
          refine ev_ifne_b (tgt := 90) dX4_isRight_83 (by decide) (fun h83 => ?_) (fun h83 => ?_)
          · skip
            refine ev_b bX4_isRight_90_91 (lv' := [(0, .ref 0), (1, .ref 7), (2, .int (nI (s)))]) (st' := [.int (nI (0))]) (w2 := scrW 0 C ++ saleW 7 S) rfl ?_
            exact ev_zret dX4_isRight_91 rfl rfl (Nat.le_of_ble_eq_true rfl) (Nat.le_refl _) (Nat.le_refl _) ⟨(congrArg (fun t => some (Value.int (nI t))) (b01_f (by unfold stOk; omega)).symm), rfl⟩
          · skip
            refine ev_b bX4_isRight_86_91 (lv' := [(0, .ref 0), (1, .ref 7), (2, .int (nI (s)))]) (st' := [.int (nI (1))]) (w2 := scrW 0 C ++ saleW 7 S) rfl ?_
            exact ev_zret dX4_isRight_91 rfl rfl (Nat.le_of_ble_eq_true rfl) (Nat.le_refl _) (Nat.le_refl _) ⟨(congrArg (fun t => some (Value.int (nI t))) (b01_t (by unfold stOk; omega)).symm), rfl⟩
  · skip
    refine ev_tableIn (off := 74) (tgt := 92) dX4_isRight_18 (by rw [zI_toInt (by omega) (by omega)]; omega) (by rw [zI_toInt (by omega) (by omega)]; omega) (by rw [h18]; rfl) (by decide) ?_
    refine ev_b bX4_isRight_92_98 (lv' := [(0, .ref 0), (1, .ref 7), (2, .int (nI (s)))]) (st' := [.int (nI (s)), .ref 4, .ref 7]) (w2 := scrW 0 C ++ saleW 7 S) rfl ?_
    refine ev_iald_z (f := C.f1) dX4_isRight_98 rfl (by omega) (by decide) ?_
    refine ev_callVN (Yc := mX3_hasBid) [7, 8, 9, 10, 11, 12, 13, 14] dX4_isRight_99 tn_394 kX3_hasBid (m_X3_hasBid_z S (C.f1 s) hS (by constructor <;> omega)) rfl (st := []) rfl rfl rfl (by decide) hw_Scr0_Sale7__7 (by decide) (Nat.le_of_ble_eq_true rfl) (Nat.le_refl _) (Nat.le_refl _) (fun r w' h => by obtain ⟨-, rfl⟩ := h; exact Nat.le_of_ble_eq_true rfl) ?_
    rintro _ _ ⟨rfl, rfl⟩
    refine ev_eq (lv' := [(0, .ref 0), (1, .ref 7), (2, .int (nI (s)))]) (st' := [.int (nI (b01 (0 ≤ C.f1 s ∧ C.f1 s < ((S.ca : Nat) : Int))))]) (w' := scrW 0 C ++ saleW 7 S) rfl rfl xp_Scr0_Sale7__7 ?_
    exact ev_zret dX4_isRight_102 rfl b01_nar (Nat.le_of_ble_eq_true rfl) (Nat.le_refl _) (Nat.le_refl _) ⟨(congrArg (fun t => some (Value.int (nI t))) (b01_c (by unfold stOk; omega))), rfl⟩
  · skip
    refine ev_tableIn (off := 85) (tgt := 103) dX4_isRight_18 (by rw [zI_toInt (by omega) (by omega)]; omega) (by rw [zI_toInt (by omega) (by omega)]; omega) (by rw [h18]; rfl) (by decide) ?_
    refine ev_b bX4_isRight_103_108 (lv' := [(0, .ref 0), (1, .ref 7), (2, .int (nI (s)))]) (st' := [.int (nI (s)), .ref 4]) (w2 := scrW 0 C ++ saleW 7 S) rfl ?_
    refine ev_iald_z (f := C.f1) dX4_isRight_108 rfl (by omega) (by decide) ?_
    refine ev_callSN (Yc := mX6_isBidder) [] dX4_isRight_109 tn_387 kX6_isBidder (m_X6_isBidder_z (C.f1 s) (by constructor <;> omega)) rfl (st := []) rfl (by decide) rfl (by decide) (Nat.le_of_ble_eq_true rfl) (Nat.le_refl _) (Nat.le_refl _) (fun r w' h => by obtain ⟨-, rfl⟩ := h; exact Nat.le_of_ble_eq_true rfl) ?_
    rintro _ _ ⟨rfl, rfl⟩
    refine ev_eq (lv' := [(0, .ref 0), (1, .ref 7), (2, .int (nI (s)))]) (st' := [.int (nI (b01 (0 ≤ C.f1 s ∧ C.f1 s < 5)))]) (w' := scrW 0 C ++ saleW 7 S) rfl rfl rfl ?_
    refine ev_ifeq_b (tgt := 141) dX4_isRight_112 (by decide) (fun h112 => ?_) (fun h112 => ?_)
    · skip
      refine ev_b bX4_isRight_141_142 (lv' := [(0, .ref 0), (1, .ref 7), (2, .int (nI (s)))]) (st' := [.int (nI (0))]) (w2 := scrW 0 C ++ saleW 7 S) rfl ?_
      exact ev_zret dX4_isRight_142 rfl rfl (Nat.le_of_ble_eq_true rfl) (Nat.le_refl _) (Nat.le_refl _) ⟨(congrArg (fun t => some (Value.int (nI t))) (b01_f (by unfold stOk; omega)).symm), rfl⟩
    · skip
      refine ev_b bX4_isRight_115_120 (lv' := [(0, .ref 0), (1, .ref 7), (2, .int (nI (s)))]) (st' := [.int (nI (s)), .ref 5]) (w2 := scrW 0 C ++ saleW 7 S) rfl ?_
      refine ev_iald_z (f := C.f2) dX4_isRight_120 rfl (by omega) (by decide) ?_
      refine ev_b bX4_isRight_121_123 (lv' := [(0, .ref 0), (1, .ref 7), (2, .int (nI (s)))]) (st' := [.int (nI (6)), .int (zI (C.f2 s))]) (w2 := scrW 0 C ++ saleW 7 S) rfl ?_
      refine ev_top (y := zI (((6 : Nat) : Int))) (zI_nat _).symm ?_
      refine ev_icmp_ge_z (tgt := 141) (by constructor <;> omega) (by constructor <;> omega) dX4_isRight_123 (by decide) (fun h123 => ?_) (fun h123 => ?_)
      · skip
        refine ev_b bX4_isRight_141_142 (lv' := [(0, .ref 0), (1, .ref 7), (2, .int (nI (s)))]) (st' := [.int (nI (0))]) (w2 := scrW 0 C ++ saleW 7 S) rfl ?_
        exact ev_zret dX4_isRight_142 rfl rfl (Nat.le_of_ble_eq_true rfl) (Nat.le_refl _) (Nat.le_refl _) ⟨(congrArg (fun t => some (Value.int (nI t))) (b01_f (by unfold stOk; omega)).symm), rfl⟩
      · skip
        refine ev_b bX4_isRight_126_131 (lv' := [(0, .ref 0), (1, .ref 7), (2, .int (nI (s)))]) (st' := [.int (nI (s)), .ref 6]) (w2 := scrW 0 C ++ saleW 7 S) rfl ?_
        refine ev_iald_z (f := C.f3) dX4_isRight_131 rfl (by omega) (by decide) ?_
        refine ev_b bX4_isRight_132_134 (lv' := [(0, .ref 0), (1, .ref 7), (2, .int (nI (s)))]) (st' := [.int (nI (9)), .int (zI (C.f3 s))]) (w2 := scrW 0 C ++ saleW 7 S) rfl ?_
        refine ev_top (y := zI (((9 : Nat) : Int))) (zI_nat _).symm ?_
        refine ev_icmp_gt_z (tgt := 141) (by constructor <;> omega) (by constructor <;> omega) dX4_isRight_134 (by decide) (fun h134 => ?_) (fun h134 => ?_)
        · skip
          refine ev_b bX4_isRight_141_142 (lv' := [(0, .ref 0), (1, .ref 7), (2, .int (nI (s)))]) (st' := [.int (nI (0))]) (w2 := scrW 0 C ++ saleW 7 S) rfl ?_
          exact ev_zret dX4_isRight_142 rfl rfl (Nat.le_of_ble_eq_true rfl) (Nat.le_refl _) (Nat.le_refl _) ⟨(congrArg (fun t => some (Value.int (nI t))) (b01_f (by unfold stOk; omega)).symm), rfl⟩
        · skip
          refine ev_b bX4_isRight_137_142 (lv' := [(0, .ref 0), (1, .ref 7), (2, .int (nI (s)))]) (st' := [.int (nI (1))]) (w2 := scrW 0 C ++ saleW 7 S) rfl ?_
          exact ev_zret dX4_isRight_142 rfl rfl (Nat.le_of_ble_eq_true rfl) (Nat.le_refl _) (Nat.le_refl _) ⟨(congrArg (fun t => some (Value.int (nI t))) (b01_t (by unfold stOk; omega)).symm), rfl⟩
  · skip
    refine ev_tableIn (off := 125) (tgt := 143) dX4_isRight_18 (by rw [zI_toInt (by omega) (by omega)]; omega) (by rw [zI_toInt (by omega) (by omega)]; omega) (by rw [h18]; rfl) (by decide) ?_
    refine ev_b bX4_isRight_143_148 (lv' := [(0, .ref 0), (1, .ref 7), (2, .int (nI (s)))]) (st' := [.int (nI (s)), .ref 4]) (w2 := scrW 0 C ++ saleW 7 S) rfl ?_
    refine ev_iald_z (f := C.f1) dX4_isRight_148 rfl (by omega) (by decide) ?_
    refine ev_callSN (Yc := mX6_isItem) [] dX4_isRight_149 tn_398 kX6_isItem (m_X6_isItem_z (C.f1 s) (by constructor <;> omega)) rfl (st := []) rfl (by decide) rfl (by decide) (Nat.le_of_ble_eq_true rfl) (Nat.le_refl _) (Nat.le_refl _) (fun r w' h => by obtain ⟨-, rfl⟩ := h; exact Nat.le_of_ble_eq_true rfl) ?_
    rintro _ _ ⟨rfl, rfl⟩
    refine ev_eq (lv' := [(0, .ref 0), (1, .ref 7), (2, .int (nI (s)))]) (st' := [.int (nI (b01 (0 ≤ C.f1 s ∧ C.f1 s < 6)))]) (w' := scrW 0 C ++ saleW 7 S) rfl rfl rfl ?_
    refine ev_ifeq_b (tgt := 170) dX4_isRight_152 (by decide) (fun h152 => ?_) (fun h152 => ?_)
    · skip
      refine ev_b bX4_isRight_170_171 (lv' := [(0, .ref 0), (1, .ref 7), (2, .int (nI (s)))]) (st' := [.int (nI (0))]) (w2 := scrW 0 C ++ saleW 7 S) rfl ?_
      exact ev_zret dX4_isRight_171 rfl rfl (Nat.le_of_ble_eq_true rfl) (Nat.le_refl _) (Nat.le_refl _) ⟨(congrArg (fun t => some (Value.int (nI t))) (b01_f (by unfold stOk; omega)).symm), rfl⟩
    · skip
      refine ev_b bX4_isRight_155_160 (lv' := [(0, .ref 0), (1, .ref 7), (2, .int (nI (s)))]) (st' := [.int (nI (s)), .ref 5]) (w2 := scrW 0 C ++ saleW 7 S) rfl ?_
      refine ev_iald_z (f := C.f2) dX4_isRight_160 rfl (by omega) (by decide) ?_
      refine ev_b bX4_isRight_161_163 (lv' := [(0, .ref 0), (1, .ref 7), (2, .int (nI (s)))]) (st' := [.int (nI (9)), .int (zI (C.f2 s))]) (w2 := scrW 0 C ++ saleW 7 S) rfl ?_
      refine ev_top (y := zI (((9 : Nat) : Int))) (zI_nat _).symm ?_
      refine ev_icmp_gt_z (tgt := 170) (by constructor <;> omega) (by constructor <;> omega) dX4_isRight_163 (by decide) (fun h163 => ?_) (fun h163 => ?_)
      · skip
        refine ev_b bX4_isRight_170_171 (lv' := [(0, .ref 0), (1, .ref 7), (2, .int (nI (s)))]) (st' := [.int (nI (0))]) (w2 := scrW 0 C ++ saleW 7 S) rfl ?_
        exact ev_zret dX4_isRight_171 rfl rfl (Nat.le_of_ble_eq_true rfl) (Nat.le_refl _) (Nat.le_refl _) ⟨(congrArg (fun t => some (Value.int (nI t))) (b01_f (by unfold stOk; omega)).symm), rfl⟩
      · skip
        refine ev_b bX4_isRight_166_171 (lv' := [(0, .ref 0), (1, .ref 7), (2, .int (nI (s)))]) (st' := [.int (nI (1))]) (w2 := scrW 0 C ++ saleW 7 S) rfl ?_
        exact ev_zret dX4_isRight_171 rfl rfl (Nat.le_of_ble_eq_true rfl) (Nat.le_refl _) (Nat.le_refl _) ⟨(congrArg (fun t => some (Value.int (nI t))) (b01_t (by unfold stOk; omega)).symm), rfl⟩
  · skip
    refine ev_tableOut (tgt := 172) dX4_isRight_18 (by rw [zI_toInt (by omega) (by omega)]; omega) (by decide) ?_
    refine ev_b bX4_isRight_172_178 (lv' := [(0, .ref 0), (1, .ref 7), (2, .int (nI (s)))]) (st' := [.int (nI (s)), .ref 4, .ref 7]) (w2 := scrW 0 C ++ saleW 7 S) rfl ?_
    refine ev_iald_z (f := C.f1) dX4_isRight_178 rfl (by omega) (by decide) ?_
    refine ev_callVN (Yc := mX3_hasBid) [7, 8, 9, 10, 11, 12, 13, 14] dX4_isRight_179 tn_394 kX3_hasBid (m_X3_hasBid_z S (C.f1 s) hS (by constructor <;> omega)) rfl (st := []) rfl rfl rfl (by decide) hw_Scr0_Sale7__7 (by decide) (Nat.le_of_ble_eq_true rfl) (Nat.le_refl _) (Nat.le_refl _) (fun r w' h => by obtain ⟨-, rfl⟩ := h; exact Nat.le_of_ble_eq_true rfl) ?_
    rintro _ _ ⟨rfl, rfl⟩
    refine ev_eq (lv' := [(0, .ref 0), (1, .ref 7), (2, .int (nI (s)))]) (st' := [.int (nI (b01 (0 ≤ C.f1 s ∧ C.f1 s < ((S.ca : Nat) : Int))))]) (w' := scrW 0 C ++ saleW 7 S) rfl rfl xp_Scr0_Sale7__7 ?_
    refine ev_ifeq_b (tgt := 198) dX4_isRight_182 (by decide) (fun h182 => ?_) (fun h182 => ?_)
    · skip
      refine ev_b bX4_isRight_198_199 (lv' := [(0, .ref 0), (1, .ref 7), (2, .int (nI (s)))]) (st' := [.int (nI (0))]) (w2 := scrW 0 C ++ saleW 7 S) rfl ?_
      exact ev_zret dX4_isRight_199 rfl rfl (Nat.le_of_ble_eq_true rfl) (Nat.le_refl _) (Nat.le_refl _) ⟨(congrArg (fun t => some (Value.int (nI t))) (b01_f (by unfold stOk; omega)).symm), rfl⟩
    · skip
      refine ev_b bX4_isRight_185_190 (lv' := [(0, .ref 0), (1, .ref 7), (2, .int (nI (s)))]) (st' := [.int (nI (s)), .ref 5]) (w2 := scrW 0 C ++ saleW 7 S) rfl ?_
      refine ev_iald_z (f := C.f2) dX4_isRight_190 rfl (by omega) (by decide) ?_
      refine ev_if_le_z (tgt := 198) (by constructor <;> omega) dX4_isRight_191 (by decide) (fun h191 => ?_) (fun h191 => ?_)
      · skip
        refine ev_b bX4_isRight_198_199 (lv' := [(0, .ref 0), (1, .ref 7), (2, .int (nI (s)))]) (st' := [.int (nI (0))]) (w2 := scrW 0 C ++ saleW 7 S) rfl ?_
        exact ev_zret dX4_isRight_199 rfl rfl (Nat.le_of_ble_eq_true rfl) (Nat.le_refl _) (Nat.le_refl _) ⟨(congrArg (fun t => some (Value.int (nI t))) (b01_f (by unfold stOk; omega)).symm), rfl⟩
      · skip
        refine ev_b bX4_isRight_194_199 (lv' := [(0, .ref 0), (1, .ref 7), (2, .int (nI (s)))]) (st' := [.int (nI (1))]) (w2 := scrW 0 C ++ saleW 7 S) rfl ?_
        exact ev_zret dX4_isRight_199 rfl rfl (Nat.le_of_ble_eq_true rfl) (Nat.le_refl _) (Nat.le_refl _) ⟨(congrArg (fun t => some (Value.int (nI t))) (b01_t (by unfold stOk; omega)).symm), rfl⟩
theorem bX4_carryOut_0_1 {l : Launch} {E : XE} : Snd l E mX4_carryOut 0 1 (xs [x_iload 1]) := Snd.cons (snd_iload_n (i := 1) dX4_carryOut_0 rfl) Snd.nil
theorem bX4_carryOut_32_37 {l : Launch} {E : XE} : Snd l E mX4_carryOut 32 37 (xs [x_aload 0, x_iload 2, x_iload 3, x_iload 4]) := Snd.cons (snd_aload_n (i := 0) dX4_carryOut_32 rfl) (Snd.cons (snd_iload_n (i := 2) dX4_carryOut_33 rfl) (Snd.cons (snd_iload_n (i := 3) dX4_carryOut_34 rfl) (Snd.cons (snd_iload dX4_carryOut_35) Snd.nil)))
theorem bX4_carryOut_40_77 {l : Launch} {E : XE} : Snd l E mX4_carryOut 40 77 (xs [x_id]) := Snd.cons (snd_goto (tgt := 77) dX4_carryOut_40 (by decide)) Snd.nil
set_option maxHeartbeats 4000000 in
set_option maxRecDepth 100000 in
theorem m_X4_carryOut_0 {l : Launch} {E : XE} (S : SaleN) (a b c : Nat) (hS : SaleOK S) (hc : S.ca < 10) (ha : a < 5) : MetE l E mX4_carryOut (2) 0 0 [.ref 0, .int (nI (0)), .int (nI (a)), .int (nI (b)), .int (nI (c))] (saleW 0 S) (fun r w' => r = none ∧ w' = saleW 0 ((addS S a b c))) := by
  refine MetE.of (by decide +kernel) (Nat.le_of_ble_eq_true rfl) ?_
  refine ev_eq (lv' := [(0, .ref 0), (1, .int (nI (0))), (2, .int (nI (a))), (3, .int (nI (b))), (4, .int (nI (c)))]) (st' := []) (w' := saleW 0 S) rfl rfl rfl ?_
  refine ev_b bX4_carryOut_0_1 (lv' := [(0, .ref 0), (1, .int (nI (0))), (2, .int (nI (a))), (3, .int (nI (b))), (4, .int (nI (c)))]) (st' := [.int (nI (0))]) (w2 := saleW 0 S) rfl ?_
  refine ev_tableIn (off := 31) (tgt := 32) dX4_carryOut_1 (by decide) (by decide) (by decide) (by decide) ?_
  refine ev_b bX4_carryOut_32_37 (lv' := [(0, .ref 0), (1, .int (nI (0))), (2, .int (nI (a))), (3, .int (nI (b))), (4, .int (nI (c)))]) (st' := [.int (nI (c)), .int (nI (b)), .int (nI (a)), .ref 0]) (w2 := saleW 0 S) rfl ?_
  refine ev_callVN (Yc := mX3_addBid) [0, 1, 2, 3, 4, 5, 6, 7] dX4_carryOut_37 tn_404 kX3_addBid (m_X3_addBid S a b c hS hc ha) rfl (st := []) rfl rfl rfl (by decide) rfl (by decide) (Nat.le_of_ble_eq_true rfl) (Nat.le_refl _) (Nat.le_refl _) (fun r w' h => by obtain ⟨-, rfl⟩ := h; exact Nat.le_of_ble_eq_true rfl) ?_
  rintro _ _ ⟨rfl, rfl⟩
  refine ev_eq (lv' := [(0, .ref 0), (1, .int (nI (0))), (2, .int (nI (a))), (3, .int (nI (b))), (4, .int (nI (c)))]) (st' := []) (w' := saleW 0 ((addS S a b c))) rfl rfl rfl ?_
  refine ev_b bX4_carryOut_40_77 (lv' := [(0, .ref 0), (1, .int (nI (0))), (2, .int (nI (a))), (3, .int (nI (b))), (4, .int (nI (c)))]) (st' := []) (w2 := saleW 0 ((addS S a b c))) rfl ?_
  exact ev_vret dX4_carryOut_77 rfl (Nat.le_of_ble_eq_true rfl) (Nat.le_refl _) (Nat.le_refl _) ⟨rfl, rfl⟩
theorem bX4_carryOut_43_45 {l : Launch} {E : XE} : Snd l E mX4_carryOut 43 45 (xs [x_aload 0, x_iload 2]) := Snd.cons (snd_aload_n (i := 0) dX4_carryOut_43 rfl) (Snd.cons (snd_iload_n (i := 2) dX4_carryOut_44 rfl) Snd.nil)
theorem bX4_carryOut_48_77 {l : Launch} {E : XE} : Snd l E mX4_carryOut 48 77 (xs [x_id]) := Snd.cons (snd_goto (tgt := 77) dX4_carryOut_48 (by decide)) Snd.nil
set_option maxHeartbeats 4000000 in
set_option maxRecDepth 100000 in
theorem m_X4_carryOut_1 {l : Launch} {E : XE} (S : SaleN) (a b c : Nat) (hS : SaleOK S) (ha : a < S.ca) : MetE l E mX4_carryOut (2) 0 0 [.ref 0, .int (nI (1)), .int (nI (a)), .int (nI (b)), .int (nI (c))] (saleW 0 S) (fun r w' => r = none ∧ w' = saleW 0 ((turnS S a))) := by
  refine MetE.of (by decide +kernel) (Nat.le_of_ble_eq_true rfl) ?_
  refine ev_eq (lv' := [(0, .ref 0), (1, .int (nI (1))), (2, .int (nI (a))), (3, .int (nI (b))), (4, .int (nI (c)))]) (st' := []) (w' := saleW 0 S) rfl rfl rfl ?_
  refine ev_b bX4_carryOut_0_1 (lv' := [(0, .ref 0), (1, .int (nI (1))), (2, .int (nI (a))), (3, .int (nI (b))), (4, .int (nI (c)))]) (st' := [.int (nI (1))]) (w2 := saleW 0 S) rfl ?_
  refine ev_tableIn (off := 42) (tgt := 43) dX4_carryOut_1 (by decide) (by decide) (by decide) (by decide) ?_
  refine ev_b bX4_carryOut_43_45 (lv' := [(0, .ref 0), (1, .int (nI (1))), (2, .int (nI (a))), (3, .int (nI (b))), (4, .int (nI (c)))]) (st' := [.int (nI (a)), .ref 0]) (w2 := saleW 0 S) rfl ?_
  refine ev_callVN (Yc := mX3_turnOver) [0, 1, 2, 3, 4, 5, 6, 7] dX4_carryOut_45 tn_410 kX3_turnOver (m_X3_turnOver S a hS ha) rfl (st := []) rfl rfl rfl (by decide) rfl (by decide) (Nat.le_of_ble_eq_true rfl) (Nat.le_refl _) (Nat.le_refl _) (fun r w' h => by obtain ⟨-, rfl⟩ := h; exact Nat.le_of_ble_eq_true rfl) ?_
  rintro _ _ ⟨rfl, rfl⟩
  refine ev_eq (lv' := [(0, .ref 0), (1, .int (nI (1))), (2, .int (nI (a))), (3, .int (nI (b))), (4, .int (nI (c)))]) (st' := []) (w' := saleW 0 ((turnS S a))) rfl rfl rfl ?_
  refine ev_b bX4_carryOut_48_77 (lv' := [(0, .ref 0), (1, .int (nI (1))), (2, .int (nI (a))), (3, .int (nI (b))), (4, .int (nI (c)))]) (st' := []) (w2 := saleW 0 ((turnS S a))) rfl ?_
  exact ev_vret dX4_carryOut_77 rfl (Nat.le_of_ble_eq_true rfl) (Nat.le_refl _) (Nat.le_refl _) ⟨rfl, rfl⟩
theorem bX4_carryOut_51_56 {l : Launch} {E : XE} : Snd l E mX4_carryOut 51 56 (xs [x_aload 0, x_iload 2, x_iload 3, x_iload 4]) := Snd.cons (snd_aload_n (i := 0) dX4_carryOut_51 rfl) (Snd.cons (snd_iload_n (i := 2) dX4_carryOut_52 rfl) (Snd.cons (snd_iload_n (i := 3) dX4_carryOut_53 rfl) (Snd.cons (snd_iload dX4_carryOut_54) Snd.nil)))
theorem bX4_carryOut_59_77 {l : Launch} {E : XE} : Snd l E mX4_carryOut 59 77 (xs [x_id]) := Snd.cons (snd_goto (tgt := 77) dX4_carryOut_59 (by decide)) Snd.nil
set_option maxHeartbeats 4000000 in
set_option maxRecDepth 100000 in
theorem m_X4_carryOut_2 {l : Launch} {E : XE} (S : SaleN) (a b c : Nat) (hS : SaleOK S) (ha : a < 5) : MetE l E mX4_carryOut (2) 0 0 [.ref 0, .int (nI (2)), .int (nI (a)), .int (nI (b)), .int (nI (c))] (saleW 0 S) (fun r w' => r = none ∧ w' = saleW 0 ((kindS S a b c))) := by
  refine MetE.of (by decide +kernel) (Nat.le_of_ble_eq_true rfl) ?_
  refine ev_eq (lv' := [(0, .ref 0), (1, .int (nI (2))), (2, .int (nI (a))), (3, .int (nI (b))), (4, .int (nI (c)))]) (st' := []) (w' := saleW 0 S) rfl rfl rfl ?_
  refine ev_b bX4_carryOut_0_1 (lv' := [(0, .ref 0), (1, .int (nI (2))), (2, .int (nI (a))), (3, .int (nI (b))), (4, .int (nI (c)))]) (st' := [.int (nI (2))]) (w2 := saleW 0 S) rfl ?_
  refine ev_tableIn (off := 50) (tgt := 51) dX4_carryOut_1 (by decide) (by decide) (by decide) (by decide) ?_
  refine ev_b bX4_carryOut_51_56 (lv' := [(0, .ref 0), (1, .int (nI (2))), (2, .int (nI (a))), (3, .int (nI (b))), (4, .int (nI (c)))]) (st' := [.int (nI (c)), .int (nI (b)), .int (nI (a)), .ref 0]) (w2 := saleW 0 S) rfl ?_
  refine ev_callVN (Yc := mX3_setKind) [0, 1, 2, 3, 4, 5, 6, 7] dX4_carryOut_56 tn_415 kX3_setKind (m_X3_setKind S a b c ha) rfl (st := []) rfl rfl rfl (by decide) rfl (by decide) (Nat.le_of_ble_eq_true rfl) (Nat.le_refl _) (Nat.le_refl _) (fun r w' h => by obtain ⟨-, rfl⟩ := h; exact Nat.le_of_ble_eq_true rfl) ?_
  rintro _ _ ⟨rfl, rfl⟩
  refine ev_eq (lv' := [(0, .ref 0), (1, .int (nI (2))), (2, .int (nI (a))), (3, .int (nI (b))), (4, .int (nI (c)))]) (st' := []) (w' := saleW 0 ((kindS S a b c))) rfl rfl rfl ?_
  refine ev_b bX4_carryOut_59_77 (lv' := [(0, .ref 0), (1, .int (nI (2))), (2, .int (nI (a))), (3, .int (nI (b))), (4, .int (nI (c)))]) (st' := []) (w2 := saleW 0 ((kindS S a b c))) rfl ?_
  exact ev_vret dX4_carryOut_77 rfl (Nat.le_of_ble_eq_true rfl) (Nat.le_refl _) (Nat.le_refl _) ⟨rfl, rfl⟩
theorem bX4_carryOut_62_65 {l : Launch} {E : XE} : Snd l E mX4_carryOut 62 65 (xs [x_aload 0, x_iload 2, x_iload 3]) := Snd.cons (snd_aload_n (i := 0) dX4_carryOut_62 rfl) (Snd.cons (snd_iload_n (i := 2) dX4_carryOut_63 rfl) (Snd.cons (snd_iload_n (i := 3) dX4_carryOut_64 rfl) Snd.nil))
theorem bX4_carryOut_68_77 {l : Launch} {E : XE} : Snd l E mX4_carryOut 68 77 (xs [x_id]) := Snd.cons (snd_goto (tgt := 77) dX4_carryOut_68 (by decide)) Snd.nil
set_option maxHeartbeats 4000000 in
set_option maxRecDepth 100000 in
theorem m_X4_carryOut_3 {l : Launch} {E : XE} (S : SaleN) (a b c : Nat) (hS : SaleOK S) (ha : a < 6) : MetE l E mX4_carryOut (2) 0 0 [.ref 0, .int (nI (3)), .int (nI (a)), .int (nI (b)), .int (nI (c))] (saleW 0 S) (fun r w' => r = none ∧ w' = saleW 0 ((keepS S a b))) := by
  refine MetE.of (by decide +kernel) (Nat.le_of_ble_eq_true rfl) ?_
  refine ev_eq (lv' := [(0, .ref 0), (1, .int (nI (3))), (2, .int (nI (a))), (3, .int (nI (b))), (4, .int (nI (c)))]) (st' := []) (w' := saleW 0 S) rfl rfl rfl ?_
  refine ev_b bX4_carryOut_0_1 (lv' := [(0, .ref 0), (1, .int (nI (3))), (2, .int (nI (a))), (3, .int (nI (b))), (4, .int (nI (c)))]) (st' := [.int (nI (3))]) (w2 := saleW 0 S) rfl ?_
  refine ev_tableIn (off := 61) (tgt := 62) dX4_carryOut_1 (by decide) (by decide) (by decide) (by decide) ?_
  refine ev_b bX4_carryOut_62_65 (lv' := [(0, .ref 0), (1, .int (nI (3))), (2, .int (nI (a))), (3, .int (nI (b))), (4, .int (nI (c)))]) (st' := [.int (nI (b)), .int (nI (a)), .ref 0]) (w2 := saleW 0 S) rfl ?_
  refine ev_callVN (Yc := mX3_setReserve) [0, 1, 2, 3, 4, 5, 6, 7] dX4_carryOut_65 tn_419 kX3_setReserve (m_X3_setReserve S a b ha) rfl (st := []) rfl rfl rfl (by decide) rfl (by decide) (Nat.le_of_ble_eq_true rfl) (Nat.le_refl _) (Nat.le_refl _) (fun r w' h => by obtain ⟨-, rfl⟩ := h; exact Nat.le_of_ble_eq_true rfl) ?_
  rintro _ _ ⟨rfl, rfl⟩
  refine ev_eq (lv' := [(0, .ref 0), (1, .int (nI (3))), (2, .int (nI (a))), (3, .int (nI (b))), (4, .int (nI (c)))]) (st' := []) (w' := saleW 0 ((keepS S a b))) rfl rfl rfl ?_
  refine ev_b bX4_carryOut_68_77 (lv' := [(0, .ref 0), (1, .int (nI (3))), (2, .int (nI (a))), (3, .int (nI (b))), (4, .int (nI (c)))]) (st' := []) (w2 := saleW 0 ((keepS S a b))) rfl ?_
  exact ev_vret dX4_carryOut_77 rfl (Nat.le_of_ble_eq_true rfl) (Nat.le_refl _) (Nat.le_refl _) ⟨rfl, rfl⟩
theorem bX4_carryOut_71_74 {l : Launch} {E : XE} : Snd l E mX4_carryOut 71 74 (xs [x_aload 0, x_iload 2, x_iload 3]) := Snd.cons (snd_aload_n (i := 0) dX4_carryOut_71 rfl) (Snd.cons (snd_iload_n (i := 2) dX4_carryOut_72 rfl) (Snd.cons (snd_iload_n (i := 3) dX4_carryOut_73 rfl) Snd.nil))
set_option maxHeartbeats 4000000 in
set_option maxRecDepth 100000 in
theorem m_X4_carryOut_4 {l : Launch} {E : XE} (S : SaleN) (a b c : Nat) (hS : SaleOK S) (ha : a < S.ca) : MetE l E mX4_carryOut (2) 0 0 [.ref 0, .int (nI (4)), .int (nI (a)), .int (nI (b)), .int (nI (c))] (saleW 0 S) (fun r w' => r = none ∧ w' = saleW 0 ((priceS S a b))) := by
  refine MetE.of (by decide +kernel) (Nat.le_of_ble_eq_true rfl) ?_
  refine ev_eq (lv' := [(0, .ref 0), (1, .int (nI (4))), (2, .int (nI (a))), (3, .int (nI (b))), (4, .int (nI (c)))]) (st' := []) (w' := saleW 0 S) rfl rfl rfl ?_
  refine ev_b bX4_carryOut_0_1 (lv' := [(0, .ref 0), (1, .int (nI (4))), (2, .int (nI (a))), (3, .int (nI (b))), (4, .int (nI (c)))]) (st' := [.int (nI (4))]) (w2 := saleW 0 S) rfl ?_
  refine ev_tableOut (tgt := 71) dX4_carryOut_1 (by decide) (by decide) ?_
  refine ev_b bX4_carryOut_71_74 (lv' := [(0, .ref 0), (1, .int (nI (4))), (2, .int (nI (a))), (3, .int (nI (b))), (4, .int (nI (c)))]) (st' := [.int (nI (b)), .int (nI (a)), .ref 0]) (w2 := saleW 0 S) rfl ?_
  refine ev_callVN (Yc := mX3_setPrice) [0, 1, 2, 3, 4, 5, 6, 7] dX4_carryOut_74 tn_424 kX3_setPrice (m_X3_setPrice S a b hS ha) rfl (st := []) rfl rfl rfl (by decide) rfl (by decide) (Nat.le_of_ble_eq_true rfl) (Nat.le_refl _) (Nat.le_refl _) (fun r w' h => by obtain ⟨-, rfl⟩ := h; exact Nat.le_of_ble_eq_true rfl) ?_
  rintro _ _ ⟨rfl, rfl⟩
  refine ev_eq (lv' := [(0, .ref 0), (1, .int (nI (4))), (2, .int (nI (a))), (3, .int (nI (b))), (4, .int (nI (c)))]) (st' := []) (w' := saleW 0 ((priceS S a b))) rfl rfl rfl ?_
  exact ev_vret dX4_carryOut_77 rfl (Nat.le_of_ble_eq_true rfl) (Nat.le_refl _) (Nat.le_refl _) ⟨rfl, rfl⟩
theorem m_X4_carryOut_z {l : Launch} {E : XE} (S : SaleN) (w a b c : Int) (hS : SaleOK S) (h1 : OneOK w a b c) (h : stOk S w a b c) : MetE l E mX4_carryOut 2 0 0 [.ref 0, .int (zI w), .int (zI a), .int (zI b), .int (zI c)] (saleW 0 S) (fun r w' => r = none ∧ w' = saleW 0 (stDo S w a b c)) := by
  obtain ⟨hw, ha, hb, hc, hb0, hb1⟩ := h1
  have hbb : 0 ≤ b := by
    rcases h with h | h | h | h | h
    · obtain ⟨rfl, h2, h3, h4, h5⟩ := h
      have := hb0 rfl
      omega
    all_goals exact hb1 (by omega)
  obtain ⟨a', rfl⟩ : ∃ n : Nat, a = ((n : Nat) : Int) := ⟨a.toNat, by omega⟩
  obtain ⟨b', rfl⟩ : ∃ n : Nat, b = ((n : Nat) : Int) := ⟨b.toNat, by omega⟩
  obtain ⟨c', rfl⟩ : ∃ n : Nat, c = ((n : Nat) : Int) := ⟨c.toNat, by omega⟩
  rw [zI_nat, zI_nat, zI_nat]
  rcases h with h | h | h | h | h
  · obtain ⟨rfl, h2, h3, h4, h5⟩ := h
    rw [show zI 0 = nI 0 from by decide, show stDo S 0 ((a' : Nat) : Int) ((b' : Nat) : Int) ((c' : Nat) : Int) = addS S a' b' c' from by unfold stDo; rw [if_pos rfl]; rfl]
    exact m_X4_carryOut_0 S a' b' c' hS h5 (by omega)
  · obtain ⟨rfl, h2, h3⟩ := h
    rw [show zI 1 = nI 1 from by decide, show stDo S 1 ((a' : Nat) : Int) ((b' : Nat) : Int) ((c' : Nat) : Int) = turnS S a' from by unfold stDo; rw [if_neg (by omega), if_pos rfl]; rfl]
    exact m_X4_carryOut_1 S a' b' c' hS (by omega)
  · obtain ⟨rfl, h2, h3, h4⟩ := h
    rw [show zI 2 = nI 2 from by decide, show stDo S 2 ((a' : Nat) : Int) ((b' : Nat) : Int) ((c' : Nat) : Int) = kindS S a' b' c' from by unfold stDo; rw [if_neg (by omega), if_neg (by omega), if_pos rfl]; rfl]
    exact m_X4_carryOut_2 S a' b' c' hS (by omega)
  · obtain ⟨rfl, h2, h3⟩ := h
    rw [show zI 3 = nI 3 from by decide, show stDo S 3 ((a' : Nat) : Int) ((b' : Nat) : Int) ((c' : Nat) : Int) = keepS S a' b' from by unfold stDo; rw [if_neg (by omega), if_neg (by omega), if_neg (by omega), if_pos rfl]; rfl]
    exact m_X4_carryOut_3 S a' b' c' hS (by omega)
  · obtain ⟨rfl, h2, h3⟩ := h
    rw [show zI 4 = nI 4 from by decide, show stDo S 4 ((a' : Nat) : Int) ((b' : Nat) : Int) ((c' : Nat) : Int) = priceS S a' b' from by unfold stDo; rw [if_neg (by omega), if_neg (by omega), if_neg (by omega), if_neg (by omega)]; rfl]
    exact m_X4_carryOut_4 S a' b' c' hS (by omega)
def obS (C : ScrN) (S : SaleN) : SaleN := if (oGo C C.sn 0 S).1 = -9 then (oGo C C.sn 0 S).2 else S
def obZ (C : ScrN) (S : SaleN) : Int := if (oGo C C.sn 0 S).1 = -9 then ((C.sn : Nat) : Int) else -2000 - (oGo C C.sn 0 S).1
theorem bX4_obey_0_2 {l : Launch} {E : XE} : Snd l E mX4_obey 0 2 (xs [x_push (.int (nI 0)), x_istore 2]) := Snd.cons (snd_iconst (v := nI 0) dX4_obey_0 (by decide)) (Snd.cons (snd_istore_n (i := 2) dX4_obey_1 rfl (by decide)) Snd.nil)
theorem bX4_obey_2_7 {l : Launch} {E : XE} : Snd l E mX4_obey 2 7 (xs [x_iload 2, x_aload 0, x_get 5 9]) := Snd.cons (snd_iload_n (i := 2) dX4_obey_2 rfl) (Snd.cons (snd_aload_n (i := 0) dX4_obey_3 rfl) (Snd.cons (snd_get (ci := 5) (k := 9) dX4_obey_4 rfl inX4 (by decide) tw_170) Snd.nil))
theorem bX4_obey_66_68 {l : Launch} {E : XE} : Snd l E mX4_obey 66 68 (xs [x_push (.int (-9))]) := Snd.cons (snd_bipush (v := -9) dX4_obey_66 (by decide)) Snd.nil
theorem bX4_obey_10_13 {l : Launch} {E : XE} : Snd l E mX4_obey 10 13 (xs [x_iload 2, x_push (.int (nI 16))]) := Snd.cons (snd_iload_n (i := 2) dX4_obey_10 rfl) (Snd.cons (snd_bipush (v := nI 16) dX4_obey_11 (by decide)) Snd.nil)
theorem bX4_obey_16_19 {l : Launch} {E : XE} : Snd l E mX4_obey 16 19 (xs [x_aload 0, x_aload 1, x_iload 2]) := Snd.cons (snd_aload_n (i := 0) dX4_obey_16 rfl) (Snd.cons (snd_aload_n (i := 1) dX4_obey_17 rfl) (Snd.cons (snd_iload_n (i := 2) dX4_obey_18 rfl) Snd.nil))
theorem bX4_obey_32_38 {l : Launch} {E : XE} : Snd l E mX4_obey 32 38 (xs [x_aload 1, x_aload 0, x_get 5 2, x_iload 2]) := Snd.cons (snd_aload_n (i := 1) dX4_obey_32 rfl) (Snd.cons (snd_aload_n (i := 0) dX4_obey_33 rfl) (Snd.cons (snd_get (ci := 5) (k := 2) dX4_obey_34 rfl inX4 (by decide) tw_162) (Snd.cons (snd_iload_n (i := 2) dX4_obey_37 rfl) Snd.nil)))
theorem bX4_obey_39_44 {l : Launch} {E : XE} : Snd l E mX4_obey 39 44 (xs [x_aload 0, x_get 5 3, x_iload 2]) := Snd.cons (snd_aload_n (i := 0) dX4_obey_39 rfl) (Snd.cons (snd_get (ci := 5) (k := 3) dX4_obey_40 rfl inX4 (by decide) tw_163) (Snd.cons (snd_iload_n (i := 2) dX4_obey_43 rfl) Snd.nil))
theorem bX4_obey_45_50 {l : Launch} {E : XE} : Snd l E mX4_obey 45 50 (xs [x_aload 0, x_get 5 4, x_iload 2]) := Snd.cons (snd_aload_n (i := 0) dX4_obey_45 rfl) (Snd.cons (snd_get (ci := 5) (k := 4) dX4_obey_46 rfl inX4 (by decide) tw_164) (Snd.cons (snd_iload_n (i := 2) dX4_obey_49 rfl) Snd.nil))
theorem bX4_obey_51_56 {l : Launch} {E : XE} : Snd l E mX4_obey 51 56 (xs [x_aload 0, x_get 5 5, x_iload 2]) := Snd.cons (snd_aload_n (i := 0) dX4_obey_51 rfl) (Snd.cons (snd_get (ci := 5) (k := 5) dX4_obey_52 rfl inX4 (by decide) tw_165) (Snd.cons (snd_iload_n (i := 2) dX4_obey_55 rfl) Snd.nil))
theorem bX4_obey_63_2 {l : Launch} {E : XE} : Snd l E mX4_obey 63 2 (xs [x_id]) := Snd.cons (snd_goto (tgt := 2) dX4_obey_63 (by decide)) Snd.nil
theorem bX4_obey_25_30 {l : Launch} {E : XE} : Snd l E mX4_obey 25 30 (xs [x_aload 0, x_get 5 1, x_iload 2]) := Snd.cons (snd_aload_n (i := 0) dX4_obey_25 rfl) (Snd.cons (snd_get (ci := 5) (k := 1) dX4_obey_26 rfl inX4 (by decide) tw_161) (Snd.cons (snd_iload_n (i := 2) dX4_obey_29 rfl) Snd.nil))
set_option maxHeartbeats 4000000 in
set_option maxRecDepth 100000 in
theorem m_X4_obey {l : Launch} {E : XE} (C : ScrN) (S : SaleN) (hst : StOK C) (hS : SaleOK S) : MetE l E mX4_obey (3) 0 0 [.ref 0, .ref 7] (scrW 0 C ++ saleW 7 S) (fun r w' => r = some (.int (zI ((oGo C C.sn 0 S).1))) ∧ w' = scrW 0 C ++ saleW 7 ((oGo C C.sn 0 S).2)) := by
  refine MetE.of (by decide +kernel) (Nat.le_of_ble_eq_true rfl) ?_
  have hsn := hst.1
  refine ev_eq (lv' := [(0, .ref 0), (1, .ref 7)]) (st' := []) (w' := scrW 0 C ++ saleW 7 S) rfl rfl rfl ?_
  refine ev_b bX4_obey_0_2 (lv' := [(2, .int (nI (0))), (0, .ref 0), (1, .ref 7)]) (st' := []) (w2 := scrW 0 C ++ saleW 7 S) rfl ?_
  have L2 : ∀ (j_ k : Nat), k + j_ = C.sn → ∀ (U : SaleN), (SaleOK U ∧ oGo C (C.sn - k) k U = oGo C C.sn 0 S) → Ev l E mX4_obey (3) 0 0 (scrW 0 C ++ saleW 7 S) (fun r w' => r = some (.int (zI ((oGo C C.sn 0 S).1))) ∧ w' = scrW 0 C ++ saleW 7 ((oGo C C.sn 0 S).2)) 0 0 2 [(2, .int (nI (k))), (0, .ref 0), (1, .ref 7)] [] (scrW 0 C ++ saleW 7 U) := by
    intro j_
    induction j_ with
    | zero =>
      intro k hk2 U hinv2
      replace hk2 : k = C.sn := hk2
      subst hk2
      have hU := hinv2.1
      refine ev_b bX4_obey_2_7 (lv' := [(2, .int (nI (C.sn))), (0, .ref 0), (1, .ref 7)]) (st' := [.int (nI (C.sn)), .int (nI (C.sn))]) (w2 := scrW 0 C ++ saleW 7 U) rfl ?_
      refine ev_icmp_ge_n (tgt := 66) (by omega) (by omega) dX4_obey_7 (by decide) (fun h7 => ?_) (fun h7 => (by exfalso; omega))
      have hE : oGo C C.sn 0 S = (-9, U) := by rw [← hinv2.2, Nat.sub_self]; rfl
      refine ev_b bX4_obey_66_68 (lv' := [(2, .int (nI (C.sn))), (0, .ref 0), (1, .ref 7)]) (st' := [.int (-9)]) (w2 := scrW 0 C ++ saleW 7 U) rfl ?_
      exact ev_iret dX4_obey_68 rfl (Nat.le_of_ble_eq_true rfl) (Nat.le_refl _) (Nat.le_refl _) ⟨(by rw [hE]; exact congrArg (fun v => some (Value.int v)) (show (-9 : Int32) = zI (-9) from by decide)), (by rw [hE])⟩
    | succ j_ ih2 =>
      intro k hk2 U hinv2
      have hlt2 : k < C.sn := by omega
      have hU := hinv2.1
      refine ev_b bX4_obey_2_7 (lv' := [(2, .int (nI (k))), (0, .ref 0), (1, .ref 7)]) (st' := [.int (nI (C.sn)), .int (nI (k))]) (w2 := scrW 0 C ++ saleW 7 U) rfl ?_
      refine ev_icmp_ge_n (tgt := 66) (by omega) (by omega) dX4_obey_7 (by decide) (fun h7 => (by exfalso; omega)) (fun h7 => ?_)
      refine ev_b bX4_obey_10_13 (lv' := [(2, .int (nI (k))), (0, .ref 0), (1, .ref 7)]) (st' := [.int (nI (16)), .int (nI (k))]) (w2 := scrW 0 C ++ saleW 7 U) rfl ?_
      refine ev_icmp_ge_n (tgt := 66) (by omega) (by decide) dX4_obey_13 (by decide) (fun h13 => (by exfalso; omega)) (fun h13 => ?_)
      refine ev_b bX4_obey_16_19 (lv' := [(2, .int (nI (k))), (0, .ref 0), (1, .ref 7)]) (st' := [.int (nI (k)), .ref 7, .ref 0]) (w2 := scrW 0 C ++ saleW 7 U) rfl ?_
      refine ev_callV (Yc := mX4_isRight) (rng 0 15) dX4_obey_19 tw_383 kX4_isRight (m_X4_isRight C U k hst hlt2 hU) rfl (st := []) rfl rfl rfl (by decide) (same_hw (scrW 0 C ++ saleW 7 U)) (by decide) (Nat.le_of_ble_eq_true rfl) (Nat.le_refl _) (Nat.le_refl _) (fun r w' h => by obtain ⟨-, rfl⟩ := h; exact Nat.le_of_ble_eq_true rfl) ?_
      rintro _ _ ⟨rfl, rfl⟩
      refine ev_eq (lv' := [(2, .int (nI (k))), (0, .ref 0), (1, .ref 7)]) (st' := [.int (nI (b01 (stOk U (C.wd k) (C.f1 k) (C.f2 k) (C.f3 k))))]) (w' := scrW 0 C ++ saleW 7 U) rfl rfl (same_xp (scrW 0 C ++ saleW 7 U) (scrW 0 C ++ saleW 7 U) rfl) ?_
      refine ev_ifne_b (tgt := 32) dX4_obey_22 (by decide) (fun h22 => ?_) (fun h22 => ?_)
      · skip
        have hnext : SaleOK (stDo U (C.wd k) (C.f1 k) (C.f2 k) (C.f3 k)) ∧ oGo C (C.sn - (k + 1)) (k + 1) (stDo U (C.wd k) (C.f1 k) (C.f2 k) (C.f3 k)) = oGo C C.sn 0 S := ⟨do_ok hU (st_one hst hlt2) h22, by rw [← hinv2.2, show C.sn - k = (C.sn - (k + 1)) + 1 by omega, oGo_s, if_pos h22]⟩
        refine ev_b bX4_obey_32_38 (lv' := [(2, .int (nI (k))), (0, .ref 0), (1, .ref 7)]) (st' := [.int (nI (k)), .ref 3, .ref 7]) (w2 := scrW 0 C ++ saleW 7 U) rfl ?_
        refine ev_iald_z (f := C.wd) dX4_obey_38 rfl (by omega) (by decide) ?_
        refine ev_b bX4_obey_39_44 (lv' := [(2, .int (nI (k))), (0, .ref 0), (1, .ref 7)]) (st' := [.int (nI (k)), .ref 4, .int (zI (C.wd k)), .ref 7]) (w2 := scrW 0 C ++ saleW 7 U) rfl ?_
        refine ev_iald_z (f := C.f1) dX4_obey_44 rfl (by omega) (by decide) ?_
        refine ev_b bX4_obey_45_50 (lv' := [(2, .int (nI (k))), (0, .ref 0), (1, .ref 7)]) (st' := [.int (nI (k)), .ref 5, .int (zI (C.f1 k)), .int (zI (C.wd k)), .ref 7]) (w2 := scrW 0 C ++ saleW 7 U) rfl ?_
        refine ev_iald_z (f := C.f2) dX4_obey_50 rfl (by omega) (by decide) ?_
        refine ev_b bX4_obey_51_56 (lv' := [(2, .int (nI (k))), (0, .ref 0), (1, .ref 7)]) (st' := [.int (nI (k)), .ref 6, .int (zI (C.f2 k)), .int (zI (C.f1 k)), .int (zI (C.wd k)), .ref 7]) (w2 := scrW 0 C ++ saleW 7 U) rfl ?_
        refine ev_iald_z (f := C.f3) dX4_obey_56 rfl (by omega) (by decide) ?_
        refine ev_callS (Yc := mX4_carryOut) [7, 8, 9, 10, 11, 12, 13, 14] dX4_obey_57 tw_401 kX4_carryOut (m_X4_carryOut_z U (C.wd k) (C.f1 k) (C.f2 k) (C.f3 k) hU (st_one hst hlt2) h22) rfl (st := []) rfl (by decide) hw_Scr0_Sale7__7 (by decide) (Nat.le_of_ble_eq_true rfl) (Nat.le_refl _) (Nat.le_refl _) (fun r w' h => by obtain ⟨-, rfl⟩ := h; exact Nat.le_of_ble_eq_true rfl) ?_
        rintro _ _ ⟨rfl, rfl⟩
        refine ev_eq (lv' := [(2, .int (nI (k))), (0, .ref 0), (1, .ref 7)]) (st' := []) (w' := scrW 0 C ++ saleW 7 ((stDo U (C.wd k) (C.f1 k) (C.f2 k) (C.f3 k)))) rfl rfl xp_Scr0_Sale7__7 ?_
        refine ev_iinc_n (x := k) (v := 1) dX4_obey_60 rfl (by decide) ?_
        refine ev_eq (lv' := [(2, .int (nI (k + 1))), (0, .ref 0), (1, .ref 7)]) rfl rfl rfl ?_
        refine ev_b bX4_obey_63_2 (lv' := [(2, .int (nI (k + 1))), (0, .ref 0), (1, .ref 7)]) (st' := []) (w2 := scrW 0 C ++ saleW 7 ((stDo U (C.wd k) (C.f1 k) (C.f2 k) (C.f3 k)))) rfl ?_
        rw [show nI (k + 1) = nI ((k + 1)) from congrArg nI (by omega)]
        exact ih2 (k + 1) (by omega) _ hnext
      · skip
        have hE : oGo C C.sn 0 S = (((C.st k : Nat) : Int), U) := by rw [← hinv2.2, show C.sn - k = (C.sn - (k + 1)) + 1 by omega, oGo_s, if_neg h22]
        refine ev_b bX4_obey_25_30 (lv' := [(2, .int (nI (k))), (0, .ref 0), (1, .ref 7)]) (st' := [.int (nI (k)), .ref 2]) (w2 := scrW 0 C ++ saleW 7 U) rfl ?_
        refine ev_iald_n (f := C.st) dX4_obey_30 rfl (by omega) (by decide) ?_
        exact ev_iret dX4_obey_31 rfl (Nat.le_of_ble_eq_true rfl) (Nat.le_refl _) (Nat.le_refl _) ⟨(congrArg (fun t => some (Value.int t)) (show nI (C.st k) = zI ((oGo C C.sn 0 S).1) from by rw [← zI_nat]; exact congrArg zI (by rw [hE]))), (by rw [hE])⟩
  exact L2 C.sn 0 (by omega) _ ⟨hS, rfl⟩
theorem hw_comp__38_17 {x0 : TopN} {x1 : SaleN} {x2 : SaleN} {x3 : SaleN} {x4 : OutN} {x5 : BillN} {x6 : SeaN} {x7 : ScrN} {x8 : PrtN} {x9 : Nat → Nat} {x10 : Nat → Nat} : ([38, 39, 40, 41, 42, 43, 44, 17, 18, 19, 20, 21, 22, 23, 24] : List Nat).map (fun i => (compW x0 x1 x2 x3 x4 x5 x6 x7 x8 x9 x10)[i]?) = (scrW 0 x7 ++ saleW 7 x3).map (fun e => some (xr ([38, 39, 40, 41, 42, 43, 44, 17, 18, 19, 20, 21, 22, 23, 24] : List Nat) (compW x0 x1 x2 x3 x4 x5 x6 x7 x8 x9 x10).length e)) := rfl
theorem xp_comp__38_17 {x0 : TopN} {x1 : SaleN} {x2 : SaleN} {x3 : SaleN} {x4 : OutN} {x5 : BillN} {x6 : SeaN} {x7 : ScrN} {x8 : PrtN} {x9 : Nat → Nat} {x10 : Nat → Nat} {y0 : ScrN} {y1 : SaleN} : xput ([38, 39, 40, 41, 42, 43, 44, 17, 18, 19, 20, 21, 22, 23, 24] : List Nat) (compW x0 x1 x2 x3 x4 x5 x6 x7 x8 x9 x10).length (compW x0 x1 x2 x3 x4 x5 x6 x7 x8 x9 x10) ([38, 39, 40, 41, 42, 43, 44, 17, 18, 19, 20, 21, 22, 23, 24] : List Nat) (scrW 0 y0 ++ saleW 7 y1) = compW x0 x1 x2 y1 x4 x5 x6 y0 x8 x9 x10 := by
  have e0 : xput ([38, 39, 40, 41, 42, 43, 44, 17, 18, 19, 20, 21, 22, 23, 24] : List Nat) (compW x0 x1 x2 x3 x4 x5 x6 x7 x8 x9 x10).length (compW x0 x1 x2 x3 x4 x5 x6 x7 x8 x9 x10) ([38, 39, 40, 41, 42, 43, 44] : List Nat) (scrW 0 y0) = compW x0 x1 x2 x3 x4 x5 x6 y0 x8 x9 x10 := xput_blk (topW 0 x0 ++ (saleW 1 x1 ++ (saleW 9 x2 ++ (saleW 17 x3 ++ (outW 25 x4 ++ (billW 30 x5 ++ (seaW 35 x6))))))) (scrW 38 x7) (prtW 45 x8 ++ (row5 47 x9 ++ (row7 48 x10))) (scrW 0 y0) rfl
  have e1 : xput ([38, 39, 40, 41, 42, 43, 44, 17, 18, 19, 20, 21, 22, 23, 24] : List Nat) (compW x0 x1 x2 x3 x4 x5 x6 x7 x8 x9 x10).length (compW x0 x1 x2 x3 x4 x5 x6 y0 x8 x9 x10) ([17, 18, 19, 20, 21, 22, 23, 24] : List Nat) (saleW 7 y1) = compW x0 x1 x2 y1 x4 x5 x6 y0 x8 x9 x10 := xput_blk (topW 0 x0 ++ (saleW 1 x1 ++ (saleW 9 x2))) (saleW 17 x3) (outW 25 x4 ++ (billW 30 x5 ++ (seaW 35 x6 ++ (scrW 38 y0 ++ (prtW 45 x8 ++ (row5 47 x9 ++ (row7 48 x10))))))) (saleW 7 y1) rfl
  refine (xput_app ([38, 39, 40, 41, 42, 43, 44] : List Nat) ([17, 18, 19, 20, 21, 22, 23, 24] : List Nat) _ (scrW 0 y0) (saleW 7 y1) rfl).trans ?_
  exact (congrArg (fun t => xput ([38, 39, 40, 41, 42, 43, 44, 17, 18, 19, 20, 21, 22, 23, 24] : List Nat) (compW x0 x1 x2 x3 x4 x5 x6 x7 x8 x9 x10).length t ([17, 18, 19, 20, 21, 22, 23, 24] : List Nat) (saleW 7 y1)) e0).trans e1
theorem hw_comp__1_17 {x0 : TopN} {x1 : SaleN} {x2 : SaleN} {x3 : SaleN} {x4 : OutN} {x5 : BillN} {x6 : SeaN} {x7 : ScrN} {x8 : PrtN} {x9 : Nat → Nat} {x10 : Nat → Nat} : ([1, 2, 3, 4, 5, 6, 7, 8, 17, 18, 19, 20, 21, 22, 23, 24] : List Nat).map (fun i => (compW x0 x1 x2 x3 x4 x5 x6 x7 x8 x9 x10)[i]?) = (saleW 0 x1 ++ saleW 8 x3).map (fun e => some (xr ([1, 2, 3, 4, 5, 6, 7, 8, 17, 18, 19, 20, 21, 22, 23, 24] : List Nat) (compW x0 x1 x2 x3 x4 x5 x6 x7 x8 x9 x10).length e)) := rfl
theorem xp_comp__1_17 {x0 : TopN} {x1 : SaleN} {x2 : SaleN} {x3 : SaleN} {x4 : OutN} {x5 : BillN} {x6 : SeaN} {x7 : ScrN} {x8 : PrtN} {x9 : Nat → Nat} {x10 : Nat → Nat} {y0 : SaleN} {y1 : SaleN} : xput ([1, 2, 3, 4, 5, 6, 7, 8, 17, 18, 19, 20, 21, 22, 23, 24] : List Nat) (compW x0 x1 x2 x3 x4 x5 x6 x7 x8 x9 x10).length (compW x0 x1 x2 x3 x4 x5 x6 x7 x8 x9 x10) ([1, 2, 3, 4, 5, 6, 7, 8, 17, 18, 19, 20, 21, 22, 23, 24] : List Nat) (saleW 0 y0 ++ saleW 8 y1) = compW x0 y0 x2 y1 x4 x5 x6 x7 x8 x9 x10 := by
  have e0 : xput ([1, 2, 3, 4, 5, 6, 7, 8, 17, 18, 19, 20, 21, 22, 23, 24] : List Nat) (compW x0 x1 x2 x3 x4 x5 x6 x7 x8 x9 x10).length (compW x0 x1 x2 x3 x4 x5 x6 x7 x8 x9 x10) ([1, 2, 3, 4, 5, 6, 7, 8] : List Nat) (saleW 0 y0) = compW x0 y0 x2 x3 x4 x5 x6 x7 x8 x9 x10 := xput_blk (topW 0 x0) (saleW 1 x1) (saleW 9 x2 ++ (saleW 17 x3 ++ (outW 25 x4 ++ (billW 30 x5 ++ (seaW 35 x6 ++ (scrW 38 x7 ++ (prtW 45 x8 ++ (row5 47 x9 ++ (row7 48 x10))))))))) (saleW 0 y0) rfl
  have e1 : xput ([1, 2, 3, 4, 5, 6, 7, 8, 17, 18, 19, 20, 21, 22, 23, 24] : List Nat) (compW x0 x1 x2 x3 x4 x5 x6 x7 x8 x9 x10).length (compW x0 y0 x2 x3 x4 x5 x6 x7 x8 x9 x10) ([17, 18, 19, 20, 21, 22, 23, 24] : List Nat) (saleW 8 y1) = compW x0 y0 x2 y1 x4 x5 x6 x7 x8 x9 x10 := xput_blk (topW 0 x0 ++ (saleW 1 y0 ++ (saleW 9 x2))) (saleW 17 x3) (outW 25 x4 ++ (billW 30 x5 ++ (seaW 35 x6 ++ (scrW 38 x7 ++ (prtW 45 x8 ++ (row5 47 x9 ++ (row7 48 x10))))))) (saleW 8 y1) rfl
  refine (xput_app ([1, 2, 3, 4, 5, 6, 7, 8] : List Nat) ([17, 18, 19, 20, 21, 22, 23, 24] : List Nat) _ (saleW 0 y0) (saleW 8 y1) rfl).trans ?_
  exact (congrArg (fun t => xput ([1, 2, 3, 4, 5, 6, 7, 8, 17, 18, 19, 20, 21, 22, 23, 24] : List Nat) (compW x0 x1 x2 x3 x4 x5 x6 x7 x8 x9 x10).length t ([17, 18, 19, 20, 21, 22, 23, 24] : List Nat) (saleW 8 y1)) e0).trans e1
theorem bX6_obeyScript_0_8 {l : Launch} {E : XE} : Snd l E mX6_obeyScript 0 8 (xs [x_aload 0, x_get 7 2, x_aload 0, x_get 7 0]) := Snd.cons (snd_aload_n (i := 0) dX6_obeyScript_0 rfl) (Snd.cons (snd_get (ci := 7) (k := 2) dX6_obeyScript_1 rfl inX6 (by decide) tw_209) (Snd.cons (snd_aload_n (i := 0) dX6_obeyScript_4 rfl) (Snd.cons (snd_get (ci := 7) (k := 0) dX6_obeyScript_5 rfl inX6 (by decide) tw_207) Snd.nil)))
theorem bX6_obeyScript_11_19 {l : Launch} {E : XE} : Snd l E mX6_obeyScript 11 19 (xs [x_aload 0, x_get 7 6, x_aload 0, x_get 7 2]) := Snd.cons (snd_aload_n (i := 0) dX6_obeyScript_11 rfl) (Snd.cons (snd_get (ci := 7) (k := 6) dX6_obeyScript_12 rfl inX6 (by decide) tw_213) (Snd.cons (snd_aload_n (i := 0) dX6_obeyScript_15 rfl) (Snd.cons (snd_get (ci := 7) (k := 2) dX6_obeyScript_16 rfl inX6 (by decide) tw_209) Snd.nil)))
theorem bX6_obeyScript_22_26 {l : Launch} {E : XE} : Snd l E mX6_obeyScript 22 26 (xs [x_istore 1, x_iload 1, x_push (.int (-9))]) := Snd.cons (snd_istore_n (i := 1) dX6_obeyScript_22 rfl (by decide)) (Snd.cons (snd_iload_n (i := 1) dX6_obeyScript_23 rfl) (Snd.cons (snd_bipush (v := -9) dX6_obeyScript_24 (by decide)) Snd.nil))
theorem bX6_obeyScript_35_43 {l : Launch} {E : XE} : Snd l E mX6_obeyScript 35 43 (xs [x_aload 0, x_get 7 0, x_aload 0, x_get 7 2]) := Snd.cons (snd_aload_n (i := 0) dX6_obeyScript_35 rfl) (Snd.cons (snd_get (ci := 7) (k := 0) dX6_obeyScript_36 rfl inX6 (by decide) tw_207) (Snd.cons (snd_aload_n (i := 0) dX6_obeyScript_39 rfl) (Snd.cons (snd_get (ci := 7) (k := 2) dX6_obeyScript_40 rfl inX6 (by decide) tw_209) Snd.nil)))
theorem bX6_obeyScript_46_53 {l : Launch} {E : XE} : Snd l E mX6_obeyScript 46 53 (xs [x_aload 0, x_get 7 6, x_get 5 9]) := Snd.cons (snd_aload_n (i := 0) dX6_obeyScript_46 rfl) (Snd.cons (snd_get (ci := 7) (k := 6) dX6_obeyScript_47 rfl inX6 (by decide) tw_213) (Snd.cons (snd_getN (ci := 5) (k := 9) dX6_obeyScript_50 rfl inX4 (by decide) tn_171) Snd.nil))
theorem bX6_obeyScript_29_32 {l : Launch} {E : XE} : Snd l E mX6_obeyScript 29 32 (xs [x_push (.int (-2000))]) := Snd.cons (snd_sipush (v := -2000) dX6_obeyScript_29 (by decide)) Snd.nil
theorem bX6_obeyScript_32_33 {l : Launch} {E : XE} : Snd l E mX6_obeyScript 32 33 (xs [x_iload 1]) := Snd.cons (snd_iload_n (i := 1) dX6_obeyScript_32 rfl) Snd.nil
set_option maxHeartbeats 4000000 in
set_option maxRecDepth 100000 in
theorem m_X6_obeyScript {l : Launch} {E : XE} (T : TopN) (S P U : SaleN) (O : OutN) (B : BillN) (Q : SeaN) (C : ScrN) (R : PrtN) (tl rf : Nat → Nat) (hS : SaleOK S) (hst : StOK C) : MetE l E mX6_obeyScript (4) 0 0 [.ref 0] (compW T S P U O B Q C R tl rf) (fun r w' => r = some (.int (zI (obZ C S))) ∧ w' = compW T ((obS C S)) P ((oGo C C.sn 0 S).2) O B Q C R tl rf) := by
  refine MetE.of (by decide +kernel) (Nat.le_of_ble_eq_true rfl) ?_
  have hsn := hst.1
  have hGb := oGo_b hst C.sn 0 S (by omega)
  refine ev_eq (lv' := [(0, .ref 0)]) (st' := []) (w' := compW T S P U O B Q C R tl rf) rfl rfl rfl ?_
  refine ev_b bX6_obeyScript_0_8 (lv' := [(0, .ref 0)]) (st' := [.ref 1, .ref 17]) (w2 := compW T S P U O B Q C R tl rf) rfl ?_
  refine ev_callVN (Yc := mX3_takeFrom) [17, 18, 19, 20, 21, 22, 23, 24, 1, 2, 3, 4, 5, 6, 7, 8] dX6_obeyScript_8 tn_372 kX3_takeFrom (m_X3_takeFrom U S) rfl (st := []) rfl rfl rfl (by decide) hw_comp__17_1 (by decide) (Nat.le_of_ble_eq_true rfl) (Nat.le_refl _) (Nat.le_refl _) (fun r w' h => by obtain ⟨-, rfl⟩ := h; exact Nat.le_of_ble_eq_true rfl) ?_
  rintro _ _ ⟨rfl, rfl⟩
  refine ev_eq (lv' := [(0, .ref 0)]) (st' := []) (w' := compW T S P S O B Q C R tl rf) rfl rfl xp_comp__17_1 ?_
  refine ev_b bX6_obeyScript_11_19 (lv' := [(0, .ref 0)]) (st' := [.ref 17, .ref 38]) (w2 := compW T S P S O B Q C R tl rf) rfl ?_
  refine ev_callVN (Yc := mX4_obey) [38, 39, 40, 41, 42, 43, 44, 17, 18, 19, 20, 21, 22, 23, 24] dX6_obeyScript_19 tn_379 kX4_obey (m_X4_obey C S hst hS) rfl (st := []) rfl rfl rfl (by decide) hw_comp__38_17 (by decide) (Nat.le_of_ble_eq_true rfl) (Nat.le_refl _) (Nat.le_refl _) (fun r w' h => by obtain ⟨-, rfl⟩ := h; exact Nat.le_of_ble_eq_true rfl) ?_
  rintro _ _ ⟨rfl, rfl⟩
  refine ev_eq (lv' := [(0, .ref 0)]) (st' := [.int (zI ((oGo C C.sn 0 S).1))]) (w' := compW T S P ((oGo C C.sn 0 S).2) O B Q C R tl rf) rfl rfl xp_comp__38_17 ?_
  refine ev_b bX6_obeyScript_22_26 (lv' := [(1, .int (zI ((oGo C C.sn 0 S).1))), (0, .ref 0)]) (st' := [.int (-9), .int (zI ((oGo C C.sn 0 S).1))]) (w2 := compW T S P ((oGo C C.sn 0 S).2) O B Q C R tl rf) rfl ?_
  refine ev_top (y := zI (-9)) (by decide) ?_
  refine ev_icmp_eq_z (tgt := 35) (by constructor <;> omega) (by constructor <;> omega) dX6_obeyScript_26 (by decide) (fun h26 => ?_) (fun h26 => ?_)
  · skip
    have hE : obZ C S = ((C.sn : Nat) : Int) ∧ obS C S = (oGo C C.sn 0 S).2 := ⟨if_pos h26, if_pos h26⟩
    refine ev_b bX6_obeyScript_35_43 (lv' := [(1, .int (zI ((oGo C C.sn 0 S).1))), (0, .ref 0)]) (st' := [.ref 17, .ref 1]) (w2 := compW T S P ((oGo C C.sn 0 S).2) O B Q C R tl rf) rfl ?_
    refine ev_callVN (Yc := mX3_takeFrom) [1, 2, 3, 4, 5, 6, 7, 8, 17, 18, 19, 20, 21, 22, 23, 24] dX6_obeyScript_43 tn_372 kX3_takeFrom (m_X3_takeFrom S (oGo C C.sn 0 S).2) rfl (st := []) rfl rfl rfl (by decide) hw_comp__1_17 (by decide) (Nat.le_of_ble_eq_true rfl) (Nat.le_refl _) (Nat.le_refl _) (fun r w' h => by obtain ⟨-, rfl⟩ := h; exact Nat.le_of_ble_eq_true rfl) ?_
    rintro _ _ ⟨rfl, rfl⟩
    refine ev_eq (lv' := [(1, .int (zI ((oGo C C.sn 0 S).1))), (0, .ref 0)]) (st' := []) (w' := compW T ((oGo C C.sn 0 S).2) P ((oGo C C.sn 0 S).2) O B Q C R tl rf) rfl rfl xp_comp__1_17 ?_
    refine ev_b bX6_obeyScript_46_53 (lv' := [(1, .int (zI ((oGo C C.sn 0 S).1))), (0, .ref 0)]) (st' := [.int (nI (C.sn))]) (w2 := compW T ((oGo C C.sn 0 S).2) P ((oGo C C.sn 0 S).2) O B Q C R tl rf) rfl ?_
    exact ev_iret dX6_obeyScript_53 rfl (Nat.le_refl 49) (Nat.le_refl _) (Nat.le_refl _) ⟨(congrArg (fun t => some (Value.int t)) (show nI (C.sn) = zI (obZ C S) from by rw [← zI_nat]; exact congrArg zI (by rw [hE.1]))), (by rw [hE.2])⟩
  · skip
    have hE : obZ C S = -2000 - (oGo C C.sn 0 S).1 ∧ obS C S = S := ⟨if_neg h26, if_neg h26⟩
    refine ev_b bX6_obeyScript_29_32 (lv' := [(1, .int (zI ((oGo C C.sn 0 S).1))), (0, .ref 0)]) (st' := [.int (-2000)]) (w2 := compW T S P ((oGo C C.sn 0 S).2) O B Q C R tl rf) rfl ?_
    refine ev_top (y := zI (-2000)) (by decide) ?_
    refine ev_b bX6_obeyScript_32_33 (lv' := [(1, .int (zI ((oGo C C.sn 0 S).1))), (0, .ref 0)]) (st' := [.int (zI ((oGo C C.sn 0 S).1)), .int (zI (-2000))]) (w2 := compW T S P ((oGo C C.sn 0 S).2) O B Q C R tl rf) rfl ?_
    refine ev_isub_z dX6_obeyScript_33 ?_
    exact ev_iret dX6_obeyScript_34 rfl (Nat.le_refl 49) (Nat.le_refl _) (Nat.le_refl _) ⟨(congrArg (fun t => some (Value.int (zI t))) (show (-2000) - ((oGo C C.sn 0 S).1) = obZ C S from by rw [hE.1])), (by rw [hE.2])⟩
