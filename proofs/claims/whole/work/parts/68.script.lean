theorem hw_Scr0_Sale7__7 {x0 : ScrN} {x1 : SaleN} : ([7, 8, 9, 10, 11, 12, 13, 14] : List Nat).map (fun i => (scrW 0 x0 ++ saleW 7 x1)[i]?) = (saleW 0 x1).map (fun e => some (xr ([7, 8, 9, 10, 11, 12, 13, 14] : List Nat) (scrW 0 x0 ++ saleW 7 x1).length e)) := rfl
theorem xp_Scr0_Sale7__7 {x0 : ScrN} {x1 : SaleN} {y0 : SaleN} : xput ([7, 8, 9, 10, 11, 12, 13, 14] : List Nat) (scrW 0 x0 ++ saleW 7 x1).length (scrW 0 x0 ++ saleW 7 x1) ([7, 8, 9, 10, 11, 12, 13, 14] : List Nat) (saleW 0 y0) = scrW 0 x0 ++ saleW 7 y0 := by
  have e0 : xput ([7, 8, 9, 10, 11, 12, 13, 14] : List Nat) (scrW 0 x0 ++ saleW 7 x1).length (scrW 0 x0 ++ saleW 7 x1) ([7, 8, 9, 10, 11, 12, 13, 14] : List Nat) (saleW 0 y0) = scrW 0 x0 ++ saleW 7 y0 := xput_blk (scrW 0 x0) (saleW 7 x1) ([]) (saleW 0 y0) rfl
  exact e0
theorem bX4_isRight_0_1 {l : Launch} {E : XE} : Snd l E mX4_isRight 0 1 (xs [x_iload 2]) := Snd.cons (snd_iload_n (i := 2) dX4_isRight_0 rfl) Snd.nil
theorem bX4_isRight_4_7 {l : Launch} {E : XE} : Snd l E mX4_isRight 4 7 (xs [x_iload 2, x_push (.int (nI 16))]) := Snd.cons (snd_iload_n (i := 2) dX4_isRight_4 rfl) (Snd.cons (snd_bipush (v := nI 16) dX4_isRight_5 (by decide)) Snd.nil)
theorem bX4_isRight_12_17 {l : Launch} {E : XE} : Snd l E mX4_isRight 12 17 (xs [x_aload 0, x_get 5 2, x_iload 2]) := Snd.cons (snd_aload_n (i := 0) dX4_isRight_12 rfl) (Snd.cons (snd_get (ci := 5) (k := 2) dX4_isRight_13 rfl inX4 (by decide) tw_162) (Snd.cons (snd_iload_n (i := 2) dX4_isRight_16 rfl) Snd.nil))
theorem bX4_isRight_48_53 {l : Launch} {E : XE} : Snd l E mX4_isRight 48 53 (xs [x_aload 0, x_get 5 3, x_iload 2]) := Snd.cons (snd_aload_n (i := 0) dX4_isRight_48 rfl) (Snd.cons (snd_get (ci := 5) (k := 3) dX4_isRight_49 rfl inX4 (by decide) tw_163) (Snd.cons (snd_iload_n (i := 2) dX4_isRight_52 rfl) Snd.nil))
theorem bX4_isRight_90_91 {l : Launch} {E : XE} : Snd l E mX4_isRight 90 91 (xs [x_push (.int (nI 0))]) := Snd.cons (snd_iconst (v := nI 0) dX4_isRight_90 (by decide)) Snd.nil
theorem bX4_isRight_60_65 {l : Launch} {E : XE} : Snd l E mX4_isRight 60 65 (xs [x_aload 0, x_get 5 4, x_iload 2]) := Snd.cons (snd_aload_n (i := 0) dX4_isRight_60 rfl) (Snd.cons (snd_get (ci := 5) (k := 4) dX4_isRight_61 rfl inX4 (by decide) tw_164) (Snd.cons (snd_iload_n (i := 2) dX4_isRight_64 rfl) Snd.nil))
theorem bX4_isRight_66_67 {l : Launch} {E : XE} : Snd l E mX4_isRight 66 67 (xs [x_push (.int (-1))]) := Snd.cons (snd_iconst (v := -1) dX4_isRight_66 (by decide)) Snd.nil
theorem bX4_isRight_70_75 {l : Launch} {E : XE} : Snd l E mX4_isRight 70 75 (xs [x_aload 0, x_get 5 5, x_iload 2]) := Snd.cons (snd_aload_n (i := 0) dX4_isRight_70 rfl) (Snd.cons (snd_get (ci := 5) (k := 5) dX4_isRight_71 rfl inX4 (by decide) tw_165) (Snd.cons (snd_iload_n (i := 2) dX4_isRight_74 rfl) Snd.nil))
theorem bX4_isRight_79_80 {l : Launch} {E : XE} : Snd l E mX4_isRight 79 80 (xs [x_aload 1]) := Snd.cons (snd_aload_n (i := 1) dX4_isRight_79 rfl) Snd.nil
theorem bX4_isRight_86_91 {l : Launch} {E : XE} : Snd l E mX4_isRight 86 91 (xs [x_push (.int (nI 1)), x_id]) := Snd.cons (snd_iconst (v := nI 1) dX4_isRight_86 (by decide)) (Snd.cons (snd_goto (tgt := 91) dX4_isRight_87 (by decide)) Snd.nil)
theorem bX4_isRight_92_98 {l : Launch} {E : XE} : Snd l E mX4_isRight 92 98 (xs [x_aload 1, x_aload 0, x_get 5 3, x_iload 2]) := Snd.cons (snd_aload_n (i := 1) dX4_isRight_92 rfl) (Snd.cons (snd_aload_n (i := 0) dX4_isRight_93 rfl) (Snd.cons (snd_get (ci := 5) (k := 3) dX4_isRight_94 rfl inX4 (by decide) tw_163) (Snd.cons (snd_iload_n (i := 2) dX4_isRight_97 rfl) Snd.nil)))
theorem bX4_isRight_103_108 {l : Launch} {E : XE} : Snd l E mX4_isRight 103 108 (xs [x_aload 0, x_get 5 3, x_iload 2]) := Snd.cons (snd_aload_n (i := 0) dX4_isRight_103 rfl) (Snd.cons (snd_get (ci := 5) (k := 3) dX4_isRight_104 rfl inX4 (by decide) tw_163) (Snd.cons (snd_iload_n (i := 2) dX4_isRight_107 rfl) Snd.nil))
theorem bX4_isRight_141_142 {l : Launch} {E : XE} : Snd l E mX4_isRight 141 142 (xs [x_push (.int (nI 0))]) := Snd.cons (snd_iconst (v := nI 0) dX4_isRight_141 (by decide)) Snd.nil
theorem bX4_isRight_115_120 {l : Launch} {E : XE} : Snd l E mX4_isRight 115 120 (xs [x_aload 0, x_get 5 4, x_iload 2]) := Snd.cons (snd_aload_n (i := 0) dX4_isRight_115 rfl) (Snd.cons (snd_get (ci := 5) (k := 4) dX4_isRight_116 rfl inX4 (by decide) tw_164) (Snd.cons (snd_iload_n (i := 2) dX4_isRight_119 rfl) Snd.nil))
theorem bX4_isRight_121_123 {l : Launch} {E : XE} : Snd l E mX4_isRight 121 123 (xs [x_push (.int (nI 6))]) := Snd.cons (snd_bipush (v := nI 6) dX4_isRight_121 (by decide)) Snd.nil
theorem bX4_isRight_126_131 {l : Launch} {E : XE} : Snd l E mX4_isRight 126 131 (xs [x_aload 0, x_get 5 5, x_iload 2]) := Snd.cons (snd_aload_n (i := 0) dX4_isRight_126 rfl) (Snd.cons (snd_get (ci := 5) (k := 5) dX4_isRight_127 rfl inX4 (by decide) tw_165) (Snd.cons (snd_iload_n (i := 2) dX4_isRight_130 rfl) Snd.nil))
theorem bX4_isRight_132_134 {l : Launch} {E : XE} : Snd l E mX4_isRight 132 134 (xs [x_push (.int (nI 9))]) := Snd.cons (snd_bipush (v := nI 9) dX4_isRight_132 (by decide)) Snd.nil
theorem bX4_isRight_137_142 {l : Launch} {E : XE} : Snd l E mX4_isRight 137 142 (xs [x_push (.int (nI 1)), x_id]) := Snd.cons (snd_iconst (v := nI 1) dX4_isRight_137 (by decide)) (Snd.cons (snd_goto (tgt := 142) dX4_isRight_138 (by decide)) Snd.nil)
theorem bX4_isRight_143_148 {l : Launch} {E : XE} : Snd l E mX4_isRight 143 148 (xs [x_aload 0, x_get 5 3, x_iload 2]) := Snd.cons (snd_aload_n (i := 0) dX4_isRight_143 rfl) (Snd.cons (snd_get (ci := 5) (k := 3) dX4_isRight_144 rfl inX4 (by decide) tw_163) (Snd.cons (snd_iload_n (i := 2) dX4_isRight_147 rfl) Snd.nil))
theorem bX4_isRight_170_171 {l : Launch} {E : XE} : Snd l E mX4_isRight 170 171 (xs [x_push (.int (nI 0))]) := Snd.cons (snd_iconst (v := nI 0) dX4_isRight_170 (by decide)) Snd.nil
theorem bX4_isRight_155_160 {l : Launch} {E : XE} : Snd l E mX4_isRight 155 160 (xs [x_aload 0, x_get 5 4, x_iload 2]) := Snd.cons (snd_aload_n (i := 0) dX4_isRight_155 rfl) (Snd.cons (snd_get (ci := 5) (k := 4) dX4_isRight_156 rfl inX4 (by decide) tw_164) (Snd.cons (snd_iload_n (i := 2) dX4_isRight_159 rfl) Snd.nil))
theorem bX4_isRight_161_163 {l : Launch} {E : XE} : Snd l E mX4_isRight 161 163 (xs [x_push (.int (nI 9))]) := Snd.cons (snd_bipush (v := nI 9) dX4_isRight_161 (by decide)) Snd.nil
theorem bX4_isRight_166_171 {l : Launch} {E : XE} : Snd l E mX4_isRight 166 171 (xs [x_push (.int (nI 1)), x_id]) := Snd.cons (snd_iconst (v := nI 1) dX4_isRight_166 (by decide)) (Snd.cons (snd_goto (tgt := 171) dX4_isRight_167 (by decide)) Snd.nil)
theorem bX4_isRight_172_178 {l : Launch} {E : XE} : Snd l E mX4_isRight 172 178 (xs [x_aload 1, x_aload 0, x_get 5 3, x_iload 2]) := Snd.cons (snd_aload_n (i := 1) dX4_isRight_172 rfl) (Snd.cons (snd_aload_n (i := 0) dX4_isRight_173 rfl) (Snd.cons (snd_get (ci := 5) (k := 3) dX4_isRight_174 rfl inX4 (by decide) tw_163) (Snd.cons (snd_iload_n (i := 2) dX4_isRight_177 rfl) Snd.nil)))
theorem bX4_isRight_198_199 {l : Launch} {E : XE} : Snd l E mX4_isRight 198 199 (xs [x_push (.int (nI 0))]) := Snd.cons (snd_iconst (v := nI 0) dX4_isRight_198 (by decide)) Snd.nil
theorem bX4_isRight_185_190 {l : Launch} {E : XE} : Snd l E mX4_isRight 185 190 (xs [x_aload 0, x_get 5 4, x_iload 2]) := Snd.cons (snd_aload_n (i := 0) dX4_isRight_185 rfl) (Snd.cons (snd_get (ci := 5) (k := 4) dX4_isRight_186 rfl inX4 (by decide) tw_164) (Snd.cons (snd_iload_n (i := 2) dX4_isRight_189 rfl) Snd.nil))
theorem bX4_isRight_194_199 {l : Launch} {E : XE} : Snd l E mX4_isRight 194 199 (xs [x_push (.int (nI 1)), x_id]) := Snd.cons (snd_iconst (v := nI 1) dX4_isRight_194 (by decide)) (Snd.cons (snd_goto (tgt := 199) dX4_isRight_195 (by decide)) Snd.nil)
set_option maxHeartbeats 4000000 in
set_option maxRecDepth 100000 in
theorem m_X4_isRight {l : Launch} {E : XE} (C : ScrN) (S : SaleN) (s : Nat) (hC : StOK C) (hs : s < C.sn) (hS : SaleOK S) : MetE l E mX4_isRight (1) 0 0 [.ref 0, .ref 7, .int (nI (s))] (scrW 0 C ++ saleW 7 S) (fun r w' => r = some (.int (nI (b01 (stOk S (C.wd s) (C.f1 s) (C.f2 s) (C.f3 s))))) ∧ w' = scrW 0 C ++ saleW 7 S) := by
  refine MetE.of (by decide +kernel) (Nat.le_of_ble_eq_true rfl) ?_
  have hca := hS.1
  have hsn := hC.1
  obtain ⟨⟨hw1, hw2⟩, ⟨ha1, ha2⟩, ⟨hb1, hb2⟩, ⟨hc1, hc2⟩, hb0, hbn⟩ := st_one hC hs
  refine ev_eq (lv' := [(0, .ref 0), (1, .ref 7), (2, .int (nI (s)))]) (st' := []) (w' := scrW 0 C ++ saleW 7 S) rfl rfl rfl ?_
  refine ev_b bX4_isRight_0_1 (lv' := [(0, .ref 0), (1, .ref 7), (2, .int (nI (s)))]) (st' := [.int (nI (s))]) (w2 := scrW 0 C ++ saleW 7 S) rfl ?_
  refine ev_if_lt_n (tgt := 10) (by omega) dX4_isRight_1 (by decide) (fun h1 => (by exfalso; omega)) (fun h1 => ?_)
  refine ev_b bX4_isRight_4_7 (lv' := [(0, .ref 0), (1, .ref 7), (2, .int (nI (s)))]) (st' := [.int (nI (16)), .int (nI (s))]) (w2 := scrW 0 C ++ saleW 7 S) rfl ?_
  refine ev_icmp_lt_n (tgt := 12) (by omega) (by decide) dX4_isRight_7 (by decide) (fun h7 => ?_) (fun h7 => (by exfalso; omega))
  refine ev_b bX4_isRight_12_17 (lv' := [(0, .ref 0), (1, .ref 7), (2, .int (nI (s)))]) (st' := [.int (nI (s)), .ref 3]) (w2 := scrW 0 C ++ saleW 7 S) rfl ?_
  refine ev_iald_z (f := C.wd) dX4_isRight_17 rfl (by omega) (by decide) ?_
  rcases (show C.wd s = 0 ∨ C.wd s = 1 ∨ C.wd s = 2 ∨ C.wd s = 3 ∨ (C.wd s < 0 ∨ 3 < C.wd s) from by omega) with h18 | h18 | h18 | h18 | h18
  · skip
    refine ev_tableIn (off := 30) (tgt := 48) dX4_isRight_18 (by rw [zI_toInt (by omega) (by omega)]; omega) (by rw [zI_toInt (by omega) (by omega)]; omega) (by rw [h18]; rfl) (by decide) ?_
    refine ev_b bX4_isRight_48_53 (lv' := [(0, .ref 0), (1, .ref 7), (2, .int (nI (s)))]) (st' := [.int (nI (s)), .ref 4]) (w2 := scrW 0 C ++ saleW 7 S) rfl ?_
    refine ev_iald_z (f := C.f1) dX4_isRight_53 rfl (by omega) (by decide) ?_
    refine ev_callSN (Yc := mX6_isBidder) [] dX4_isRight_54 tn_387 kX6_isBidder (m_X6_isBidder_z (C.f1 s) (by constructor <;> omega)) rfl (st := []) rfl (by decide) rfl (by decide) (Nat.le_of_ble_eq_true rfl) (Nat.le_refl _) (Nat.le_refl _) (fun r w' h => by obtain ⟨-, rfl⟩ := h; exact Nat.le_of_ble_eq_true rfl) ?_
    rintro _ _ ⟨rfl, rfl⟩
    refine ev_eq (lv' := [(0, .ref 0), (1, .ref 7), (2, .int (nI (s)))]) (st' := [.int (nI (b01 (0 ≤ C.f1 s ∧ C.f1 s < 5)))]) (w' := scrW 0 C ++ saleW 7 S) rfl rfl rfl ?_
    refine ev_ifeq_b (tgt := 90) dX4_isRight_57 (by decide) (fun h57 => ?_) (fun h57 => ?_)
    · skip
      refine ev_b bX4_isRight_90_91 (lv' := [(0, .ref 0), (1, .ref 7), (2, .int (nI (s)))]) (st' := [.int (nI (0))]) (w2 := scrW 0 C ++ saleW 7 S) rfl ?_
      exact ev_zret dX4_isRight_91 rfl rfl (Nat.le_of_ble_eq_true rfl) (Nat.le_refl _) (Nat.le_refl _) ⟨(congrArg (fun t => some (Value.int (nI t))) (b01_f (by unfold stOk; omega)).symm), rfl⟩
    · skip
      refine ev_b bX4_isRight_60_65 (lv' := [(0, .ref 0), (1, .ref 7), (2, .int (nI (s)))]) (st' := [.int (nI (s)), .ref 5]) (w2 := scrW 0 C ++ saleW 7 S) rfl ?_
      refine ev_iald_z (f := C.f2) dX4_isRight_65 rfl (by omega) (by decide) ?_
      refine ev_b bX4_isRight_66_67 (lv' := [(0, .ref 0), (1, .ref 7), (2, .int (nI (s)))]) (st' := [.int (-1), .int (zI (C.f2 s))]) (w2 := scrW 0 C ++ saleW 7 S) rfl ?_
      refine ev_top (y := zI (-1)) (by decide) ?_
      refine ev_icmp_eq_z (tgt := 90) (by constructor <;> omega) (by constructor <;> omega) dX4_isRight_67 (by decide) (fun h67 => ?_) (fun h67 => ?_)
      · skip
        refine ev_b bX4_isRight_90_91 (lv' := [(0, .ref 0), (1, .ref 7), (2, .int (nI (s)))]) (st' := [.int (nI (0))]) (w2 := scrW 0 C ++ saleW 7 S) rfl ?_
        exact ev_zret dX4_isRight_91 rfl rfl (Nat.le_of_ble_eq_true rfl) (Nat.le_refl _) (Nat.le_refl _) ⟨(congrArg (fun t => some (Value.int (nI t))) (b01_f (by unfold stOk; omega)).symm), rfl⟩
      · skip
        refine ev_b bX4_isRight_70_75 (lv' := [(0, .ref 0), (1, .ref 7), (2, .int (nI (s)))]) (st' := [.int (nI (s)), .ref 6]) (w2 := scrW 0 C ++ saleW 7 S) rfl ?_
        refine ev_iald_z (f := C.f3) dX4_isRight_75 rfl (by omega) (by decide) ?_
        refine ev_if_le_z (tgt := 90) (by constructor <;> omega) dX4_isRight_76 (by decide) (fun h76 => ?_) (fun h76 => ?_)
        · skip
          refine ev_b bX4_isRight_90_91 (lv' := [(0, .ref 0), (1, .ref 7), (2, .int (nI (s)))]) (st' := [.int (nI (0))]) (w2 := scrW 0 C ++ saleW 7 S) rfl ?_
          exact ev_zret dX4_isRight_91 rfl rfl (Nat.le_of_ble_eq_true rfl) (Nat.le_refl _) (Nat.le_refl _) ⟨(congrArg (fun t => some (Value.int (nI t))) (b01_f (by unfold stOk; omega)).symm), rfl⟩
        · skip
          refine ev_b bX4_isRight_79_80 (lv' := [(0, .ref 0), (1, .ref 7), (2, .int (nI (s)))]) (st' := [.ref 7]) (w2 := scrW 0 C ++ saleW 7 S) rfl ?_
          refine ev_callVN (Yc := mX3_isFull) [7, 8, 9, 10, 11, 12, 13, 14] dX4_isRight_80 tn_390 kX3_isFull (m_X3_isFull S hS) rfl (st := []) rfl rfl rfl (by decide) hw_Scr0_Sale7__7 (by decide) (Nat.le_of_ble_eq_true rfl) (Nat.le_refl _) (Nat.le_refl _) (fun r w' h => by obtain ⟨-, rfl⟩ := h; exact Nat.le_of_ble_eq_true rfl) ?_
          rintro _ _ ⟨rfl, rfl⟩
          refine ev_eq (lv' := [(0, .ref 0), (1, .ref 7), (2, .int (nI (s)))]) (st' := [.int (nI (b01 (10 ≤ S.ca)))]) (w' := scrW 0 C ++ saleW 7 S) rfl rfl xp_Scr0_Sale7__7 ?_
          refine ev_ifne_b (tgt := 90) dX4_isRight_83 (by decide) (fun h83 => ?_) (fun h83 => ?_)
          · skip
            refine ev_b bX4_isRight_90_91 (lv' := [(0, .ref 0), (1, .ref 7), (2, .int (nI (s)))]) (st' := [.int (nI (0))]) (w2 := scrW 0 C ++ saleW 7 S) rfl ?_
            exact ev_zret dX4_isRight_91 rfl rfl (Nat.le_of_ble_eq_true rfl) (Nat.le_refl _) (Nat.le_refl _) ⟨(congrArg (fun t => some (Value.int (nI t))) (b01_f (by unfold stOk; omega)).symm), rfl⟩
          · skip
            refine ev_b bX4_isRight_86_91 (lv' := [(0, .ref 0), (1, .ref 7), (2, .int (nI (s)))]) (st' := [.int (nI (1))]) (w2 := scrW 0 C ++ saleW 7 S) rfl ?_
            exact ev_zret dX4_isRight_91 rfl rfl (Nat.le_of_ble_eq_true rfl) (Nat.le_refl _) (Nat.le_refl _) ⟨(congrArg (fun t => some (Value.int (nI t))) (b01_t (by unfold stOk; omega)).symm), rfl⟩
  · skip
    refine ev_tableIn (off := 74) (tgt := 92) dX4_isRight_18 (by rw [zI_toInt (by omega) (by omega)]; omega) (by rw [zI_toInt (by omega) (by omega)]; omega) (by rw [h18]; rfl) (by decide) ?_
    refine ev_b bX4_isRight_92_98 (lv' := [(0, .ref 0), (1, .ref 7), (2, .int (nI (s)))]) (st' := [.int (nI (s)), .ref 4, .ref 7]) (w2 := scrW 0 C ++ saleW 7 S) rfl ?_
    refine ev_iald_z (f := C.f1) dX4_isRight_98 rfl (by omega) (by decide) ?_
    refine ev_callVN (Yc := mX3_hasBid) [7, 8, 9, 10, 11, 12, 13, 14] dX4_isRight_99 tn_394 kX3_hasBid (m_X3_hasBid_z S (C.f1 s) hS (by constructor <;> omega)) rfl (st := []) rfl rfl rfl (by decide) hw_Scr0_Sale7__7 (by decide) (Nat.le_of_ble_eq_true rfl) (Nat.le_refl _) (Nat.le_refl _) (fun r w' h => by obtain ⟨-, rfl⟩ := h; exact Nat.le_of_ble_eq_true rfl) ?_
    rintro _ _ ⟨rfl, rfl⟩
    refine ev_eq (lv' := [(0, .ref 0), (1, .ref 7), (2, .int (nI (s)))]) (st' := [.int (nI (b01 (0 ≤ C.f1 s ∧ C.f1 s < ((S.ca : Nat) : Int))))]) (w' := scrW 0 C ++ saleW 7 S) rfl rfl xp_Scr0_Sale7__7 ?_
    exact ev_zret dX4_isRight_102 rfl b01_nar (Nat.le_of_ble_eq_true rfl) (Nat.le_refl _) (Nat.le_refl _) ⟨(congrArg (fun t => some (Value.int (nI t))) (b01_c (by unfold stOk; omega))), rfl⟩
  · skip
    refine ev_tableIn (off := 85) (tgt := 103) dX4_isRight_18 (by rw [zI_toInt (by omega) (by omega)]; omega) (by rw [zI_toInt (by omega) (by omega)]; omega) (by rw [h18]; rfl) (by decide) ?_
    refine ev_b bX4_isRight_103_108 (lv' := [(0, .ref 0), (1, .ref 7), (2, .int (nI (s)))]) (st' := [.int (nI (s)), .ref 4]) (w2 := scrW 0 C ++ saleW 7 S) rfl ?_
    refine ev_iald_z (f := C.f1) dX4_isRight_108 rfl (by omega) (by decide) ?_
    refine ev_callSN (Yc := mX6_isBidder) [] dX4_isRight_109 tn_387 kX6_isBidder (m_X6_isBidder_z (C.f1 s) (by constructor <;> omega)) rfl (st := []) rfl (by decide) rfl (by decide) (Nat.le_of_ble_eq_true rfl) (Nat.le_refl _) (Nat.le_refl _) (fun r w' h => by obtain ⟨-, rfl⟩ := h; exact Nat.le_of_ble_eq_true rfl) ?_
    rintro _ _ ⟨rfl, rfl⟩
    refine ev_eq (lv' := [(0, .ref 0), (1, .ref 7), (2, .int (nI (s)))]) (st' := [.int (nI (b01 (0 ≤ C.f1 s ∧ C.f1 s < 5)))]) (w' := scrW 0 C ++ saleW 7 S) rfl rfl rfl ?_
    refine ev_ifeq_b (tgt := 141) dX4_isRight_112 (by decide) (fun h112 => ?_) (fun h112 => ?_)
    · skip
      refine ev_b bX4_isRight_141_142 (lv' := [(0, .ref 0), (1, .ref 7), (2, .int (nI (s)))]) (st' := [.int (nI (0))]) (w2 := scrW 0 C ++ saleW 7 S) rfl ?_
      exact ev_zret dX4_isRight_142 rfl rfl (Nat.le_of_ble_eq_true rfl) (Nat.le_refl _) (Nat.le_refl _) ⟨(congrArg (fun t => some (Value.int (nI t))) (b01_f (by unfold stOk; omega)).symm), rfl⟩
    · skip
      refine ev_b bX4_isRight_115_120 (lv' := [(0, .ref 0), (1, .ref 7), (2, .int (nI (s)))]) (st' := [.int (nI (s)), .ref 5]) (w2 := scrW 0 C ++ saleW 7 S) rfl ?_
      refine ev_iald_z (f := C.f2) dX4_isRight_120 rfl (by omega) (by decide) ?_
      refine ev_b bX4_isRight_121_123 (lv' := [(0, .ref 0), (1, .ref 7), (2, .int (nI (s)))]) (st' := [.int (nI (6)), .int (zI (C.f2 s))]) (w2 := scrW 0 C ++ saleW 7 S) rfl ?_
      refine ev_top (y := zI (((6 : Nat) : Int))) (zI_nat _).symm ?_
      refine ev_icmp_ge_z (tgt := 141) (by constructor <;> omega) (by constructor <;> omega) dX4_isRight_123 (by decide) (fun h123 => ?_) (fun h123 => ?_)
      · skip
        refine ev_b bX4_isRight_141_142 (lv' := [(0, .ref 0), (1, .ref 7), (2, .int (nI (s)))]) (st' := [.int (nI (0))]) (w2 := scrW 0 C ++ saleW 7 S) rfl ?_
        exact ev_zret dX4_isRight_142 rfl rfl (Nat.le_of_ble_eq_true rfl) (Nat.le_refl _) (Nat.le_refl _) ⟨(congrArg (fun t => some (Value.int (nI t))) (b01_f (by unfold stOk; omega)).symm), rfl⟩
      · skip
        refine ev_b bX4_isRight_126_131 (lv' := [(0, .ref 0), (1, .ref 7), (2, .int (nI (s)))]) (st' := [.int (nI (s)), .ref 6]) (w2 := scrW 0 C ++ saleW 7 S) rfl ?_
        refine ev_iald_z (f := C.f3) dX4_isRight_131 rfl (by omega) (by decide) ?_
        refine ev_b bX4_isRight_132_134 (lv' := [(0, .ref 0), (1, .ref 7), (2, .int (nI (s)))]) (st' := [.int (nI (9)), .int (zI (C.f3 s))]) (w2 := scrW 0 C ++ saleW 7 S) rfl ?_
        refine ev_top (y := zI (((9 : Nat) : Int))) (zI_nat _).symm ?_
        refine ev_icmp_gt_z (tgt := 141) (by constructor <;> omega) (by constructor <;> omega) dX4_isRight_134 (by decide) (fun h134 => ?_) (fun h134 => ?_)
        · skip
          refine ev_b bX4_isRight_141_142 (lv' := [(0, .ref 0), (1, .ref 7), (2, .int (nI (s)))]) (st' := [.int (nI (0))]) (w2 := scrW 0 C ++ saleW 7 S) rfl ?_
          exact ev_zret dX4_isRight_142 rfl rfl (Nat.le_of_ble_eq_true rfl) (Nat.le_refl _) (Nat.le_refl _) ⟨(congrArg (fun t => some (Value.int (nI t))) (b01_f (by unfold stOk; omega)).symm), rfl⟩
        · skip
          refine ev_b bX4_isRight_137_142 (lv' := [(0, .ref 0), (1, .ref 7), (2, .int (nI (s)))]) (st' := [.int (nI (1))]) (w2 := scrW 0 C ++ saleW 7 S) rfl ?_
          exact ev_zret dX4_isRight_142 rfl rfl (Nat.le_of_ble_eq_true rfl) (Nat.le_refl _) (Nat.le_refl _) ⟨(congrArg (fun t => some (Value.int (nI t))) (b01_t (by unfold stOk; omega)).symm), rfl⟩
  · skip
    refine ev_tableIn (off := 125) (tgt := 143) dX4_isRight_18 (by rw [zI_toInt (by omega) (by omega)]; omega) (by rw [zI_toInt (by omega) (by omega)]; omega) (by rw [h18]; rfl) (by decide) ?_
    refine ev_b bX4_isRight_143_148 (lv' := [(0, .ref 0), (1, .ref 7), (2, .int (nI (s)))]) (st' := [.int (nI (s)), .ref 4]) (w2 := scrW 0 C ++ saleW 7 S) rfl ?_
    refine ev_iald_z (f := C.f1) dX4_isRight_148 rfl (by omega) (by decide) ?_
    refine ev_callSN (Yc := mX6_isItem) [] dX4_isRight_149 tn_398 kX6_isItem (m_X6_isItem_z (C.f1 s) (by constructor <;> omega)) rfl (st := []) rfl (by decide) rfl (by decide) (Nat.le_of_ble_eq_true rfl) (Nat.le_refl _) (Nat.le_refl _) (fun r w' h => by obtain ⟨-, rfl⟩ := h; exact Nat.le_of_ble_eq_true rfl) ?_
    rintro _ _ ⟨rfl, rfl⟩
    refine ev_eq (lv' := [(0, .ref 0), (1, .ref 7), (2, .int (nI (s)))]) (st' := [.int (nI (b01 (0 ≤ C.f1 s ∧ C.f1 s < 6)))]) (w' := scrW 0 C ++ saleW 7 S) rfl rfl rfl ?_
    refine ev_ifeq_b (tgt := 170) dX4_isRight_152 (by decide) (fun h152 => ?_) (fun h152 => ?_)
    · skip
      refine ev_b bX4_isRight_170_171 (lv' := [(0, .ref 0), (1, .ref 7), (2, .int (nI (s)))]) (st' := [.int (nI (0))]) (w2 := scrW 0 C ++ saleW 7 S) rfl ?_
      exact ev_zret dX4_isRight_171 rfl rfl (Nat.le_of_ble_eq_true rfl) (Nat.le_refl _) (Nat.le_refl _) ⟨(congrArg (fun t => some (Value.int (nI t))) (b01_f (by unfold stOk; omega)).symm), rfl⟩
    · skip
      refine ev_b bX4_isRight_155_160 (lv' := [(0, .ref 0), (1, .ref 7), (2, .int (nI (s)))]) (st' := [.int (nI (s)), .ref 5]) (w2 := scrW 0 C ++ saleW 7 S) rfl ?_
      refine ev_iald_z (f := C.f2) dX4_isRight_160 rfl (by omega) (by decide) ?_
      refine ev_b bX4_isRight_161_163 (lv' := [(0, .ref 0), (1, .ref 7), (2, .int (nI (s)))]) (st' := [.int (nI (9)), .int (zI (C.f2 s))]) (w2 := scrW 0 C ++ saleW 7 S) rfl ?_
      refine ev_top (y := zI (((9 : Nat) : Int))) (zI_nat _).symm ?_
      refine ev_icmp_gt_z (tgt := 170) (by constructor <;> omega) (by constructor <;> omega) dX4_isRight_163 (by decide) (fun h163 => ?_) (fun h163 => ?_)
      · skip
        refine ev_b bX4_isRight_170_171 (lv' := [(0, .ref 0), (1, .ref 7), (2, .int (nI (s)))]) (st' := [.int (nI (0))]) (w2 := scrW 0 C ++ saleW 7 S) rfl ?_
        exact ev_zret dX4_isRight_171 rfl rfl (Nat.le_of_ble_eq_true rfl) (Nat.le_refl _) (Nat.le_refl _) ⟨(congrArg (fun t => some (Value.int (nI t))) (b01_f (by unfold stOk; omega)).symm), rfl⟩
      · skip
        refine ev_b bX4_isRight_166_171 (lv' := [(0, .ref 0), (1, .ref 7), (2, .int (nI (s)))]) (st' := [.int (nI (1))]) (w2 := scrW 0 C ++ saleW 7 S) rfl ?_
        exact ev_zret dX4_isRight_171 rfl rfl (Nat.le_of_ble_eq_true rfl) (Nat.le_refl _) (Nat.le_refl _) ⟨(congrArg (fun t => some (Value.int (nI t))) (b01_t (by unfold stOk; omega)).symm), rfl⟩
  · skip
    refine ev_tableOut (tgt := 172) dX4_isRight_18 (by rw [zI_toInt (by omega) (by omega)]; omega) (by decide) ?_
    refine ev_b bX4_isRight_172_178 (lv' := [(0, .ref 0), (1, .ref 7), (2, .int (nI (s)))]) (st' := [.int (nI (s)), .ref 4, .ref 7]) (w2 := scrW 0 C ++ saleW 7 S) rfl ?_
    refine ev_iald_z (f := C.f1) dX4_isRight_178 rfl (by omega) (by decide) ?_
    refine ev_callVN (Yc := mX3_hasBid) [7, 8, 9, 10, 11, 12, 13, 14] dX4_isRight_179 tn_394 kX3_hasBid (m_X3_hasBid_z S (C.f1 s) hS (by constructor <;> omega)) rfl (st := []) rfl rfl rfl (by decide) hw_Scr0_Sale7__7 (by decide) (Nat.le_of_ble_eq_true rfl) (Nat.le_refl _) (Nat.le_refl _) (fun r w' h => by obtain ⟨-, rfl⟩ := h; exact Nat.le_of_ble_eq_true rfl) ?_
    rintro _ _ ⟨rfl, rfl⟩
    refine ev_eq (lv' := [(0, .ref 0), (1, .ref 7), (2, .int (nI (s)))]) (st' := [.int (nI (b01 (0 ≤ C.f1 s ∧ C.f1 s < ((S.ca : Nat) : Int))))]) (w' := scrW 0 C ++ saleW 7 S) rfl rfl xp_Scr0_Sale7__7 ?_
    refine ev_ifeq_b (tgt := 198) dX4_isRight_182 (by decide) (fun h182 => ?_) (fun h182 => ?_)
    · skip
      refine ev_b bX4_isRight_198_199 (lv' := [(0, .ref 0), (1, .ref 7), (2, .int (nI (s)))]) (st' := [.int (nI (0))]) (w2 := scrW 0 C ++ saleW 7 S) rfl ?_
      exact ev_zret dX4_isRight_199 rfl rfl (Nat.le_of_ble_eq_true rfl) (Nat.le_refl _) (Nat.le_refl _) ⟨(congrArg (fun t => some (Value.int (nI t))) (b01_f (by unfold stOk; omega)).symm), rfl⟩
    · skip
      refine ev_b bX4_isRight_185_190 (lv' := [(0, .ref 0), (1, .ref 7), (2, .int (nI (s)))]) (st' := [.int (nI (s)), .ref 5]) (w2 := scrW 0 C ++ saleW 7 S) rfl ?_
      refine ev_iald_z (f := C.f2) dX4_isRight_190 rfl (by omega) (by decide) ?_
      refine ev_if_le_z (tgt := 198) (by constructor <;> omega) dX4_isRight_191 (by decide) (fun h191 => ?_) (fun h191 => ?_)
      · skip
        refine ev_b bX4_isRight_198_199 (lv' := [(0, .ref 0), (1, .ref 7), (2, .int (nI (s)))]) (st' := [.int (nI (0))]) (w2 := scrW 0 C ++ saleW 7 S) rfl ?_
        exact ev_zret dX4_isRight_199 rfl rfl (Nat.le_of_ble_eq_true rfl) (Nat.le_refl _) (Nat.le_refl _) ⟨(congrArg (fun t => some (Value.int (nI t))) (b01_f (by unfold stOk; omega)).symm), rfl⟩
      · skip
        refine ev_b bX4_isRight_194_199 (lv' := [(0, .ref 0), (1, .ref 7), (2, .int (nI (s)))]) (st' := [.int (nI (1))]) (w2 := scrW 0 C ++ saleW 7 S) rfl ?_
        exact ev_zret dX4_isRight_199 rfl rfl (Nat.le_of_ble_eq_true rfl) (Nat.le_refl _) (Nat.le_refl _) ⟨(congrArg (fun t => some (Value.int (nI t))) (b01_t (by unfold stOk; omega)).symm), rfl⟩
theorem bX4_carryOut_0_1 {l : Launch} {E : XE} : Snd l E mX4_carryOut 0 1 (xs [x_iload 1]) := Snd.cons (snd_iload_n (i := 1) dX4_carryOut_0 rfl) Snd.nil
theorem bX4_carryOut_32_37 {l : Launch} {E : XE} : Snd l E mX4_carryOut 32 37 (xs [x_aload 0, x_iload 2, x_iload 3, x_iload 4]) := Snd.cons (snd_aload_n (i := 0) dX4_carryOut_32 rfl) (Snd.cons (snd_iload_n (i := 2) dX4_carryOut_33 rfl) (Snd.cons (snd_iload_n (i := 3) dX4_carryOut_34 rfl) (Snd.cons (snd_iload dX4_carryOut_35) Snd.nil)))
theorem bX4_carryOut_40_77 {l : Launch} {E : XE} : Snd l E mX4_carryOut 40 77 (xs [x_id]) := Snd.cons (snd_goto (tgt := 77) dX4_carryOut_40 (by decide)) Snd.nil
set_option maxHeartbeats 4000000 in
set_option maxRecDepth 100000 in
theorem m_X4_carryOut_0 {l : Launch} {E : XE} (S : SaleN) (a b c : Nat) (hS : SaleOK S) (hc : S.ca < 10) (ha : a < 5) : MetE l E mX4_carryOut (2) 0 0 [.ref 0, .int (nI (0)), .int (nI (a)), .int (nI (b)), .int (nI (c))] (saleW 0 S) (fun r w' => r = none ∧ w' = saleW 0 ((addS S a b c))) := by
  refine MetE.of (by decide +kernel) (Nat.le_of_ble_eq_true rfl) ?_
  refine ev_eq (lv' := [(0, .ref 0), (1, .int (nI (0))), (2, .int (nI (a))), (3, .int (nI (b))), (4, .int (nI (c)))]) (st' := []) (w' := saleW 0 S) rfl rfl rfl ?_
  refine ev_b bX4_carryOut_0_1 (lv' := [(0, .ref 0), (1, .int (nI (0))), (2, .int (nI (a))), (3, .int (nI (b))), (4, .int (nI (c)))]) (st' := [.int (nI (0))]) (w2 := saleW 0 S) rfl ?_
  refine ev_tableIn (off := 31) (tgt := 32) dX4_carryOut_1 (by decide) (by decide) (by decide) (by decide) ?_
  refine ev_b bX4_carryOut_32_37 (lv' := [(0, .ref 0), (1, .int (nI (0))), (2, .int (nI (a))), (3, .int (nI (b))), (4, .int (nI (c)))]) (st' := [.int (nI (c)), .int (nI (b)), .int (nI (a)), .ref 0]) (w2 := saleW 0 S) rfl ?_
  refine ev_callVN (Yc := mX3_addBid) [0, 1, 2, 3, 4, 5, 6, 7] dX4_carryOut_37 tn_404 kX3_addBid (m_X3_addBid S a b c hS hc ha) rfl (st := []) rfl rfl rfl (by decide) rfl (by decide) (Nat.le_of_ble_eq_true rfl) (Nat.le_refl _) (Nat.le_refl _) (fun r w' h => by obtain ⟨-, rfl⟩ := h; exact Nat.le_of_ble_eq_true rfl) ?_
  rintro _ _ ⟨rfl, rfl⟩
  refine ev_eq (lv' := [(0, .ref 0), (1, .int (nI (0))), (2, .int (nI (a))), (3, .int (nI (b))), (4, .int (nI (c)))]) (st' := []) (w' := saleW 0 ((addS S a b c))) rfl rfl rfl ?_
  refine ev_b bX4_carryOut_40_77 (lv' := [(0, .ref 0), (1, .int (nI (0))), (2, .int (nI (a))), (3, .int (nI (b))), (4, .int (nI (c)))]) (st' := []) (w2 := saleW 0 ((addS S a b c))) rfl ?_
  exact ev_vret dX4_carryOut_77 rfl (Nat.le_of_ble_eq_true rfl) (Nat.le_refl _) (Nat.le_refl _) ⟨rfl, rfl⟩
theorem bX4_carryOut_43_45 {l : Launch} {E : XE} : Snd l E mX4_carryOut 43 45 (xs [x_aload 0, x_iload 2]) := Snd.cons (snd_aload_n (i := 0) dX4_carryOut_43 rfl) (Snd.cons (snd_iload_n (i := 2) dX4_carryOut_44 rfl) Snd.nil)
theorem bX4_carryOut_48_77 {l : Launch} {E : XE} : Snd l E mX4_carryOut 48 77 (xs [x_id]) := Snd.cons (snd_goto (tgt := 77) dX4_carryOut_48 (by decide)) Snd.nil
set_option maxHeartbeats 4000000 in
set_option maxRecDepth 100000 in
theorem m_X4_carryOut_1 {l : Launch} {E : XE} (S : SaleN) (a b c : Nat) (hS : SaleOK S) (ha : a < S.ca) : MetE l E mX4_carryOut (2) 0 0 [.ref 0, .int (nI (1)), .int (nI (a)), .int (nI (b)), .int (nI (c))] (saleW 0 S) (fun r w' => r = none ∧ w' = saleW 0 ((turnS S a))) := by
  refine MetE.of (by decide +kernel) (Nat.le_of_ble_eq_true rfl) ?_
  refine ev_eq (lv' := [(0, .ref 0), (1, .int (nI (1))), (2, .int (nI (a))), (3, .int (nI (b))), (4, .int (nI (c)))]) (st' := []) (w' := saleW 0 S) rfl rfl rfl ?_
  refine ev_b bX4_carryOut_0_1 (lv' := [(0, .ref 0), (1, .int (nI (1))), (2, .int (nI (a))), (3, .int (nI (b))), (4, .int (nI (c)))]) (st' := [.int (nI (1))]) (w2 := saleW 0 S) rfl ?_
  refine ev_tableIn (off := 42) (tgt := 43) dX4_carryOut_1 (by decide) (by decide) (by decide) (by decide) ?_
  refine ev_b bX4_carryOut_43_45 (lv' := [(0, .ref 0), (1, .int (nI (1))), (2, .int (nI (a))), (3, .int (nI (b))), (4, .int (nI (c)))]) (st' := [.int (nI (a)), .ref 0]) (w2 := saleW 0 S) rfl ?_
  refine ev_callVN (Yc := mX3_turnOver) [0, 1, 2, 3, 4, 5, 6, 7] dX4_carryOut_45 tn_410 kX3_turnOver (m_X3_turnOver S a hS ha) rfl (st := []) rfl rfl rfl (by decide) rfl (by decide) (Nat.le_of_ble_eq_true rfl) (Nat.le_refl _) (Nat.le_refl _) (fun r w' h => by obtain ⟨-, rfl⟩ := h; exact Nat.le_of_ble_eq_true rfl) ?_
  rintro _ _ ⟨rfl, rfl⟩
  refine ev_eq (lv' := [(0, .ref 0), (1, .int (nI (1))), (2, .int (nI (a))), (3, .int (nI (b))), (4, .int (nI (c)))]) (st' := []) (w' := saleW 0 ((turnS S a))) rfl rfl rfl ?_
  refine ev_b bX4_carryOut_48_77 (lv' := [(0, .ref 0), (1, .int (nI (1))), (2, .int (nI (a))), (3, .int (nI (b))), (4, .int (nI (c)))]) (st' := []) (w2 := saleW 0 ((turnS S a))) rfl ?_
  exact ev_vret dX4_carryOut_77 rfl (Nat.le_of_ble_eq_true rfl) (Nat.le_refl _) (Nat.le_refl _) ⟨rfl, rfl⟩
theorem bX4_carryOut_51_56 {l : Launch} {E : XE} : Snd l E mX4_carryOut 51 56 (xs [x_aload 0, x_iload 2, x_iload 3, x_iload 4]) := Snd.cons (snd_aload_n (i := 0) dX4_carryOut_51 rfl) (Snd.cons (snd_iload_n (i := 2) dX4_carryOut_52 rfl) (Snd.cons (snd_iload_n (i := 3) dX4_carryOut_53 rfl) (Snd.cons (snd_iload dX4_carryOut_54) Snd.nil)))
theorem bX4_carryOut_59_77 {l : Launch} {E : XE} : Snd l E mX4_carryOut 59 77 (xs [x_id]) := Snd.cons (snd_goto (tgt := 77) dX4_carryOut_59 (by decide)) Snd.nil
set_option maxHeartbeats 4000000 in
set_option maxRecDepth 100000 in
theorem m_X4_carryOut_2 {l : Launch} {E : XE} (S : SaleN) (a b c : Nat) (hS : SaleOK S) (ha : a < 5) : MetE l E mX4_carryOut (2) 0 0 [.ref 0, .int (nI (2)), .int (nI (a)), .int (nI (b)), .int (nI (c))] (saleW 0 S) (fun r w' => r = none ∧ w' = saleW 0 ((kindS S a b c))) := by
  refine MetE.of (by decide +kernel) (Nat.le_of_ble_eq_true rfl) ?_
  refine ev_eq (lv' := [(0, .ref 0), (1, .int (nI (2))), (2, .int (nI (a))), (3, .int (nI (b))), (4, .int (nI (c)))]) (st' := []) (w' := saleW 0 S) rfl rfl rfl ?_
  refine ev_b bX4_carryOut_0_1 (lv' := [(0, .ref 0), (1, .int (nI (2))), (2, .int (nI (a))), (3, .int (nI (b))), (4, .int (nI (c)))]) (st' := [.int (nI (2))]) (w2 := saleW 0 S) rfl ?_
  refine ev_tableIn (off := 50) (tgt := 51) dX4_carryOut_1 (by decide) (by decide) (by decide) (by decide) ?_
  refine ev_b bX4_carryOut_51_56 (lv' := [(0, .ref 0), (1, .int (nI (2))), (2, .int (nI (a))), (3, .int (nI (b))), (4, .int (nI (c)))]) (st' := [.int (nI (c)), .int (nI (b)), .int (nI (a)), .ref 0]) (w2 := saleW 0 S) rfl ?_
  refine ev_callVN (Yc := mX3_setKind) [0, 1, 2, 3, 4, 5, 6, 7] dX4_carryOut_56 tn_415 kX3_setKind (m_X3_setKind S a b c ha) rfl (st := []) rfl rfl rfl (by decide) rfl (by decide) (Nat.le_of_ble_eq_true rfl) (Nat.le_refl _) (Nat.le_refl _) (fun r w' h => by obtain ⟨-, rfl⟩ := h; exact Nat.le_of_ble_eq_true rfl) ?_
  rintro _ _ ⟨rfl, rfl⟩
  refine ev_eq (lv' := [(0, .ref 0), (1, .int (nI (2))), (2, .int (nI (a))), (3, .int (nI (b))), (4, .int (nI (c)))]) (st' := []) (w' := saleW 0 ((kindS S a b c))) rfl rfl rfl ?_
  refine ev_b bX4_carryOut_59_77 (lv' := [(0, .ref 0), (1, .int (nI (2))), (2, .int (nI (a))), (3, .int (nI (b))), (4, .int (nI (c)))]) (st' := []) (w2 := saleW 0 ((kindS S a b c))) rfl ?_
  exact ev_vret dX4_carryOut_77 rfl (Nat.le_of_ble_eq_true rfl) (Nat.le_refl _) (Nat.le_refl _) ⟨rfl, rfl⟩
theorem bX4_carryOut_62_65 {l : Launch} {E : XE} : Snd l E mX4_carryOut 62 65 (xs [x_aload 0, x_iload 2, x_iload 3]) := Snd.cons (snd_aload_n (i := 0) dX4_carryOut_62 rfl) (Snd.cons (snd_iload_n (i := 2) dX4_carryOut_63 rfl) (Snd.cons (snd_iload_n (i := 3) dX4_carryOut_64 rfl) Snd.nil))
theorem bX4_carryOut_68_77 {l : Launch} {E : XE} : Snd l E mX4_carryOut 68 77 (xs [x_id]) := Snd.cons (snd_goto (tgt := 77) dX4_carryOut_68 (by decide)) Snd.nil
set_option maxHeartbeats 4000000 in
set_option maxRecDepth 100000 in
theorem m_X4_carryOut_3 {l : Launch} {E : XE} (S : SaleN) (a b c : Nat) (hS : SaleOK S) (ha : a < 6) : MetE l E mX4_carryOut (2) 0 0 [.ref 0, .int (nI (3)), .int (nI (a)), .int (nI (b)), .int (nI (c))] (saleW 0 S) (fun r w' => r = none ∧ w' = saleW 0 ((keepS S a b))) := by
  refine MetE.of (by decide +kernel) (Nat.le_of_ble_eq_true rfl) ?_
  refine ev_eq (lv' := [(0, .ref 0), (1, .int (nI (3))), (2, .int (nI (a))), (3, .int (nI (b))), (4, .int (nI (c)))]) (st' := []) (w' := saleW 0 S) rfl rfl rfl ?_
  refine ev_b bX4_carryOut_0_1 (lv' := [(0, .ref 0), (1, .int (nI (3))), (2, .int (nI (a))), (3, .int (nI (b))), (4, .int (nI (c)))]) (st' := [.int (nI (3))]) (w2 := saleW 0 S) rfl ?_
  refine ev_tableIn (off := 61) (tgt := 62) dX4_carryOut_1 (by decide) (by decide) (by decide) (by decide) ?_
  refine ev_b bX4_carryOut_62_65 (lv' := [(0, .ref 0), (1, .int (nI (3))), (2, .int (nI (a))), (3, .int (nI (b))), (4, .int (nI (c)))]) (st' := [.int (nI (b)), .int (nI (a)), .ref 0]) (w2 := saleW 0 S) rfl ?_
  refine ev_callVN (Yc := mX3_setReserve) [0, 1, 2, 3, 4, 5, 6, 7] dX4_carryOut_65 tn_419 kX3_setReserve (m_X3_setReserve S a b ha) rfl (st := []) rfl rfl rfl (by decide) rfl (by decide) (Nat.le_of_ble_eq_true rfl) (Nat.le_refl _) (Nat.le_refl _) (fun r w' h => by obtain ⟨-, rfl⟩ := h; exact Nat.le_of_ble_eq_true rfl) ?_
  rintro _ _ ⟨rfl, rfl⟩
  refine ev_eq (lv' := [(0, .ref 0), (1, .int (nI (3))), (2, .int (nI (a))), (3, .int (nI (b))), (4, .int (nI (c)))]) (st' := []) (w' := saleW 0 ((keepS S a b))) rfl rfl rfl ?_
  refine ev_b bX4_carryOut_68_77 (lv' := [(0, .ref 0), (1, .int (nI (3))), (2, .int (nI (a))), (3, .int (nI (b))), (4, .int (nI (c)))]) (st' := []) (w2 := saleW 0 ((keepS S a b))) rfl ?_
  exact ev_vret dX4_carryOut_77 rfl (Nat.le_of_ble_eq_true rfl) (Nat.le_refl _) (Nat.le_refl _) ⟨rfl, rfl⟩
theorem bX4_carryOut_71_74 {l : Launch} {E : XE} : Snd l E mX4_carryOut 71 74 (xs [x_aload 0, x_iload 2, x_iload 3]) := Snd.cons (snd_aload_n (i := 0) dX4_carryOut_71 rfl) (Snd.cons (snd_iload_n (i := 2) dX4_carryOut_72 rfl) (Snd.cons (snd_iload_n (i := 3) dX4_carryOut_73 rfl) Snd.nil))
set_option maxHeartbeats 4000000 in
set_option maxRecDepth 100000 in
theorem m_X4_carryOut_4 {l : Launch} {E : XE} (S : SaleN) (a b c : Nat) (hS : SaleOK S) (ha : a < S.ca) : MetE l E mX4_carryOut (2) 0 0 [.ref 0, .int (nI (4)), .int (nI (a)), .int (nI (b)), .int (nI (c))] (saleW 0 S) (fun r w' => r = none ∧ w' = saleW 0 ((priceS S a b))) := by
  refine MetE.of (by decide +kernel) (Nat.le_of_ble_eq_true rfl) ?_
  refine ev_eq (lv' := [(0, .ref 0), (1, .int (nI (4))), (2, .int (nI (a))), (3, .int (nI (b))), (4, .int (nI (c)))]) (st' := []) (w' := saleW 0 S) rfl rfl rfl ?_
  refine ev_b bX4_carryOut_0_1 (lv' := [(0, .ref 0), (1, .int (nI (4))), (2, .int (nI (a))), (3, .int (nI (b))), (4, .int (nI (c)))]) (st' := [.int (nI (4))]) (w2 := saleW 0 S) rfl ?_
  refine ev_tableOut (tgt := 71) dX4_carryOut_1 (by decide) (by decide) ?_
  refine ev_b bX4_carryOut_71_74 (lv' := [(0, .ref 0), (1, .int (nI (4))), (2, .int (nI (a))), (3, .int (nI (b))), (4, .int (nI (c)))]) (st' := [.int (nI (b)), .int (nI (a)), .ref 0]) (w2 := saleW 0 S) rfl ?_
  refine ev_callVN (Yc := mX3_setPrice) [0, 1, 2, 3, 4, 5, 6, 7] dX4_carryOut_74 tn_424 kX3_setPrice (m_X3_setPrice S a b hS ha) rfl (st := []) rfl rfl rfl (by decide) rfl (by decide) (Nat.le_of_ble_eq_true rfl) (Nat.le_refl _) (Nat.le_refl _) (fun r w' h => by obtain ⟨-, rfl⟩ := h; exact Nat.le_of_ble_eq_true rfl) ?_
  rintro _ _ ⟨rfl, rfl⟩
  refine ev_eq (lv' := [(0, .ref 0), (1, .int (nI (4))), (2, .int (nI (a))), (3, .int (nI (b))), (4, .int (nI (c)))]) (st' := []) (w' := saleW 0 ((priceS S a b))) rfl rfl rfl ?_
  exact ev_vret dX4_carryOut_77 rfl (Nat.le_of_ble_eq_true rfl) (Nat.le_refl _) (Nat.le_refl _) ⟨rfl, rfl⟩
