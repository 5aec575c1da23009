theorem bX7_count_122_127 {l : Launch} {E : XE} : Snd l E mX7_count 122 127 (xs [x_iload 1, x_push (.int (nI 11)), x_push (.int (nI 16))]) := Snd.cons (snd_iload_n (i := 1) dX7_count_122 rfl) (Snd.cons (snd_bipush (v := nI 11) dX7_count_123 (by decide)) (Snd.cons (snd_bipush (v := nI 16) dX7_count_125 (by decide)) Snd.nil))
theorem bX7_count_133_140 {l : Launch} {E : XE} : Snd l E mX7_count 133 140 (xs [x_aload 0, x_get 8 8, x_iload 1, x_push (.int (nI 10))]) := Snd.cons (snd_aload_n (i := 0) dX7_count_133 rfl) (Snd.cons (snd_get (ci := 8) (k := 8) dX7_count_134 rfl inX7 (by decide) tw_922) (Snd.cons (snd_iload_n (i := 1) dX7_count_137 rfl) (Snd.cons (snd_bipush (v := nI 10) dX7_count_138 (by decide)) Snd.nil)))
theorem bX7_count_142_147 {l : Launch} {E : XE} : Snd l E mX7_count 142 147 (xs [x_id]) := Snd.cons (snd_goto (tgt := 147) dX7_count_142 (by decide)) Snd.nil
set_option maxHeartbeats 4000000 in
set_option maxRecDepth 100000 in
theorem q_count_w11 {l : Launch} {E : XE} (S : SaleN) (X : ModN) (K : Option (Nat → Nat))  (hS : SaleOK S) (hM : MOK S X)  : MetE l E mX7_count (1) 0 0 [.ref 0, .int (nI (11))] (modW 0 S X K) (MP S K (X.lt) (X.ty) (X.rr) (X.rn) (X.rf) (some (.int (nI (X.rf 1))))) := by
  refine MetE.of (by decide +kernel) (Nat.le_of_ble_eq_true rfl) ?_
  have hca := hS.1
  have hpw := pow_ca hS
  have hac := ac_lt hS
  have hshl := shl_le hS
  
  refine ev_eq (lv' := [(0, .ref 0), (1, .int (nI (11)))]) (st' := []) (w' := modW 0 S X K) rfl rfl rfl ?_
  refine ev_b bX7_count_0_1 (lv' := [(0, .ref 0), (1, .int (nI (11)))]) (st' := [.int (nI (11))]) (w2 := modW 0 S X K) rfl ?_
  refine ev_tableOut (tgt := 122) dX7_count_1 (by decide) (by decide) ?_
  refine ev_b bX7_count_122_127 (lv' := [(0, .ref 0), (1, .int (nI (11)))]) (st' := [.int (nI (16)), .int (nI (11)), .int (nI (11))]) (w2 := modW 0 S X K) rfl ?_
  refine ev_callS (Yc := mX7_isIn) [] dX7_count_127 tw_1036 kX7_isIn (m_X7_isIn_n 11 11 16 (by decide) (by decide) (by decide)) rfl (st := []) rfl (by decide) rfl (by decide) (Nat.le_of_ble_eq_true rfl) (Nat.le_refl _) (Nat.le_refl _) (fun r w' h => by obtain ⟨-, rfl⟩ := h; exact Nat.le_of_ble_eq_true rfl) ?_
  rintro _ _ ⟨rfl, rfl⟩
  refine ev_eq (lv' := [(0, .ref 0), (1, .int (nI (11)))]) (st' := [.int (nI (b01 (11 ≤ 11 ∧ 11 ≤ 16)))]) (w' := modW 0 S X K) rfl rfl rfl ?_
  refine ev_ifeq_b (tgt := 145) dX7_count_130 (by decide) (fun h130 => (by exfalso; omega)) (fun h130 => ?_)
  refine ev_b bX7_count_133_140 (lv' := [(0, .ref 0), (1, .int (nI (11)))]) (st' := [.int (nI (10)), .int (nI (11)), .ref 7]) (w2 := modW 0 S X K) rfl ?_
  refine ev_isub_n (by omega) dX7_count_140 ?_
  refine ev_iald_n (f := X.rf) dX7_count_141 rfl (by omega) (by decide) ?_
  refine ev_b bX7_count_142_147 (lv' := [(0, .ref 0), (1, .int (nI (11)))]) (st' := [.int (nI (X.rf (11 - 10)))]) (w2 := modW 0 S X K) rfl ?_
  exact ev_iret dX7_count_147 rfl mod_le (Nat.le_refl _) (Nat.le_refl _) ⟨rfl, _, rfl, hM, rfl, rfl, rfl, rfl, rfl⟩
set_option maxHeartbeats 4000000 in
set_option maxRecDepth 100000 in
theorem q_count_w12 {l : Launch} {E : XE} (S : SaleN) (X : ModN) (K : Option (Nat → Nat))  (hS : SaleOK S) (hM : MOK S X)  : MetE l E mX7_count (1) 0 0 [.ref 0, .int (nI (12))] (modW 0 S X K) (MP S K (X.lt) (X.ty) (X.rr) (X.rn) (X.rf) (some (.int (nI (X.rf 2))))) := by
  refine MetE.of (by decide +kernel) (Nat.le_of_ble_eq_true rfl) ?_
  have hca := hS.1
  have hpw := pow_ca hS
  have hac := ac_lt hS
  have hshl := shl_le hS
  
  refine ev_eq (lv' := [(0, .ref 0), (1, .int (nI (12)))]) (st' := []) (w' := modW 0 S X K) rfl rfl rfl ?_
  refine ev_b bX7_count_0_1 (lv' := [(0, .ref 0), (1, .int (nI (12)))]) (st' := [.int (nI (12))]) (w2 := modW 0 S X K) rfl ?_
  refine ev_tableOut (tgt := 122) dX7_count_1 (by decide) (by decide) ?_
  refine ev_b bX7_count_122_127 (lv' := [(0, .ref 0), (1, .int (nI (12)))]) (st' := [.int (nI (16)), .int (nI (11)), .int (nI (12))]) (w2 := modW 0 S X K) rfl ?_
  refine ev_callS (Yc := mX7_isIn) [] dX7_count_127 tw_1036 kX7_isIn (m_X7_isIn_n 12 11 16 (by decide) (by decide) (by decide)) rfl (st := []) rfl (by decide) rfl (by decide) (Nat.le_of_ble_eq_true rfl) (Nat.le_refl _) (Nat.le_refl _) (fun r w' h => by obtain ⟨-, rfl⟩ := h; exact Nat.le_of_ble_eq_true rfl) ?_
  rintro _ _ ⟨rfl, rfl⟩
  refine ev_eq (lv' := [(0, .ref 0), (1, .int (nI (12)))]) (st' := [.int (nI (b01 (11 ≤ 12 ∧ 12 ≤ 16)))]) (w' := modW 0 S X K) rfl rfl rfl ?_
  refine ev_ifeq_b (tgt := 145) dX7_count_130 (by decide) (fun h130 => (by exfalso; omega)) (fun h130 => ?_)
  refine ev_b bX7_count_133_140 (lv' := [(0, .ref 0), (1, .int (nI (12)))]) (st' := [.int (nI (10)), .int (nI (12)), .ref 7]) (w2 := modW 0 S X K) rfl ?_
  refine ev_isub_n (by omega) dX7_count_140 ?_
  refine ev_iald_n (f := X.rf) dX7_count_141 rfl (by omega) (by decide) ?_
  refine ev_b bX7_count_142_147 (lv' := [(0, .ref 0), (1, .int (nI (12)))]) (st' := [.int (nI (X.rf (12 - 10)))]) (w2 := modW 0 S X K) rfl ?_
  exact ev_iret dX7_count_147 rfl mod_le (Nat.le_refl _) (Nat.le_refl _) ⟨rfl, _, rfl, hM, rfl, rfl, rfl, rfl, rfl⟩
set_option maxHeartbeats 4000000 in
set_option maxRecDepth 100000 in
theorem q_count_w13 {l : Launch} {E : XE} (S : SaleN) (X : ModN) (K : Option (Nat → Nat))  (hS : SaleOK S) (hM : MOK S X)  : MetE l E mX7_count (1) 0 0 [.ref 0, .int (nI (13))] (modW 0 S X K) (MP S K (X.lt) (X.ty) (X.rr) (X.rn) (X.rf) (some (.int (nI (X.rf 3))))) := by
  refine MetE.of (by decide +kernel) (Nat.le_of_ble_eq_true rfl) ?_
  have hca := hS.1
  have hpw := pow_ca hS
  have hac := ac_lt hS
  have hshl := shl_le hS
  
  refine ev_eq (lv' := [(0, .ref 0), (1, .int (nI (13)))]) (st' := []) (w' := modW 0 S X K) rfl rfl rfl ?_
  refine ev_b bX7_count_0_1 (lv' := [(0, .ref 0), (1, .int (nI (13)))]) (st' := [.int (nI (13))]) (w2 := modW 0 S X K) rfl ?_
  refine ev_tableOut (tgt := 122) dX7_count_1 (by decide) (by decide) ?_
  refine ev_b bX7_count_122_127 (lv' := [(0, .ref 0), (1, .int (nI (13)))]) (st' := [.int (nI (16)), .int (nI (11)), .int (nI (13))]) (w2 := modW 0 S X K) rfl ?_
  refine ev_callS (Yc := mX7_isIn) [] dX7_count_127 tw_1036 kX7_isIn (m_X7_isIn_n 13 11 16 (by decide) (by decide) (by decide)) rfl (st := []) rfl (by decide) rfl (by decide) (Nat.le_of_ble_eq_true rfl) (Nat.le_refl _) (Nat.le_refl _) (fun r w' h => by obtain ⟨-, rfl⟩ := h; exact Nat.le_of_ble_eq_true rfl) ?_
  rintro _ _ ⟨rfl, rfl⟩
  refine ev_eq (lv' := [(0, .ref 0), (1, .int (nI (13)))]) (st' := [.int (nI (b01 (11 ≤ 13 ∧ 13 ≤ 16)))]) (w' := modW 0 S X K) rfl rfl rfl ?_
  refine ev_ifeq_b (tgt := 145) dX7_count_130 (by decide) (fun h130 => (by exfalso; omega)) (fun h130 => ?_)
  refine ev_b bX7_count_133_140 (lv' := [(0, .ref 0), (1, .int (nI (13)))]) (st' := [.int (nI (10)), .int (nI (13)), .ref 7]) (w2 := modW 0 S X K) rfl ?_
  refine ev_isub_n (by omega) dX7_count_140 ?_
  refine ev_iald_n (f := X.rf) dX7_count_141 rfl (by omega) (by decide) ?_
  refine ev_b bX7_count_142_147 (lv' := [(0, .ref 0), (1, .int (nI (13)))]) (st' := [.int (nI (X.rf (13 - 10)))]) (w2 := modW 0 S X K) rfl ?_
  exact ev_iret dX7_count_147 rfl mod_le (Nat.le_refl _) (Nat.le_refl _) ⟨rfl, _, rfl, hM, rfl, rfl, rfl, rfl, rfl⟩
set_option maxHeartbeats 4000000 in
set_option maxRecDepth 100000 in
theorem q_count_w14 {l : Launch} {E : XE} (S : SaleN) (X : ModN) (K : Option (Nat → Nat))  (hS : SaleOK S) (hM : MOK S X)  : MetE l E mX7_count (1) 0 0 [.ref 0, .int (nI (14))] (modW 0 S X K) (MP S K (X.lt) (X.ty) (X.rr) (X.rn) (X.rf) (some (.int (nI (X.rf 4))))) := by
  refine MetE.of (by decide +kernel) (Nat.le_of_ble_eq_true rfl) ?_
  have hca := hS.1
  have hpw := pow_ca hS
  have hac := ac_lt hS
  have hshl := shl_le hS
  
  refine ev_eq (lv' := [(0, .ref 0), (1, .int (nI (14)))]) (st' := []) (w' := modW 0 S X K) rfl rfl rfl ?_
  refine ev_b bX7_count_0_1 (lv' := [(0, .ref 0), (1, .int (nI (14)))]) (st' := [.int (nI (14))]) (w2 := modW 0 S X K) rfl ?_
  refine ev_tableOut (tgt := 122) dX7_count_1 (by decide) (by decide) ?_
  refine ev_b bX7_count_122_127 (lv' := [(0, .ref 0), (1, .int (nI (14)))]) (st' := [.int (nI (16)), .int (nI (11)), .int (nI (14))]) (w2 := modW 0 S X K) rfl ?_
  refine ev_callS (Yc := mX7_isIn) [] dX7_count_127 tw_1036 kX7_isIn (m_X7_isIn_n 14 11 16 (by decide) (by decide) (by decide)) rfl (st := []) rfl (by decide) rfl (by decide) (Nat.le_of_ble_eq_true rfl) (Nat.le_refl _) (Nat.le_refl _) (fun r w' h => by obtain ⟨-, rfl⟩ := h; exact Nat.le_of_ble_eq_true rfl) ?_
  rintro _ _ ⟨rfl, rfl⟩
  refine ev_eq (lv' := [(0, .ref 0), (1, .int (nI (14)))]) (st' := [.int (nI (b01 (11 ≤ 14 ∧ 14 ≤ 16)))]) (w' := modW 0 S X K) rfl rfl rfl ?_
  refine ev_ifeq_b (tgt := 145) dX7_count_130 (by decide) (fun h130 => (by exfalso; omega)) (fun h130 => ?_)
  refine ev_b bX7_count_133_140 (lv' := [(0, .ref 0), (1, .int (nI (14)))]) (st' := [.int (nI (10)), .int (nI (14)), .ref 7]) (w2 := modW 0 S X K) rfl ?_
  refine ev_isub_n (by omega) dX7_count_140 ?_
  refine ev_iald_n (f := X.rf) dX7_count_141 rfl (by omega) (by decide) ?_
  refine ev_b bX7_count_142_147 (lv' := [(0, .ref 0), (1, .int (nI (14)))]) (st' := [.int (nI (X.rf (14 - 10)))]) (w2 := modW 0 S X K) rfl ?_
  exact ev_iret dX7_count_147 rfl mod_le (Nat.le_refl _) (Nat.le_refl _) ⟨rfl, _, rfl, hM, rfl, rfl, rfl, rfl, rfl⟩
set_option maxHeartbeats 4000000 in
set_option maxRecDepth 100000 in
theorem q_count_w15 {l : Launch} {E : XE} (S : SaleN) (X : ModN) (K : Option (Nat → Nat))  (hS : SaleOK S) (hM : MOK S X)  : MetE l E mX7_count (1) 0 0 [.ref 0, .int (nI (15))] (modW 0 S X K) (MP S K (X.lt) (X.ty) (X.rr) (X.rn) (X.rf) (some (.int (nI (X.rf 5))))) := by
  refine MetE.of (by decide +kernel) (Nat.le_of_ble_eq_true rfl) ?_
  have hca := hS.1
  have hpw := pow_ca hS
  have hac := ac_lt hS
  have hshl := shl_le hS
  
  refine ev_eq (lv' := [(0, .ref 0), (1, .int (nI (15)))]) (st' := []) (w' := modW 0 S X K) rfl rfl rfl ?_
  refine ev_b bX7_count_0_1 (lv' := [(0, .ref 0), (1, .int (nI (15)))]) (st' := [.int (nI (15))]) (w2 := modW 0 S X K) rfl ?_
  refine ev_tableOut (tgt := 122) dX7_count_1 (by decide) (by decide) ?_
  refine ev_b bX7_count_122_127 (lv' := [(0, .ref 0), (1, .int (nI (15)))]) (st' := [.int (nI (16)), .int (nI (11)), .int (nI (15))]) (w2 := modW 0 S X K) rfl ?_
  refine ev_callS (Yc := mX7_isIn) [] dX7_count_127 tw_1036 kX7_isIn (m_X7_isIn_n 15 11 16 (by decide) (by decide) (by decide)) rfl (st := []) rfl (by decide) rfl (by decide) (Nat.le_of_ble_eq_true rfl) (Nat.le_refl _) (Nat.le_refl _) (fun r w' h => by obtain ⟨-, rfl⟩ := h; exact Nat.le_of_ble_eq_true rfl) ?_
  rintro _ _ ⟨rfl, rfl⟩
  refine ev_eq (lv' := [(0, .ref 0), (1, .int (nI (15)))]) (st' := [.int (nI (b01 (11 ≤ 15 ∧ 15 ≤ 16)))]) (w' := modW 0 S X K) rfl rfl rfl ?_
  refine ev_ifeq_b (tgt := 145) dX7_count_130 (by decide) (fun h130 => (by exfalso; omega)) (fun h130 => ?_)
  refine ev_b bX7_count_133_140 (lv' := [(0, .ref 0), (1, .int (nI (15)))]) (st' := [.int (nI (10)), .int (nI (15)), .ref 7]) (w2 := modW 0 S X K) rfl ?_
  refine ev_isub_n (by omega) dX7_count_140 ?_
  refine ev_iald_n (f := X.rf) dX7_count_141 rfl (by omega) (by decide) ?_
  refine ev_b bX7_count_142_147 (lv' := [(0, .ref 0), (1, .int (nI (15)))]) (st' := [.int (nI (X.rf (15 - 10)))]) (w2 := modW 0 S X K) rfl ?_
  exact ev_iret dX7_count_147 rfl mod_le (Nat.le_refl _) (Nat.le_refl _) ⟨rfl, _, rfl, hM, rfl, rfl, rfl, rfl, rfl⟩
set_option maxHeartbeats 4000000 in
set_option maxRecDepth 100000 in
theorem q_count_w16 {l : Launch} {E : XE} (S : SaleN) (X : ModN) (K : Option (Nat → Nat))  (hS : SaleOK S) (hM : MOK S X)  : MetE l E mX7_count (1) 0 0 [.ref 0, .int (nI (16))] (modW 0 S X K) (MP S K (X.lt) (X.ty) (X.rr) (X.rn) (X.rf) (some (.int (nI (X.rf 6))))) := by
  refine MetE.of (by decide +kernel) (Nat.le_of_ble_eq_true rfl) ?_
  have hca := hS.1
  have hpw := pow_ca hS
  have hac := ac_lt hS
  have hshl := shl_le hS
  
  refine ev_eq (lv' := [(0, .ref 0), (1, .int (nI (16)))]) (st' := []) (w' := modW 0 S X K) rfl rfl rfl ?_
  refine ev_b bX7_count_0_1 (lv' := [(0, .ref 0), (1, .int (nI (16)))]) (st' := [.int (nI (16))]) (w2 := modW 0 S X K) rfl ?_
  refine ev_tableOut (tgt := 122) dX7_count_1 (by decide) (by decide) ?_
  refine ev_b bX7_count_122_127 (lv' := [(0, .ref 0), (1, .int (nI (16)))]) (st' := [.int (nI (16)), .int (nI (11)), .int (nI (16))]) (w2 := modW 0 S X K) rfl ?_
  refine ev_callS (Yc := mX7_isIn) [] dX7_count_127 tw_1036 kX7_isIn (m_X7_isIn_n 16 11 16 (by decide) (by decide) (by decide)) rfl (st := []) rfl (by decide) rfl (by decide) (Nat.le_of_ble_eq_true rfl) (Nat.le_refl _) (Nat.le_refl _) (fun r w' h => by obtain ⟨-, rfl⟩ := h; exact Nat.le_of_ble_eq_true rfl) ?_
  rintro _ _ ⟨rfl, rfl⟩
  refine ev_eq (lv' := [(0, .ref 0), (1, .int (nI (16)))]) (st' := [.int (nI (b01 (11 ≤ 16 ∧ 16 ≤ 16)))]) (w' := modW 0 S X K) rfl rfl rfl ?_
  refine ev_ifeq_b (tgt := 145) dX7_count_130 (by decide) (fun h130 => (by exfalso; omega)) (fun h130 => ?_)
  refine ev_b bX7_count_133_140 (lv' := [(0, .ref 0), (1, .int (nI (16)))]) (st' := [.int (nI (10)), .int (nI (16)), .ref 7]) (w2 := modW 0 S X K) rfl ?_
  refine ev_isub_n (by omega) dX7_count_140 ?_
  refine ev_iald_n (f := X.rf) dX7_count_141 rfl (by omega) (by decide) ?_
  refine ev_b bX7_count_142_147 (lv' := [(0, .ref 0), (1, .int (nI (16)))]) (st' := [.int (nI (X.rf (16 - 10)))]) (w2 := modW 0 S X K) rfl ?_
  exact ev_iret dX7_count_147 rfl mod_le (Nat.le_refl _) (Nat.le_refl _) ⟨rfl, _, rfl, hM, rfl, rfl, rfl, rfl, rfl⟩
theorem bX7_count_145_147 {l : Launch} {E : XE} : Snd l E mX7_count 145 147 (xs [x_push (.int (-9))]) := Snd.cons (snd_bipush (v := -9) dX7_count_145 (by decide)) Snd.nil
set_option maxHeartbeats 4000000 in
set_option maxRecDepth 100000 in
theorem q_count_oth1 {l : Launch} {E : XE} (S : SaleN) (X : ModN) (K : Option (Nat → Nat)) (z : Int) (hS : SaleOK S) (hM : MOK S X) (rz : -2147483648 ≤ z ∧ z < 2147483648) (h : z < 0 ∨ (6 < z ∧ z < 11)) : MetE l E mX7_count (1) 0 0 [.ref 0, .int (zI (z))] (modW 0 S X K) (MP S K (X.lt) (X.ty) (X.rr) (X.rn) (X.rf) (some (.int (-9)))) := by
  refine MetE.of (by decide +kernel) (Nat.le_of_ble_eq_true rfl) ?_
  have hca := hS.1
  have hpw := pow_ca hS
  have hac := ac_lt hS
  have hshl := shl_le hS
  
  refine ev_eq (lv' := [(0, .ref 0), (1, .int (zI (z)))]) (st' := []) (w' := modW 0 S X K) rfl rfl rfl ?_
  refine ev_b bX7_count_0_1 (lv' := [(0, .ref 0), (1, .int (zI (z)))]) (st' := [.int (zI (z))]) (w2 := modW 0 S X K) rfl ?_
  refine ev_tableOut (tgt := 122) dX7_count_1 (by rw [zI_toInt (by omega) (by omega)]; omega) (by decide) ?_
  refine ev_b bX7_count_122_127 (lv' := [(0, .ref 0), (1, .int (zI (z)))]) (st' := [.int (nI (16)), .int (nI (11)), .int (zI (z))]) (w2 := modW 0 S X K) rfl ?_
  refine ev_callS (Yc := mX7_isIn) [] dX7_count_127 tw_1036 kX7_isIn (m_X7_isIn_z z 11 16 rz (by decide) (by decide)) rfl (st := []) rfl (by decide) rfl (by decide) (Nat.le_of_ble_eq_true rfl) (Nat.le_refl _) (Nat.le_refl _) (fun r w' h => by obtain ⟨-, rfl⟩ := h; exact Nat.le_of_ble_eq_true rfl) ?_
  rintro _ _ ⟨rfl, rfl⟩
  refine ev_eq (lv' := [(0, .ref 0), (1, .int (zI (z)))]) (st' := [.int (nI (b01 (((11 : Nat) : Int) ≤ z ∧ z ≤ ((16 : Nat) : Int))))]) (w' := modW 0 S X K) rfl rfl rfl ?_
  refine ev_ifeq_b (tgt := 145) dX7_count_130 (by decide) (fun h130 => ?_) (fun h130 => (by exfalso; omega))
  refine ev_b bX7_count_145_147 (lv' := [(0, .ref 0), (1, .int (zI (z)))]) (st' := [.int (-9)]) (w2 := modW 0 S X K) rfl ?_
  exact ev_iret dX7_count_147 rfl mod_le (Nat.le_refl _) (Nat.le_refl _) ⟨rfl, _, rfl, hM, rfl, rfl, rfl, rfl, rfl⟩
set_option maxHeartbeats 4000000 in
set_option maxRecDepth 100000 in
theorem q_count_oth2 {l : Launch} {E : XE} (S : SaleN) (X : ModN) (K : Option (Nat → Nat)) (z : Int) (hS : SaleOK S) (hM : MOK S X) (rz : -2147483648 ≤ z ∧ z < 2147483648) (h : 16 < z) : MetE l E mX7_count (1) 0 0 [.ref 0, .int (zI (z))] (modW 0 S X K) (MP S K (X.lt) (X.ty) (X.rr) (X.rn) (X.rf) (some (.int (-9)))) := by
  refine MetE.of (by decide +kernel) (Nat.le_of_ble_eq_true rfl) ?_
  have hca := hS.1
  have hpw := pow_ca hS
  have hac := ac_lt hS
  have hshl := shl_le hS
  
  refine ev_eq (lv' := [(0, .ref 0), (1, .int (zI (z)))]) (st' := []) (w' := modW 0 S X K) rfl rfl rfl ?_
  refine ev_b bX7_count_0_1 (lv' := [(0, .ref 0), (1, .int (zI (z)))]) (st' := [.int (zI (z))]) (w2 := modW 0 S X K) rfl ?_
  refine ev_tableOut (tgt := 122) dX7_count_1 (by rw [zI_toInt (by omega) (by omega)]; omega) (by decide) ?_
  refine ev_b bX7_count_122_127 (lv' := [(0, .ref 0), (1, .int (zI (z)))]) (st' := [.int (nI (16)), .int (nI (11)), .int (zI (z))]) (w2 := modW 0 S X K) rfl ?_
  refine ev_callS (Yc := mX7_isIn) [] dX7_count_127 tw_1036 kX7_isIn (m_X7_isIn_z z 11 16 rz (by decide) (by decide)) rfl (st := []) rfl (by decide) rfl (by decide) (Nat.le_of_ble_eq_true rfl) (Nat.le_refl _) (Nat.le_refl _) (fun r w' h => by obtain ⟨-, rfl⟩ := h; exact Nat.le_of_ble_eq_true rfl) ?_
  rintro _ _ ⟨rfl, rfl⟩
  refine ev_eq (lv' := [(0, .ref 0), (1, .int (zI (z)))]) (st' := [.int (nI (b01 (((11 : Nat) : Int) ≤ z ∧ z ≤ ((16 : Nat) : Int))))]) (w' := modW 0 S X K) rfl rfl rfl ?_
  refine ev_ifeq_b (tgt := 145) dX7_count_130 (by decide) (fun h130 => ?_) (fun h130 => (by exfalso; omega))
  refine ev_b bX7_count_145_147 (lv' := [(0, .ref 0), (1, .int (zI (z)))]) (st' := [.int (-9)]) (w2 := modW 0 S X K) rfl ?_
  exact ev_iret dX7_count_147 rfl mod_le (Nat.le_refl _) (Nat.le_refl _) ⟨rfl, _, rfl, hM, rfl, rfl, rfl, rfl, rfl⟩
