/-! ===== strings and the JDK's statics ===== -/
theorem sU {n : Nat} (h : n < 4294967296) : (UInt32.ofNat n).toNat = n := by
  rw [UInt32.toNat_ofNat']
  exact Nat.mod_eq_of_lt h
/-- the letters of the string constants, as bytes and as chars -/
theorem sB_chr : ∀ b, b < 10 → ∀ i, i < sLen.getD b 0 → (((sByt.getD b []).getD i 0 &&& nI 255).toUInt32 % 65536).toInt32 = (sByt.getD b []).getD i 0 ∧ ((sByt.getD b []).getD i 0).toUInt32.toUInt16.toUInt32.toInt32 = (sByt.getD b []).getD i 0 := by decide +kernel
theorem sL_lt : ∀ b, b < 10 → sLen.getD b 0 ≤ 5 := by decide +kernel
theorem chr_nar : ∀ c, c < 256 → (((nI c).toInt8.toInt32 &&& nI 255).toUInt32 % 65536).toInt32 = nI c ∧ (nI c).toUInt32.toUInt16.toUInt32.toInt32 = nI c := by decide +kernel
section EVS
variable {l : Launch} {E : XE} {Y Yc : MI} {d mc ms : Nat} {w0 : AW} {Po Pc : Option Value → AW → Prop} {nc ns pc : Nat} {lv : AL} {st : List Value} {w : AW}
theorem ev_getsC {idx : Nat} (hd : decode Y.2.1 pc = .ok (.getstatic idx, 3)) (hlink : (.fieldLink Y.1.cls idx "java/lang/String" "COMPACT_STRINGS" "Z" : Cond) ∈ tbl) (k : Ev l E Y d mc ms w0 Po nc ns (pc + 3) lv (.int (nI 1) :: st) w) : Ev l E Y d mc ms w0 Po nc ns pc lv st w := by
  intro p e s m args below meth c ad0 ad H locs ls C ha0 ha hP hD hS hl
  obtain ⟨hx, hb, hrt, hml, hown, hts, hlk, hnm, hK, hXS, hXN⟩ := id C
  exact va_gets hx hb hXS.1.2.1 hS hown (hts _ (List.mem_cons_of_mem _ hlink)) (fun _ h => h) hd (k p e s m args below meth c ad0 ad H locs ls C ha0 ha hP hD hS hl)
theorem ev_getsF {idx : Nat} {b : UInt32} (hb20 : b.toNat = 20) (hd : decode Y.2.1 pc = .ok (.getstatic idx, 3)) (hlink : (.fieldLink Y.1.cls idx "jdk/internal/util/Preconditions" "SIOOBE_FORMATTER" "Ljava/util/function/BiFunction;" : Cond) ∈ tbl) (k1 : Ev l E Y d mc ms w0 Po nc ns (pc + 3) lv (.null :: st) w) (k2 : Ev l E Y d mc ms w0 Po nc ns (pc + 3) lv (.float b :: st) w) : Ev l E Y d mc ms w0 Po nc ns pc lv st w := by
  intro p e s m args below meth c ad0 ad H locs ls C ha0 ha hP hD hS hl
  obtain ⟨hx, hb, hrt, hml, hown, hts, hlk, hnm, hK, hXS, hXN⟩ := id C
  rcases hXS.1.2.2.1 with hZ | hZ
  · exact va_gets hx hb hZ hS hown (hts _ (List.mem_cons_of_mem _ hlink)) (fun _ h => h) hd (k1 p e s m args below meth c ad0 ad H locs ls C ha0 ha hP hD hS hl)
  · have h := k2 p e s m args below meth c ad0 ad H locs ls C ha0 ha hP hD hS hl
    rw [List.map_cons, show xV E ad (.float b) = .ref (E.2.2.2 20) from by rw [← hb20]; rfl] at h
    exact va_gets hx hb hZ hS hown (hts _ (List.mem_cons_of_mem _ hlink)) (fun _ h => h) hd h
theorem ev_getsT {idx : Nat} {b : UInt32} (hb21 : b.toNat = 21) (hd : decode Y.2.1 pc = .ok (.getstatic idx, 3)) (hlink : (.fieldLink Y.1.cls idx "java/lang/Integer" "DigitTens" "[B" : Cond) ∈ tbl) (k : Ev l E Y d mc ms w0 Po nc ns (pc + 3) lv (.float b :: st) w) : Ev l E Y d mc ms w0 Po nc ns pc lv st w := by
  intro p e s m args below meth c ad0 ad H locs ls C ha0 ha hP hD hS hl
  obtain ⟨hx, hb, hrt, hml, hown, hts, hlk, hnm, hK, hXS, hXN⟩ := id C
  have h := k p e s m args below meth c ad0 ad H locs ls C ha0 ha hP hD hS hl
  rw [List.map_cons, show xV E ad (.float b) = .ref (E.2.2.2 21) from by rw [← hb21]; rfl] at h
  exact va_gets hx hb hXS.1.2.2.2.1.1 hS hown (hts _ (List.mem_cons_of_mem _ hlink)) (fun _ h => h) hd h
theorem ev_getsO {idx : Nat} {b : UInt32} (hb22 : b.toNat = 22) (hd : decode Y.2.1 pc = .ok (.getstatic idx, 3)) (hlink : (.fieldLink Y.1.cls idx "java/lang/Integer" "DigitOnes" "[B" : Cond) ∈ tbl) (k : Ev l E Y d mc ms w0 Po nc ns (pc + 3) lv (.float b :: st) w) : Ev l E Y d mc ms w0 Po nc ns pc lv st w := by
  intro p e s m args below meth c ad0 ad H locs ls C ha0 ha hP hD hS hl
  obtain ⟨hx, hb, hrt, hml, hown, hts, hlk, hnm, hK, hXS, hXN⟩ := id C
  have h := k p e s m args below meth c ad0 ad H locs ls C ha0 ha hP hD hS hl
  rw [List.map_cons, show xV E ad (.float b) = .ref (E.2.2.2 22) from by rw [← hb22]; rfl] at h
  exact va_gets hx hb hXS.1.2.2.2.2.1.1 hS hown (hts _ (List.mem_cons_of_mem _ hlink)) (fun _ h => h) hd h
/-- a digit out of the tables -/
theorem ev_digT {b : UInt32} {i : Nat} (hb21 : b.toNat = 21) (hi : i < 100) (hd : decode Y.2.1 pc = .ok (.baload, 1)) (k : Ev l E Y d mc ms w0 Po nc ns (pc + 1) lv (.int (nI (48 + i / 10)) :: st) w) : Ev l E Y d mc ms w0 Po nc ns pc lv (.int (nI i) :: .float b :: st) w := by
  intro p e s m args below meth c ad0 ad H locs ls C ha0 ha hP hD hS hl
  obtain ⟨hx, hb, hrt, hml, hown, hts, hlk, hnm, hK, hXS, hXN⟩ := id C
  have h := k p e s m args below meth c ad0 ad H locs ls C ha0 ha hP hD hS hl
  rw [show (Value.int (nI i) :: Value.float b :: st).map (xV E ad) = .int (nI i) :: .ref (E.2.2.2 21) :: st.map (xV E ad) from by rw [← hb21]; rfl]
  exact va_tb hx hb hXS.1.2.2.2.1.2 hS (xin hi (by decide)) (v := .int (nI (48 + i / 10))) (by rw [xto (by omega)]) hd h
theorem ev_digO {b : UInt32} {i : Nat} (hb22 : b.toNat = 22) (hi : i < 100) (hd : decode Y.2.1 pc = .ok (.baload, 1)) (k : Ev l E Y d mc ms w0 Po nc ns (pc + 1) lv (.int (nI (48 + i % 10)) :: st) w) : Ev l E Y d mc ms w0 Po nc ns pc lv (.int (nI i) :: .float b :: st) w := by
  intro p e s m args below meth c ad0 ad H locs ls C ha0 ha hP hD hS hl
  obtain ⟨hx, hb, hrt, hml, hown, hts, hlk, hnm, hK, hXS, hXN⟩ := id C
  have h := k p e s m args below meth c ad0 ad H locs ls C ha0 ha hP hD hS hl
  rw [show (Value.int (nI i) :: Value.float b :: st).map (xV E ad) = .int (nI i) :: .ref (E.2.2.2 22) :: st.map (xV E ad) from by rw [← hb22]; rfl]
  exact va_tb hx hb hXS.1.2.2.2.2.1.2 hS (xin hi (by decide)) (v := .int (nI (48 + i % 10))) (by rw [xto (by omega)]) hd h
/-- a string constant's fields -/
theorem ev_svalue {b c' : UInt32} {idx i : Nat} (hbi : b.toNat = i) (hci : c'.toNat = 10 + i) (hi : i < 10) (hd : decode Y.2.1 pc = .ok (.getfield idx, 3)) (hlink : (.fieldLink Y.1.cls idx "java/lang/String" "value" "[B" : Cond) ∈ tbl) (k : Ev l E Y d mc ms w0 Po nc ns (pc + 3) lv (.float c' :: st) w) : Ev l E Y d mc ms w0 Po nc ns pc lv (.float b :: st) w := by
  intro p e s m args below meth c ad0 ad H locs ls C ha0 ha hP hD hS hl
  obtain ⟨hx, hb, hrt, hml, hown, hts, hlk, hnm, hK, hXS, hXN⟩ := id C
  have h := k p e s m args below meth c ad0 ad H locs ls C ha0 ha hP hD hS hl
  rw [List.map_cons, show xV E ad (.float c') = .ref (E.2.2.2 (10 + i)) from by rw [← hci]; rfl] at h
  rw [List.map_cons, show xV E ad (.float b) = .ref (E.2.2.2 i) from by rw [← hbi]; rfl]
  exact vk_getf hx hb (hXS.1.1.1 i hi).2.2.1 hS hown (hts _ (List.mem_cons_of_mem _ hlink)) (fun _ h => h) hd h
theorem ev_scoder {b : UInt32} {idx i : Nat} (hbi : b.toNat = i) (hi : i < 10) (hd : decode Y.2.1 pc = .ok (.getfield idx, 3)) (hlink : (.fieldLink Y.1.cls idx "java/lang/String" "coder" "B" : Cond) ∈ tbl) (k : Ev l E Y d mc ms w0 Po nc ns (pc + 3) lv (.int (nI 0) :: st) w) : Ev l E Y d mc ms w0 Po nc ns pc lv (.float b :: st) w := by
  intro p e s m args below meth c ad0 ad H locs ls C ha0 ha hP hD hS hl
  obtain ⟨hx, hb, hrt, hml, hown, hts, hlk, hnm, hK, hXS, hXN⟩ := id C
  have h := k p e s m args below meth c ad0 ad H locs ls C ha0 ha hP hD hS hl
  rw [List.map_cons, show xV E ad (.float b) = .ref (E.2.2.2 i) from by rw [← hbi]; rfl]
  exact vk_getf hx hb (hXS.1.1.1 i hi).2.1 hS hown (hts _ (List.mem_cons_of_mem _ hlink)) (fun _ h => h) hd h
theorem ev_slen {c' : UInt32} {i : Nat} (hci : c'.toNat = 10 + i) (hi : i < 10) (hd : decode Y.2.1 pc = .ok (.arraylength, 1)) (k : Ev l E Y d mc ms w0 Po nc ns (pc + 1) lv (.int (nI (sLen.getD i 0)) :: st) w) : Ev l E Y d mc ms w0 Po nc ns pc lv (.float c' :: st) w := by
  intro p e s m args below meth c ad0 ad H locs ls C ha0 ha hP hD hS hl
  obtain ⟨hx, hb, hrt, hml, hown, hts, hlk, hnm, hK, hXS, hXN⟩ := id C
  have h := k p e s m args below meth c ad0 ad H locs ls C ha0 ha hP hD hS hl
  rw [List.map_cons, show xV E ad (.float c') = .ref (E.2.2.2 (10 + i)) from by rw [← hci]; rfl]
  exact va_tlen hx hb (hXS.1.1.1 i hi).2.2.2 hS (v := nI (sLen.getD i 0)) rfl hd h
theorem ev_sbyte {c' : UInt32} {i j : Nat} (hci : c'.toNat = 10 + i) (hi : i < 10) (hj : j < sLen.getD i 0) (hd : decode Y.2.1 pc = .ok (.baload, 1)) (k : Ev l E Y d mc ms w0 Po nc ns (pc + 1) lv (.int ((sByt.getD i []).getD j 0) :: st) w) : Ev l E Y d mc ms w0 Po nc ns pc lv (.int (nI j) :: .float c' :: st) w := by
  intro p e s m args below meth c ad0 ad H locs ls C ha0 ha hP hD hS hl
  obtain ⟨hx, hb, hrt, hml, hown, hts, hlk, hnm, hK, hXS, hXN⟩ := id C
  have h := k p e s m args below meth c ad0 ad H locs ls C ha0 ha hP hD hS hl
  have hl5 := sL_lt i hi
  rw [show (Value.int (nI j) :: Value.float c' :: st).map (xV E ad) = .int (nI j) :: .ref (E.2.2.2 (10 + i)) :: st.map (xV E ad) from by rw [← hci]; rfl]
  exact va_tb hx hb (hXS.1.1.1 i hi).2.2.2 hS (xin hj (by omega)) (v := .int ((sByt.getD i []).getD j 0)) (by rw [xto (by omega)]) hd h
theorem ev_i2c {x v : Int32} (hd : decode Y.2.1 pc = .ok (.i2c, 1)) (hv : (x.toUInt32 % 65536).toInt32 = v) (k : Ev l E Y d mc ms w0 Po nc ns (pc + 1) lv (.int v :: st) w) : Ev l E Y d mc ms w0 Po nc ns pc lv (.int x :: st) w := by
  intro p e s m args below meth c ad0 ad H locs ls C ha0 ha hP hD hS hl
  exact lv_i2c C.1 C.2.1 hd hv (k p e s m args below meth c ad0 ad H locs ls C ha0 ha hP hD hS hl)
theorem ev_i2b {x v : Int32} (hd : decode Y.2.1 pc = .ok (.i2b, 1)) (hv : x.toInt8.toInt32 = v) (k : Ev l E Y d mc ms w0 Po nc ns (pc + 1) lv (.int v :: st) w) : Ev l E Y d mc ms w0 Po nc ns pc lv (.int x :: st) w := by
  intro p e s m args below meth c ad0 ad H locs ls C ha0 ha hP hD hS hl
  exact lv_i2b C.1 C.2.1 hd hv (k p e s m args below meth c ad0 ad H locs ls C ha0 ha hP hD hS hl)
/-- the answer is a byte or a char -/
theorem ev_cret {v : Int32} {ty : FieldType} (hd : decode Y.2.1 pc = .ok (.ireturn, 1)) (hr : Y.2.2.2 = some ty) (hz : narrow ty (.int v) = .int v) (hlen : w0.length ≤ w.length) (hnc : nc ≤ mc) (hns : ns ≤ ms) (hp : Po (some (.int v)) w) : Ev l E Y d mc ms w0 Po nc ns pc lv ([.int v]) w := by
  intro p e s m args below meth c ad0 ad H locs ls C ha0 ha hP hD hS hl
  obtain ⟨hx, hb, hrt, hml, hown, hts, hlk, hnm, hK, hXS, hXN⟩ := id C
  refine W.widen hnc hns ?_
  exact W.zret (v := v) (ty := ty) hx hb (hrt.trans hr) hz (fun t ht hW => ⟨⟨ad, some (.int v), w, rfl, hp, ha0, ha, by rw [ht]; exact hP, va_K.moved hW.alike hK, hD⟩, hS.F ht⟩) hS.2.2 hd hlk
/-- the answer is an object -/
theorem ev_oret {v : Nat} {cn : String} (hd : decode Y.2.1 pc = .ok (.areturn, 1)) (hr : Y.2.2.2 = some (.object cn)) (hlen : w0.length ≤ w.length) (hnc : nc ≤ mc) (hns : ns ≤ ms) (hp : Po (some (.ref v)) w) : Ev l E Y d mc ms w0 Po nc ns pc lv ([.ref v]) w := by
  intro p e s m args below meth c ad0 ad H locs ls C ha0 ha hP hD hS hl
  obtain ⟨hx, hb, hrt, hml, hown, hts, hlk, hnm, hK, hXS, hXN⟩ := id C
  refine W.widen hnc hns ?_
  exact W.aret (v := .ref (ad v)) hx hb (hrt.trans hr) (Or.inl ⟨_, rfl⟩) (Or.inr ⟨_, rfl⟩) (fun t ht hW => ⟨⟨ad, some (.ref v), w, rfl, hp, ha0, ha, by rw [ht]; exact hP, va_K.moved hW.alike hK, hD⟩, hS.F ht⟩) hS.2.2 hd hlk
/-- a string constant's own method -/
theorem ev_callVs {idx n dc i : Nat} {b : UInt32} {As : List Value} {stk : List Value} (hd : decode Y.2.1 pc = .ok (.invokevirtual idx, 3)) (hlk : (.methodLink Y.1.cls idx Yc.1 : Cond) ∈ tbl) (kM : XMv Yc n) (hcl : Yc.1.cls = "java/lang/String") (hbi : b.toNat = i) (hi : i < 10) (hM : MetE l E Yc dc 0 0 (.float b :: As) [] Pc) (hn : As.length = n) (hst : stk = ((Value.float b :: As).map (xrV [] w.length)).reverse ++ st) (hdc : dc + 1 ≤ d) (hcat : (st.map fun v => v.category).sum ≤ 8) (hnc : nc ≤ mc) (hns : ns ≤ ms)
    (kk : ∀ r w', Pc r w' → Ev l E Y d mc ms w0 Po nc ns (pc + 3) lv ((r.map (xrV [] w.length)).toList ++ st) w) : Ev l E Y d mc ms w0 Po nc ns pc lv stk w := by
  intro p e s m args below meth c ad0 ad H locs ls C ha0 ha hP hD hS hl
  obtain ⟨hx, hb, hrt, hml, hown, hts, hlk2, hnm, hK, hXS, hXN⟩ := id C
  obtain ⟨hA, at', hpre⟩ := xpre_of (is := []) (wc := []) hK hXS hXN hP hD hS rfl rfl
  obtain ⟨⟨k1, k2, k3, k4⟩, k5, k6⟩ := kM
  subst hst
  refine xcall0 (is := []) (wc := []) (a := (Value.ref (E.2.2.2 b.toNat) :: As.map (xV E fun j => ad (xsg [] w.length j))).toArray) C ha0 ha hP hD hS hl rfl rfl ?_ (fun _ _ _ => Nat.zero_le _) (fun r w' h => by
    have e9 : xput [] w.length w [] w' = w := by cases w' <;> rfl
    rw [e9]
    exact kk r w' h)
  have hrx : ∃ cell : Cell, H[E.2.2.2 b.toNat]? = some cell ∧ cell.vm.isStatics = false ∧ s.vm.findClass Yc.1.cls = some cell.cls := by
    rw [hcl, hbi]
    exact vk_recv hXS.1.1 hi hS
  exact va_runV (As := (As.map (xV E fun j => ad (xsg [] w.length j)))) (rest := st.map (xV E ad)) ⟨hx, hb, hml, hown, hts⟩ (hM (fun j => ad (xsg [] w.length j)) H.size) (cwV n hts (xin4 hlk k5 k6 k2 ⟨k1, k2, k3, k4⟩) rfl rfl rfl ⟨rfl, k3⟩ ⟨hdc, by show 8 + (Yc.2.2.1 + 11) + 100 * dc ≤ 100 * d; omega⟩) ⟨xblind, hrx, fun U hU hW => ⟨by simp [xV], hpre U hU hW⟩⟩ rfl (by rw [List.length_map]; exact hn) hl.1 (by show List.map (xV E ad) (((Value.float b :: As).map (xrV [] w.length)).reverse ++ st) = _; rw [List.map_append, List.map_reverse, List.map_map, show (xV E ad ∘ xrV [] w.length) = xV E (fun j => ad (xsg [] w.length j)) from funext fun v => xV_r v]; simp [xV]) (lv_room (by rw [xCats]; exact hcat)) hd ⟨hnc, hns⟩
end EVS

theorem bJ0_coder_7d493_6_7 {l : Launch} {E : XE} : Snd l E mJ0_coder_7d493 6 7 (xs [x_aload 0]) := Snd.cons (snd_aload_n (i := 0) dJ0_coder_7d493_6 rfl) Snd.nil
theorem bJ0_coder_7d493_10_14 {l : Launch} {E : XE} : Snd l E mJ0_coder_7d493 10 14 (xs [x_id]) := Snd.cons (snd_goto (tgt := 14) dJ0_coder_7d493_10 (by decide)) Snd.nil
set_option maxHeartbeats 4000000 in
set_option maxRecDepth 100000 in
theorem m_J0_coder_7d493 {l : Launch} {E : XE} (b : UInt32) (i : Nat) (hb : b.toNat = i) (hi : i < 10) : MetE l E mJ0_coder_7d493 (0) 0 0 [.float b] ([]) (fun r w' => r = some (.int (nI (0))) ∧ w' = []) := by
  refine MetE.of (by decide +kernel) (Nat.le_of_ble_eq_true rfl) ?_
  refine ev_eq (lv' := [(0, .float b)]) (st' := []) (w' := []) rfl rfl rfl ?_
  refine ev_getsC dJ0_coder_7d493_0 tw_301 ?_
  refine ev_if_eq_n (tgt := 13) (by decide) dJ0_coder_7d493_3 (by decide) (fun h3 => (by exfalso; omega)) (fun h3 => ?_)
  refine ev_b bJ0_coder_7d493_6_7 (lv' := [(0, .float b)]) (st' := [.float b]) (w2 := []) rfl ?_
  refine ev_scoder hb hi dJ0_coder_7d493_7 tw_1501 ?_
  refine ev_b bJ0_coder_7d493_10_14 (lv' := [(0, .float b)]) (st' := [.int (nI (0))]) (w2 := []) rfl ?_
  exact ev_cret dJ0_coder_7d493_14 rfl (by rfl) (Nat.le_of_ble_eq_true rfl) (Nat.le_refl _) (Nat.le_refl _) ⟨rfl, rfl⟩
theorem bJ0_isLatin1_aae02_6_7 {l : Launch} {E : XE} : Snd l E mJ0_isLatin1_aae02 6 7 (xs [x_aload 0]) := Snd.cons (snd_aload_n (i := 0) dJ0_isLatin1_aae02_6 rfl) Snd.nil
theorem bJ0_isLatin1_aae02_13_18 {l : Launch} {E : XE} : Snd l E mJ0_isLatin1_aae02 13 18 (xs [x_push (.int (nI 1)), x_id]) := Snd.cons (snd_iconst (v := nI 1) dJ0_isLatin1_aae02_13 (by decide)) (Snd.cons (snd_goto (tgt := 18) dJ0_isLatin1_aae02_14 (by decide)) Snd.nil)
set_option maxHeartbeats 4000000 in
set_option maxRecDepth 100000 in
theorem m_J0_isLatin1_aae02 {l : Launch} {E : XE} (b : UInt32) (i : Nat) (hb : b.toNat = i) (hi : i < 10) : MetE l E mJ0_isLatin1_aae02 (0) 0 0 [.float b] ([]) (fun r w' => r = some (.int (nI (1))) ∧ w' = []) := by
  refine MetE.of (by decide +kernel) (Nat.le_of_ble_eq_true rfl) ?_
  refine ev_eq (lv' := [(0, .float b)]) (st' := []) (w' := []) rfl rfl rfl ?_
  refine ev_getsC dJ0_isLatin1_aae02_0 tw_301 ?_
  refine ev_if_eq_n (tgt := 17) (by decide) dJ0_isLatin1_aae02_3 (by decide) (fun h3 => (by exfalso; omega)) (fun h3 => ?_)
  refine ev_b bJ0_isLatin1_aae02_6_7 (lv' := [(0, .float b)]) (st' := [.float b]) (w2 := []) rfl ?_
  refine ev_scoder hb hi dJ0_isLatin1_aae02_7 tw_1501 ?_
  refine ev_if_ne_n (tgt := 17) (by decide) dJ0_isLatin1_aae02_10 (by decide) (fun h10 => (by exfalso; omega)) (fun h10 => ?_)
  refine ev_b bJ0_isLatin1_aae02_13_18 (lv' := [(0, .float b)]) (st' := [.int (nI (1))]) (w2 := []) rfl ?_
  exact ev_zret dJ0_isLatin1_aae02_18 rfl rfl (Nat.le_of_ble_eq_true rfl) (Nat.le_refl _) (Nat.le_refl _) ⟨rfl, rfl⟩
theorem bJ0_length_8abf5_0_1 {l : Launch} {E : XE} : Snd l E mJ0_length_8abf5 0 1 (xs [x_aload 0]) := Snd.cons (snd_aload_n (i := 0) dJ0_length_8abf5_0 rfl) Snd.nil
theorem bJ0_length_8abf5_5_6 {l : Launch} {E : XE} : Snd l E mJ0_length_8abf5 5 6 (xs [x_aload 0]) := Snd.cons (snd_aload_n (i := 0) dJ0_length_8abf5_5 rfl) Snd.nil
set_option maxHeartbeats 4000000 in
set_option maxRecDepth 100000 in
theorem m_J0_length_8abf5 {l : Launch} {E : XE} (b c : UInt32) (i : Nat) (hb : b.toNat = i) (hi : i < 10) (hc : c.toNat = 10 + i) : MetE l E mJ0_length_8abf5 (1) 0 0 [.float b] ([]) (fun r w' => r = some (.int (nI (sLen.getD i 0))) ∧ w' = []) := by
  refine MetE.of (by decide +kernel) (Nat.le_of_ble_eq_true rfl) ?_
  have hl5 := sL_lt i hi
  refine ev_eq (lv' := [(0, .float b)]) (st' := []) (w' := []) rfl rfl rfl ?_
  refine ev_b bJ0_length_8abf5_0_1 (lv' := [(0, .float b)]) (st' := [.float b]) (w2 := []) rfl ?_
  refine ev_svalue hb hc hi dJ0_length_8abf5_1 tw_1500 ?_
  refine ev_slen hc hi dJ0_length_8abf5_4 ?_
  refine ev_b bJ0_length_8abf5_5_6 (lv' := [(0, .float b)]) (st' := [.float b, .int (nI (sLen.getD i 0))]) (w2 := []) rfl ?_
  refine ev_callVs (Yc := mJ0_coder_7d493) dJ0_length_8abf5_6 tw_297 kJ0_coder_7d493 rfl hb hi (m_J0_coder_7d493 b i hb hi) rfl (st := [.int (nI (sLen.getD i 0))]) rfl (by decide) (Nat.le_of_ble_eq_true rfl) (Nat.le_refl _) (Nat.le_refl _) ?_
  rintro _ _ ⟨rfl, rfl⟩
  refine ev_eq (lv' := [(0, .float b)]) (st' := [.int (nI (0)), .int (nI (sLen.getD i 0))]) (w' := []) rfl rfl rfl ?_
  refine ev_ishr_n (by omega) (by omega) dJ0_length_8abf5_9 ?_
  exact ev_iret dJ0_length_8abf5_10 rfl (Nat.le_of_ble_eq_true rfl) (Nat.le_refl _) (Nat.le_refl _) ⟨(congrArg (fun t => some (Value.int (nI t))) (show (sLen.getD i 0) >>> 0 = sLen.getD i 0 from by exact Nat.shiftRight_zero)), rfl⟩
theorem bJ3_checkIndex_8e157_0_1 {l : Launch} {E : XE} : Snd l E mJ3_checkIndex_8e157 0 1 (xs [x_iload 0]) := Snd.cons (snd_iload_n (i := 0) dJ3_checkIndex_8e157_0 rfl) Snd.nil
theorem bJ3_checkIndex_8e157_4_6 {l : Launch} {E : XE} : Snd l E mJ3_checkIndex_8e157 4 6 (xs [x_iload 0, x_iload 1]) := Snd.cons (snd_iload_n (i := 0) dJ3_checkIndex_8e157_4 rfl) (Snd.cons (snd_iload_n (i := 1) dJ3_checkIndex_8e157_5 rfl) Snd.nil)
theorem bJ3_checkIndex_8e157_16_17 {l : Launch} {E : XE} : Snd l E mJ3_checkIndex_8e157 16 17 (xs [x_iload 0]) := Snd.cons (snd_iload_n (i := 0) dJ3_checkIndex_8e157_16 rfl) Snd.nil
set_option maxHeartbeats 4000000 in
set_option maxRecDepth 100000 in
theorem m_J3_checkIndex_n {l : Launch} {E : XE} (j n : Nat) (hj : j < n) (hn : n ≤ 65536) : MetE l E mJ3_checkIndex_8e157 (0) 0 0 [.int (nI (j)), .int (nI (n)), .null] ([]) (fun r w' => r = some (.int (nI (j))) ∧ w' = []) := by
  refine MetE.of (by decide +kernel) (Nat.le_of_ble_eq_true rfl) ?_
  refine ev_eq (lv' := [(0, .int (nI (j))), (1, .int (nI (n))), (2, .null)]) (st' := []) (w' := []) rfl rfl rfl ?_
  refine ev_b bJ3_checkIndex_8e157_0_1 (lv' := [(0, .int (nI (j))), (1, .int (nI (n))), (2, .null)]) (st' := [.int (nI (j))]) (w2 := []) rfl ?_
  refine ev_if_lt_n (tgt := 9) (by omega) dJ3_checkIndex_8e157_1 (by decide) (fun h1 => (by exfalso; omega)) (fun h1 => ?_)
  refine ev_b bJ3_checkIndex_8e157_4_6 (lv' := [(0, .int (nI (j))), (1, .int (nI (n))), (2, .null)]) (st' := [.int (nI (n)), .int (nI (j))]) (w2 := []) rfl ?_
  refine ev_icmp_lt_n (tgt := 16) (by omega) (by omega) dJ3_checkIndex_8e157_6 (by decide) (fun h6 => ?_) (fun h6 => (by exfalso; omega))
  refine ev_b bJ3_checkIndex_8e157_16_17 (lv' := [(0, .int (nI (j))), (1, .int (nI (n))), (2, .null)]) (st' := [.int (nI (j))]) (w2 := []) rfl ?_
  exact ev_iret dJ3_checkIndex_8e157_17 rfl (Nat.le_of_ble_eq_true rfl) (Nat.le_refl _) (Nat.le_refl _) ⟨rfl, rfl⟩
set_option maxHeartbeats 4000000 in
set_option maxRecDepth 100000 in
theorem m_J3_checkIndex_s {l : Launch} {E : XE} (j n : Nat) (b : UInt32) (hj : j < n) (hn : n ≤ 65536) : MetE l E mJ3_checkIndex_8e157 (0) 0 0 [.int (nI (j)), .int (nI (n)), .float b] ([]) (fun r w' => r = some (.int (nI (j))) ∧ w' = []) := by
  refine MetE.of (by decide +kernel) (Nat.le_of_ble_eq_true rfl) ?_
  refine ev_eq (lv' := [(0, .int (nI (j))), (1, .int (nI (n))), (2, .float b)]) (st' := []) (w' := []) rfl rfl rfl ?_
  refine ev_b bJ3_checkIndex_8e157_0_1 (lv' := [(0, .int (nI (j))), (1, .int (nI (n))), (2, .float b)]) (st' := [.int (nI (j))]) (w2 := []) rfl ?_
  refine ev_if_lt_n (tgt := 9) (by omega) dJ3_checkIndex_8e157_1 (by decide) (fun h1 => (by exfalso; omega)) (fun h1 => ?_)
  refine ev_b bJ3_checkIndex_8e157_4_6 (lv' := [(0, .int (nI (j))), (1, .int (nI (n))), (2, .float b)]) (st' := [.int (nI (n)), .int (nI (j))]) (w2 := []) rfl ?_
  refine ev_icmp_lt_n (tgt := 16) (by omega) (by omega) dJ3_checkIndex_8e157_6 (by decide) (fun h6 => ?_) (fun h6 => (by exfalso; omega))
  refine ev_b bJ3_checkIndex_8e157_16_17 (lv' := [(0, .int (nI (j))), (1, .int (nI (n))), (2, .float b)]) (st' := [.int (nI (j))]) (w2 := []) rfl ?_
  exact ev_iret dJ3_checkIndex_8e157_17 rfl (Nat.le_of_ble_eq_true rfl) (Nat.le_refl _) (Nat.le_refl _) ⟨rfl, rfl⟩
theorem bJ0_checkIndex_df160_0_2 {l : Launch} {E : XE} : Snd l E mJ0_checkIndex_df160 0 2 (xs [x_iload 0, x_iload 1]) := Snd.cons (snd_iload_n (i := 0) dJ0_checkIndex_df160_0 rfl) (Snd.cons (snd_iload_n (i := 1) dJ0_checkIndex_df160_1 rfl) Snd.nil)
theorem bJ0_checkIndex_df160_8_9 {l : Launch} {E : XE} : Snd l E mJ0_checkIndex_df160 8 9 (xs [x_pop]) := Snd.cons (snd_pop dJ0_checkIndex_df160_8) Snd.nil
set_option maxHeartbeats 4000000 in
set_option maxRecDepth 100000 in
theorem m_J0_checkIndex_df160 {l : Launch} {E : XE} (j n : Nat) (hj : j < n) (hn : n ≤ 65536) : MetE l E mJ0_checkIndex_df160 (1) 0 0 [.int (nI (j)), .int (nI (n))] ([]) (fun r w' => r = none ∧ w' = []) := by
  refine MetE.of (by decide +kernel) (Nat.le_of_ble_eq_true rfl) ?_
  refine ev_eq (lv' := [(0, .int (nI (j))), (1, .int (nI (n)))]) (st' := []) (w' := []) rfl rfl rfl ?_
  refine ev_b bJ0_checkIndex_df160_0_2 (lv' := [(0, .int (nI (j))), (1, .int (nI (n)))]) (st' := [.int (nI (n)), .int (nI (j))]) (w2 := []) rfl ?_
  refine ev_getsF (b := 20) (by decide) dJ0_checkIndex_df160_2 tw_317 ?_ ?_
  · skip
    refine ev_callS (Yc := mJ3_checkIndex_8e157) [] dJ0_checkIndex_df160_5 tw_319 kJ3_checkIndex_8e157 (m_J3_checkIndex_n j n hj hn) rfl (st := []) rfl (by decide) rfl (by decide) (Nat.le_of_ble_eq_true rfl) (Nat.le_refl _) (Nat.le_refl _) (fun r w' h => by obtain ⟨-, rfl⟩ := h; exact Nat.le_of_ble_eq_true rfl) ?_
    rintro _ _ ⟨rfl, rfl⟩
    refine ev_eq (lv' := [(0, .int (nI (j))), (1, .int (nI (n)))]) (st' := [.int (nI (j))]) (w' := []) rfl rfl rfl ?_
    refine ev_b bJ0_checkIndex_df160_8_9 (lv' := [(0, .int (nI (j))), (1, .int (nI (n)))]) (st' := []) (w2 := []) rfl ?_
    exact ev_vret dJ0_checkIndex_df160_9 rfl (Nat.le_of_ble_eq_true rfl) (Nat.le_refl _) (Nat.le_refl _) ⟨rfl, rfl⟩
  · skip
    refine ev_callS (Yc := mJ3_checkIndex_8e157) [] dJ0_checkIndex_df160_5 tw_319 kJ3_checkIndex_8e157 (m_J3_checkIndex_s j n 20 hj hn) rfl (st := []) rfl (by decide) rfl (by decide) (Nat.le_of_ble_eq_true rfl) (Nat.le_refl _) (Nat.le_refl _) (fun r w' h => by obtain ⟨-, rfl⟩ := h; exact Nat.le_of_ble_eq_true rfl) ?_
    rintro _ _ ⟨rfl, rfl⟩
    refine ev_eq (lv' := [(0, .int (nI (j))), (1, .int (nI (n)))]) (st' := [.int (nI (j))]) (w' := []) rfl rfl rfl ?_
    refine ev_b bJ0_checkIndex_df160_8_9 (lv' := [(0, .int (nI (j))), (1, .int (nI (n)))]) (st' := []) (w2 := []) rfl ?_
    exact ev_vret dJ0_checkIndex_df160_9 rfl (Nat.le_of_ble_eq_true rfl) (Nat.le_refl _) (Nat.le_refl _) ⟨rfl, rfl⟩
theorem bJ1_charAt_3b067_0_2 {l : Launch} {E : XE} : Snd l E mJ1_charAt_3b067 0 2 (xs [x_iload 1, x_aload 0]) := Snd.cons (snd_iload_n (i := 1) dJ1_charAt_3b067_0 rfl) (Snd.cons (snd_aload_n (i := 0) dJ1_charAt_3b067_1 rfl) Snd.nil)
theorem bJ1_charAt_3b067_6_8 {l : Launch} {E : XE} : Snd l E mJ1_charAt_3b067 6 8 (xs [x_aload 0, x_iload 1]) := Snd.cons (snd_aload_n (i := 0) dJ1_charAt_3b067_6 rfl) (Snd.cons (snd_iload_n (i := 1) dJ1_charAt_3b067_7 rfl) Snd.nil)
theorem bJ1_charAt_3b067_9_13 {l : Launch} {E : XE} : Snd l E mJ1_charAt_3b067 9 13 (xs [x_push (.int (nI 255)), x_i2 (fun x y => x &&& y)]) := Snd.cons (snd_sipush (v := nI 255) dJ1_charAt_3b067_9 (by decide)) (Snd.cons (snd_iand dJ1_charAt_3b067_12) Snd.nil)
set_option maxHeartbeats 4000000 in
set_option maxRecDepth 100000 in
theorem m_J1_charAt_3b067 {l : Launch} {E : XE} (c : UInt32) (i j : Nat) (hc : c.toNat = 10 + i) (hi : i < 10) (hj : j < sLen.getD i 0) : MetE l E mJ1_charAt_3b067 (2) 0 0 [.float c, .int (nI (j))] ([]) (fun r w' => r = some (.int ((sByt.getD i []).getD j 0)) ∧ w' = []) := by
  refine MetE.of (by decide +kernel) (Nat.le_of_ble_eq_true rfl) ?_
  have hl5 := sL_lt i hi
  have hch := sB_chr i hi j hj
  refine ev_eq (lv' := [(0, .float c), (1, .int (nI (j)))]) (st' := []) (w' := []) rfl rfl rfl ?_
  refine ev_b bJ1_charAt_3b067_0_2 (lv' := [(0, .float c), (1, .int (nI (j)))]) (st' := [.float c, .int (nI (j))]) (w2 := []) rfl ?_
  refine ev_slen hc hi dJ1_charAt_3b067_2 ?_
  refine ev_callS (Yc := mJ0_checkIndex_df160) [] dJ1_charAt_3b067_3 tw_314 kJ0_checkIndex_df160 (m_J0_checkIndex_df160 j (sLen.getD i 0) hj (by omega)) rfl (st := []) rfl (by decide) rfl (by decide) (Nat.le_of_ble_eq_true rfl) (Nat.le_refl _) (Nat.le_refl _) (fun r w' h => by obtain ⟨-, rfl⟩ := h; exact Nat.le_of_ble_eq_true rfl) ?_
  rintro _ _ ⟨rfl, rfl⟩
  refine ev_eq (lv' := [(0, .float c), (1, .int (nI (j)))]) (st' := []) (w' := []) rfl rfl rfl ?_
  refine ev_b bJ1_charAt_3b067_6_8 (lv' := [(0, .float c), (1, .int (nI (j)))]) (st' := [.int (nI (j)), .float c]) (w2 := []) rfl ?_
  refine ev_sbyte hc hi hj dJ1_charAt_3b067_8 ?_
  refine ev_b bJ1_charAt_3b067_9_13 (lv' := [(0, .float c), (1, .int (nI (j)))]) (st' := [.int (((sByt.getD i []).getD j 0) &&& (nI (255)))]) (w2 := []) rfl ?_
  refine ev_i2c (v := ((sByt.getD i []).getD j 0)) dJ1_charAt_3b067_13 (by exact hch.1) ?_
  exact ev_cret dJ1_charAt_3b067_14 rfl (by exact congrArg Value.int hch.2) (Nat.le_of_ble_eq_true rfl) (Nat.le_refl _) (Nat.le_refl _) ⟨rfl, rfl⟩
theorem bJ0_charAt_5068e_0_1 {l : Launch} {E : XE} : Snd l E mJ0_charAt_5068e 0 1 (xs [x_aload 0]) := Snd.cons (snd_aload_n (i := 0) dJ0_charAt_5068e_0 rfl) Snd.nil
theorem bJ0_charAt_5068e_7_8 {l : Launch} {E : XE} : Snd l E mJ0_charAt_5068e 7 8 (xs [x_aload 0]) := Snd.cons (snd_aload_n (i := 0) dJ0_charAt_5068e_7 rfl) Snd.nil
theorem bJ0_charAt_5068e_11_12 {l : Launch} {E : XE} : Snd l E mJ0_charAt_5068e 11 12 (xs [x_iload 1]) := Snd.cons (snd_iload_n (i := 1) dJ0_charAt_5068e_11 rfl) Snd.nil
set_option maxHeartbeats 4000000 in
set_option maxRecDepth 100000 in
theorem m_J0_charAt_5068e {l : Launch} {E : XE} (b c : UInt32) (i j : Nat) (hb : b.toNat = i) (hi : i < 10) (hc : c.toNat = 10 + i) (hj : j < sLen.getD i 0) : MetE l E mJ0_charAt_5068e (3) 0 0 [.float b, .int (nI (j))] ([]) (fun r w' => r = some (.int ((sByt.getD i []).getD j 0)) ∧ w' = []) := by
  refine MetE.of (by decide +kernel) (Nat.le_of_ble_eq_true rfl) ?_
  have hch := sB_chr i hi j hj
  refine ev_eq (lv' := [(0, .float b), (1, .int (nI (j)))]) (st' := []) (w' := []) rfl rfl rfl ?_
  refine ev_b bJ0_charAt_5068e_0_1 (lv' := [(0, .float b), (1, .int (nI (j)))]) (st' := [.float b]) (w2 := []) rfl ?_
  refine ev_callVs (Yc := mJ0_isLatin1_aae02) dJ0_charAt_5068e_1 tw_307 kJ0_isLatin1_aae02 rfl hb hi (m_J0_isLatin1_aae02 b i hb hi) rfl (st := []) rfl (by decide) (Nat.le_of_ble_eq_true rfl) (Nat.le_refl _) (Nat.le_refl _) ?_
  rintro _ _ ⟨rfl, rfl⟩
  refine ev_eq (lv' := [(0, .float b), (1, .int (nI (j)))]) (st' := [.int (nI (1))]) (w' := []) rfl rfl rfl ?_
  refine ev_if_eq_n (tgt := 16) (by decide) dJ0_charAt_5068e_4 (by decide) (fun h4 => (by exfalso; omega)) (fun h4 => ?_)
  refine ev_b bJ0_charAt_5068e_7_8 (lv' := [(0, .float b), (1, .int (nI (j)))]) (st' := [.float b]) (w2 := []) rfl ?_
  refine ev_svalue hb hc hi dJ0_charAt_5068e_8 tw_1500 ?_
  refine ev_b bJ0_charAt_5068e_11_12 (lv' := [(0, .float b), (1, .int (nI (j)))]) (st' := [.int (nI (j)), .float c]) (w2 := []) rfl ?_
  refine ev_callS (Yc := mJ1_charAt_3b067) [] dJ0_charAt_5068e_12 tw_311 kJ1_charAt_3b067 (m_J1_charAt_3b067 c i j hc hi hj) rfl (st := []) rfl (by decide) rfl (by decide) (Nat.le_of_ble_eq_true rfl) (Nat.le_refl _) (Nat.le_refl _) (fun r w' h => by obtain ⟨-, rfl⟩ := h; exact Nat.le_of_ble_eq_true rfl) ?_
  rintro _ _ ⟨rfl, rfl⟩
  refine ev_eq (lv' := [(0, .float b), (1, .int (nI (j)))]) (st' := [.int ((sByt.getD i []).getD j 0)]) (w' := []) rfl rfl rfl ?_
  exact ev_cret dJ0_charAt_5068e_15 rfl (by exact congrArg Value.int hch.2) (Nat.le_of_ble_eq_true rfl) (Nat.le_refl _) (Nat.le_refl _) ⟨rfl, rfl⟩
