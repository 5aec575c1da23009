/-! ===== StringBuilder: rules for bytes, new objects; what a builder holds ===== -/
section SBR
variable {l : Launch} {E : XE} {Y Yc : MI} {d mc ms : Nat} {w0 : AW} {Po Pc : Option Value → AW → Prop} {nc ns pc : Nat} {lv : AL} {st : List Value} {w : AW}
theorem ev_lenb {a n : Nat} {f : Nat → Int32} (hd : decode Y.2.1 pc = .ok (.arraylength, 1)) (hw : w[a]? = some (.inl (2, n, .inl f))) (k : Ev l E Y d mc ms w0 Po nc ns (pc + 1) lv (.int (nI n) :: st) w) : Ev l E Y d mc ms w0 Po nc ns pc lv (.ref a :: st) w := by
  intro p e s m args below meth c ad0 ad H locs ls C ha0 ha hP hD hS hl
  obtain ⟨hx, hb, hrt, hml, hown, hts, hlk, hnm, hK, hXS, hXN⟩ := id C
  exact va_alen hx hb hK hP _ 2 (xW_at hw) (ty := .byte) rfl rfl hd (k p e s m args below meth c ad0 ad H locs ls C ha0 ha hP hD hS hl)
theorem ev_bald {a i n : Nat} {f : Nat → Int32} (hd : decode Y.2.1 pc = .ok (.baload, 1)) (hw : w[a]? = some (.inl (2, n, .inl f))) (hi : i < n) (hn : n ≤ 65536) (k : Ev l E Y d mc ms w0 Po nc ns (pc + 1) lv (.int (f i) :: st) w) : Ev l E Y d mc ms w0 Po nc ns pc lv (.int (nI i) :: .ref a :: st) w := by
  intro p e s m args below meth c ad0 ad H locs ls C ha0 ha hP hD hS hl
  obtain ⟨hx, hb, hrt, hml, hown, hts, hlk, hnm, hK, hXS, hXN⟩ := id C
  refine va_bald hx hb hK hP a 2 (xW_at hw) rfl (xin hi hn) hd ?_
  rw [xto (by omega)]
  exact k p e s m args below meth c ad0 ad H locs ls C ha0 ha hP hD hS hl
theorem ev_bast {a i n : Nat} {f : Nat → Int32} {x v : Int32} (hd : decode Y.2.1 pc = .ok (.bastore, 1)) (hw : w[a]? = some (.inl (2, n, .inl f))) (hi : i < n) (hn : n ≤ 65536) (hv : vp_nar .byte x = v) (k : Ev l E Y d mc ms w0 Po nc ns (pc + 1) lv st (w.set a (.inl (2, n, .inl (upd f i v))))) : Ev l E Y d mc ms w0 Po nc ns pc lv (.int x :: .int (nI i) :: .ref a :: st) w := by
  subst hv
  intro p e s m args below meth c ad0 ad H locs ls C ha0 ha hP hD hS hl
  obtain ⟨hx, hb, hrt, hml, hown, hts, hlk, hnm, hK, hXS, hXN⟩ := id C
  refine va_bast hx hb hK hP hD hS a 2 (xW_at hw) rfl (xin hi hn) hd (fun H1 locs1 hP1 hD1 hS1 => ?_)
  rw [xto (by omega)] at hP1 hD1
  have he : (xW E ad w).set a (ad a, Sum.inl (E.2.2.2 30, n, Sum.inl (upd f i (vp_nar .byte x)))) = xW E ad (w.set a (.inl (2, n, .inl (upd f i (vp_nar .byte x))))) := xW_set (e := .inl (2, n, .inl (upd f i (vp_nar .byte x))))
  rw [he] at hP1 hD1
  exact k p e s m args below meth c ad0 ad H1 locs1 ls C ha0 ha hP1 hD1 hS1 hl
theorem ev_dupx1 {u v : Value} (hu : xc1 u = true) (hv : xc1 v = true) (hd : decode Y.2.1 pc = .ok (.dup_x1, 1)) (k : Ev l E Y d mc ms w0 Po nc ns (pc + 1) lv (u :: v :: u :: st) w) : Ev l E Y d mc ms w0 Po nc ns pc lv (u :: v :: st) w := by
  intro p e s m args below meth c ad0 ad H locs ls C ha0 ha hP hD hS hl
  exact lv_dup_x1 C.1 C.2.1 hd (by rw [xV_cat]; exact xc1_cat hu) (by rw [xV_cat]; exact xc1_cat hv) (k p e s m args below meth c ad0 ad H locs ls C ha0 ha hP hD hS hl)
theorem ev_bret {v : Nat} {t : FieldType} (hd : decode Y.2.1 pc = .ok (.areturn, 1)) (hr : Y.2.2.2 = some (.array t)) (hlen : w0.length ≤ w.length) (hnc : nc ≤ mc) (hns : ns ≤ ms) (hp : Po (some (.ref v)) w) : Ev l E Y d mc ms w0 Po nc ns pc lv ([.ref v]) w := by
  intro p e s m args below meth c ad0 ad H locs ls C ha0 ha hP hD hS hl
  obtain ⟨hx, hb, hrt, hml, hown, hts, hlk, hnm, hK, hXS, hXN⟩ := id C
  refine W.widen hnc hns ?_
  exact W.aret (v := .ref (ad v)) hx hb (hrt.trans hr) (Or.inr ⟨_, rfl⟩) (Or.inr ⟨_, rfl⟩) (fun t ht hW => ⟨⟨ad, some (.ref v), w, rfl, hp, ha0, ha, by rw [ht]; exact hP, va_K.moved hW.alike hK, hD⟩, hS.F ht⟩) hS.2.2 hd hlk
theorem ev_copyb {a b n n1 idx : Nat} {f g : Nat → Int32} (hd : decode Y.2.1 pc = .ok (.invokestatic idx, 3)) (hlk : (.methodLink Y.1.cls idx arraycopyName : Cond) ∈ tbl) (hnat : (.native arraycopyName : Cond) ∈ tbl) (hst : (.static arraycopyName : Cond) ∈ tbl) (hini : (.initialized "java/lang/System" : Cond) ∈ tbl)
    (hwa : w[a]? = some (.inl (2, n, .inl f))) (hwb : w[b]? = some (.inl (2, n1, .inl g))) (hn : n ≤ n1) (hn1 : n1 ≤ 65536) (hf : sb_Fit f) (hdd : 1 ≤ d) (hcat : (st.map fun v => v.category).sum ≤ 8) (k : Ev l E Y d mc ms w0 Po nc ns (pc + 3) lv st (w.set b (.inl (2, n1, .inl (va_cpy f g 0 0 n))))) : Ev l E Y d mc ms w0 Po nc ns pc lv (.int (nI n) :: .int (nI 0) :: .ref b :: .int (nI 0) :: .ref a :: st) w := by
  intro p e s m args below meth c ad0 ad H locs ls C ha0 ha hP hD hS hl
  obtain ⟨hx, hb, hrt, hml, hown, hts, hlk2, hnm, hK, hXS, hXN⟩ := id C
  have hcat2 : (((st.map (xV E ad)).map fun v => v.category).sum) ≤ 8 := by rw [xCats]; exact hcat
  have h0 : (nI 0).toNatClampNeg = 0 := xto (by omega)
  have hnn : (nI n).toNatClampNeg = n := xto (by omega)
  have e1 : nativeFrameWords "java/lang/System" "arraycopy" 5 + 11 ≤ 40 := by decide
  refine va_copyi (sp := nI 0) (dp := nI 0) (n := nI n) hx hb (hml.trans hl.1.symm) hown (hts _ (List.mem_cons_of_mem _ hlk)) (hts _ (List.mem_cons_of_mem _ hnat)) (hts _ (List.mem_cons_of_mem _ hst)) (hts _ (List.mem_cons_of_mem _ hini)) hK hP hD hS a b 2 2 (xW_at hwa) (xW_at hwb) rfl rfl rfl (nI_pos (by omega)) (nI_pos (by omega)) (nI_pos (by omega)) (by rw [h0, hnn]; omega) (by rw [h0, hnn]; omega) (fun i _ => hf _) hdd (by show _ ≤ 100 * d; omega) hd (fun H1 locs1 hP1 hD1 hS1 => ?_)
  rw [h0, hnn] at hP1 hD1
  have he : (xW E ad w).set b (ad b, Sum.inl (E.2.2.2 30, n1, Sum.inl (va_cpy f g 0 0 n))) = xW E ad (w.set b (.inl (2, n1, .inl (va_cpy f g 0 0 n)))) := xW_set (e := .inl (2, n1, .inl (va_cpy f g 0 0 n)))
  rw [he] at hP1 hD1
  exact k p e s m args below meth c ad0 ad H1 locs1 ls C ha0 ha hP1 hD1 hS1 hl
/-- a new byte[] -/
theorem ev_newb {n : Nat} (hd : decode Y.2.1 pc = .ok (.newarray .byte, 2)) (hac : (.arrayClass .byte : Cond) ∈ tbl) (hn : n ≤ 65536) (hlv : lv.all (fun q => xvk w.length q.2) = true) (hst : st.all (xvk w.length) = true) (hwv : w.all (xek w.length) = true) (hlw : w0.length ≤ w.length) (hmc : nc + 1 ≤ mc) (hms : ns + n ≤ ms) (k : Ev l E Y d mc ms w0 Po (nc + 1) (ns + n) (pc + 2) lv (.ref w.length :: st) (w ++ [.inl (2, n, .inl (fun _ => 0))])) : Ev l E Y d mc ms w0 Po nc ns pc lv (.int (nI n) :: st) w := by
  intro p e s m args below meth c ad0 ad H locs ls C ha0 ha hP hD hS hl
  obtain ⟨hx, hb, hrt, hml, hown, hts, hlk2, hnm, hK, hXS, hXN⟩ := id C
  refine va_newaK (atype := .byte) hx hb (hts _ (List.mem_cons_of_mem _ hac)) rfl hd rfl (nI_pos (by omega)) (xto hn) (by show n * 1 ≤ 536870912; omega) hmc hms rfl (fun H' cA h1 h2 h3 h4 h5 => ?_)
  have hcA : cA = E.2.2.2 30 := by
    have h6 : s.vm.findClass ("[" ++ (FieldType.byte).toString) = some (E.2.2.2 30) := (hK.2 2 (E.2.2.2 30, .byte) rfl).2
    exact Option.some.inj (h5.symm.trans h6)
  subst hcA
  have had : ∀ j, j < w.length → (fun j => if j = w.length then H.size else ad j) j = ad j := fun j hj => if_neg (by omega)
  have hP2 : va_P E.1 vwCl (xW E (fun j => if j = w.length then H.size else ad j) (w ++ [.inl (2, n, .inl (fun _ => 0))])) H' := by
    rw [xW_push, xW_new had hwv, if_pos rfl]
    refine (hP.kept (fun k x hx => h3 x.1 ((hP k x hx).lt))).app (fun k x hx => ?_)
    have hk0 : k = 0 := by
      have := (List.getElem?_eq_some_iff.mp hx).1
      rw [List.length_singleton] at this
      omega
    subst hk0
    cases hx
    show H'[H.size]? = some (vp_cell (E.2.2.2 30) (n, .inl (fun _ => 0)))
    rw [h1, vp_cell_i]
    rfl
  have hD2 : va_D (xA E ad0 w0 s.heap.size) (xW E (fun j => if j = w.length then H.size else ad j) (w ++ [.inl (2, n, .inl (fun _ => 0))])) := by
    rw [xW_push, xW_new had hwv, if_pos rfl]
    exact hD.push hP rfl (Or.inr hS.1)
  have hS2 : va_S (xA E ad0 w0 s.heap.size) s.heap H' locs := ⟨Nat.le_trans hS.1 (by omega), fun x h6 h7 => (h3 x (Nat.lt_of_lt_of_le h6 hS.1)).trans (hS.2.1 x h6 h7), hS.2.2⟩
  have hkk := k p e s m args below meth c ad0 _ H' locs ls C (fun z => absurd z (by omega)) (fun j hj => (had j (by omega)).trans (ha j hj)) hP2 hD2 hS2 (by rw [xL_new had hlv]; exact hl)
  have e1 : (Value.ref w.length :: st).map (xV E (fun j => if j = w.length then H.size else ad j)) = .ref H.size :: st.map (xV E ad) := by
    show xV E _ (.ref w.length) :: st.map _ = _
    rw [xM_new had hst]
    congr 1
    exact congrArg Value.ref (if_pos rfl)
  rw [e1] at hkk
  exact hkk
/-- a new object -/
theorem ev_new {idx ci N : Nat} {C0 : String} {T : u_T} {ty0 : Nat → FieldType} {fs : List Value} (hd : decode Y.2.1 pc = .ok (.new idx, 3)) (hcl : (.classLink Y.1.cls idx C0 : Cond) ∈ tbl) (hinst : (.instantiable C0 N : Cond) ∈ tbl) (hini : (.initialized C0 : Cond) ∈ tbl) (hin : ∀ w ∈ u_ws C0 T N, w ∈ tbl) (hty : ∀ k, k < N → parseFieldDescriptor (T k).2.2.1 = some (ty0 k)) (hc : vwCl[ci]? = some (C0, T, N)) (hfs : ∀ j, j < N → defaultValue (ty0 j) = vp_V fs j) (hfx : ∀ ad, fs.map (xV E ad) = fs) (hlv : lv.all (fun q => xvk w.length q.2) = true) (hst : st.all (xvk w.length) = true) (hwv : w.all (xek w.length) = true) (hlw : w0.length ≤ w.length) (hmc : nc + 1 ≤ mc) (hms : ns + N ≤ ms) (k : Ev l E Y d mc ms w0 Po (nc + 1) (ns + N) (pc + 3) lv (.ref w.length :: st) (w ++ [.inr (ci, fs)])) : Ev l E Y d mc ms w0 Po nc ns pc lv st w := by
  intro p e s m args below meth c ad0 ad H locs ls C ha0 ha hP hD hS hl
  obtain ⟨hx, hb, hrt, hml, hown, hts, hlk2, hnm, hK, hXS, hXN⟩ := id C
  refine va_new (Ts := xWs Y) hx hb hts (fun q hq => List.mem_cons_of_mem _ (hin q hq)) ty0 hty hown (hts _ (List.mem_cons_of_mem _ hcl)) (hts _ (List.mem_cons_of_mem _ hinst)) (hts _ (List.mem_cons_of_mem _ hini)) hK hP hD hS (fun q hq => Or.inr hq) hc hfs hmc hms hd (fun q H' hP1 hD1 hS1 => ?_)
  have had : ∀ j, j < w.length → (fun j => if j = w.length then q else ad j) j = ad j := fun j hj => if_neg (by omega)
  have hX : xW E (fun j => if j = w.length then q else ad j) (w ++ [.inr (ci, fs)]) = xW E ad w ++ [(q, .inr (ci, fs))] := by
    rw [xW_push, xW_new had hwv, if_pos rfl]
    congr 3
    exact congrArg Sum.inr (congrArg (Prod.mk ci) (hfx _))
  have hkk := k p e s m args below meth c ad0 _ H' locs ls C (fun z => absurd z (by omega)) (fun j hj => (had j (by omega)).trans (ha j hj)) (by rw [hX]; exact hP1) (by rw [hX]; exact hD1) hS1 (by rw [xL_new had hlv]; exact hl)
  have e1 : (Value.ref w.length :: st).map (xV E (fun j => if j = w.length then q else ad j)) = .ref q :: st.map (xV E ad) := by
    show xV E _ (.ref w.length) :: st.map _ = _
    rw [xM_new had hst]
    congr 1
    exact congrArg Value.ref (if_pos rfl)
  rw [e1] at hkk
  exact hkk
/-- Object's constructor -/
theorem ev_objinit {a idx : Nat} (hd : decode Y.2.1 pc = .ok (.invokespecial idx, 3)) (hlk : (.methodLink Y.1.cls idx Lib.objectInit : Cond) ∈ tbl) (hinst : (.instanceMethod Lib.objectInit : Cond) ∈ tbl) (hcode : (.code Lib.objectInit ⟨#[0xb1]⟩ 1 none : Cond) ∈ tbl) (hdd : 1 ≤ d) (hcat : (st.map fun v => v.category).sum ≤ 8) (k : Ev l E Y d mc ms w0 Po nc ns (pc + 3) lv st w) : Ev l E Y d mc ms w0 Po nc ns pc lv (.ref a :: st) w := by
  intro p e s m args below meth c ad0 ad H locs ls C ha0 ha hP hD hS hl
  obtain ⟨hx, hb, hrt, hml, hown, hts, hlk2, hnm, hK, hXS, hXN⟩ := id C
  have hcat2 : (((st.map (xV E ad)).map fun v => v.category).sum) ≤ 8 := by rw [xCats]; exact hcat
  exact W.objInit hx hb hown (hts _ (List.mem_cons_of_mem _ hlk)) (hts _ (List.mem_cons_of_mem _ hinst)) (hts _ (List.mem_cons_of_mem _ hcode)) (g := F0 m pc ls ((Value.ref a :: st).map (xV E ad))) rfl (hl.1.trans hml.symm) (a := ad a) (rest := st.map (xV E ad)) rfl hd hdd (by show 2 * 0 + _ + 12 ≤ 100 * d; omega) (k p e s m args below meth c ad0 ad H locs ls C ha0 ha hP hD hS hl)
end SBR
/-- bytes, capacity, count -/
abbrev SbN : Type := (Nat → Int32) × Nat × Nat
abbrev SbN.f (s : SbN) : Nat → Int32 := s.1
abbrev SbN.m (s : SbN) : Nat := s.2.1
abbrev SbN.n (s : SbN) : Nat := s.2.2
def sbW (b : Nat) (s : SbN) : AW := [.inr (0, [.ref (b + 1), .int (nI 0), .int (nI 0), .int (nI s.n)]), .inl (2, s.m, .inl s.f)]
/-- behind a growth: the old bytes lie there still -/
def sbV (b : Nat) (o : SbN) (s : SbN) : AW := [.inr (0, [.ref (b + 2), .int (nI 0), .int (nI 0), .int (nI s.n)]), .inl (2, o.m, .inl o.f), .inl (2, s.m, .inl s.f)]
/-- what it holds -/
def SbL (L : List Nat) (s : SbN) : Prop := s.n = L.length ∧ L.length ≤ s.m ∧ s.m ≤ 4096 ∧ sb_Fit s.f ∧ ∀ (j x : Nat), L[j]? = some x → x < 256 ∧ s.f j = sb_b x
theorem sbL_put {L : List Nat} {s : SbN} {x : Nat} (h : SbL L s) (hm : s.n < s.m) (hx : x < 256) : SbL (L ++ [x]) ((upd s.f s.n (sb_b x), s.m, s.n + 1) : SbN) := by
  obtain ⟨h1, h2, h3, h4, h5⟩ := h
  have hl : (L ++ [x]).length = L.length + 1 := List.length_append
  refine ⟨by rw [hl, ← h1], by rw [hl]; show L.length + 1 ≤ s.m; omega, h3, sb_fitU h4 (sb_fitB x), fun j y hy => ?_⟩
  show y < 256 ∧ upd s.f s.n (sb_b x) j = sb_b y
  by_cases hj : j < L.length
  · rw [List.getElem?_append_left hj] at hy
    have := h5 j y hy
    refine ⟨this.1, ?_⟩
    unfold upd
    rw [if_neg (by omega)]
    exact this.2
  · rw [List.getElem?_append_right (by omega)] at hy
    have hj2 : j - L.length < 1 := (List.getElem?_eq_some_iff.mp hy).1
    have hj3 : j = s.n := by omega
    subst hj3
    rw [h1, Nat.sub_self] at hy
    cases hy
    refine ⟨hx, ?_⟩
    unfold upd
    rw [if_pos rfl]
theorem sbL_grow {L : List Nat} {s : SbN} {m2 : Nat} (h : SbL L s) (hm : s.m ≤ m2) (h2 : m2 ≤ 4096) : SbL L ((va_cpy s.f (fun _ => 0) 0 0 s.m, m2, s.n) : SbN) := by
  obtain ⟨h1, h2', h3, h4, h5⟩ := h
  refine ⟨h1, Nat.le_trans h2' hm, h2, sb_fitC h4 sb_fit0, fun j x hx => ?_⟩
  have hj : j < L.length := (List.getElem?_eq_some_iff.mp hx).1
  have := h5 j x hx
  refine ⟨this.1, ?_⟩
  show va_cpy s.f (fun _ => 0) 0 0 s.m j = sb_b x
  rw [sb_cpy0 (by omega)]
  exact this.2

theorem bJ8_newLength_cabcc_0_3 {l : Launch} {E : XE} : Snd l E mJ8_newLength_cabcc 0 3 (xs [x_iload 0, x_iload 1, x_iload 2]) := Snd.cons (snd_iload_n (i := 0) dJ8_newLength_cabcc_0 rfl) (Snd.cons (snd_iload_n (i := 1) dJ8_newLength_cabcc_1 rfl) (Snd.cons (snd_iload_n (i := 2) dJ8_newLength_cabcc_2 rfl) Snd.nil))
theorem bJ8_newLength_cabcc_7_10 {l : Launch} {E : XE} : Snd l E mJ8_newLength_cabcc 7 10 (xs [x_istore 3, x_push (.int (nI 0)), x_iload 3]) := Snd.cons (snd_istore_n (i := 3) dJ8_newLength_cabcc_7 rfl (by decide)) (Snd.cons (snd_iconst (v := nI 0) dJ8_newLength_cabcc_8 (by decide)) (Snd.cons (snd_iload_n (i := 3) dJ8_newLength_cabcc_9 rfl) Snd.nil))
theorem bJ8_newLength_cabcc_13_16 {l : Launch} {E : XE} : Snd l E mJ8_newLength_cabcc 13 16 (xs [x_iload 3, x_push (.int (nI 2147483639))]) := Snd.cons (snd_iload_n (i := 3) dJ8_newLength_cabcc_13 rfl) (Snd.cons (snd_ldc (v := nI 2147483639) dJ8_newLength_cabcc_14 tw_1356) Snd.nil)
theorem bJ8_newLength_cabcc_19_20 {l : Launch} {E : XE} : Snd l E mJ8_newLength_cabcc 19 20 (xs [x_iload 3]) := Snd.cons (snd_iload_n (i := 3) dJ8_newLength_cabcc_19 rfl) Snd.nil
set_option maxHeartbeats 4000000 in
set_option maxRecDepth 100000 in
theorem m_J8_newLength_cabcc {l : Launch} {E : XE} (a b c : Nat) (h : a + max b c ≤ 65536) (h0 : 0 < a + max b c) : MetE l E mJ8_newLength_cabcc (1) 0 0 [.int (nI (a)), .int (nI (b)), .int (nI (c))] ([]) (fun r w' => r = some (.int (nI (a + max b c))) ∧ w' = []) := by
  refine MetE.of (by decide +kernel) (Nat.le_of_ble_eq_true rfl) ?_
  refine ev_eq (lv' := [(0, .int (nI (a))), (1, .int (nI (b))), (2, .int (nI (c)))]) (st' := []) (w' := []) rfl rfl rfl ?_
  refine ev_b bJ8_newLength_cabcc_0_3 (lv' := [(0, .int (nI (a))), (1, .int (nI (b))), (2, .int (nI (c)))]) (st' := [.int (nI (c)), .int (nI (b)), .int (nI (a))]) (w2 := []) rfl ?_
  refine ev_max dJ8_newLength_cabcc_3 tw_1355 tw_655 tw_15 tw_656 (by decide) (Nat.le_of_ble_eq_true rfl) (Nat.le_refl _) (Nat.le_refl _) ?_
  refine ev_top (n_max (by have := Nat.le_max_left b c; omega) (by have := Nat.le_max_right b c; omega)) ?_
  refine ev_iadd_n dJ8_newLength_cabcc_6 ?_
  refine ev_b bJ8_newLength_cabcc_7_10 (lv' := [(3, .int (nI (a + (max b c)))), (0, .int (nI (a))), (1, .int (nI (b))), (2, .int (nI (c)))]) (st' := [.int (nI (a + (max b c))), .int (nI (0))]) (w2 := []) rfl ?_
  refine ev_icmp_ge_n (tgt := 21) (by decide) (by omega) dJ8_newLength_cabcc_10 (by decide) (fun h10 => (by exfalso; omega)) (fun h10 => ?_)
  refine ev_b bJ8_newLength_cabcc_13_16 (lv' := [(3, .int (nI (a + (max b c)))), (0, .int (nI (a))), (1, .int (nI (b))), (2, .int (nI (c)))]) (st' := [.int (nI (2147483639)), .int (nI (a + (max b c)))]) (w2 := []) rfl ?_
  refine ev_icmp_gt_n (tgt := 21) (by omega) (by decide) dJ8_newLength_cabcc_16 (by decide) (fun h16 => (by exfalso; omega)) (fun h16 => ?_)
  refine ev_b bJ8_newLength_cabcc_19_20 (lv' := [(3, .int (nI (a + (max b c)))), (0, .int (nI (a))), (1, .int (nI (b))), (2, .int (nI (c)))]) (st' := [.int (nI (a + (max b c)))]) (w2 := []) rfl ?_
  exact ev_iret dJ8_newLength_cabcc_20 rfl (Nat.le_of_ble_eq_true rfl) (Nat.le_refl _) (Nat.le_refl _) ⟨(congrArg (fun t => some (Value.int (nI t))) (show a + (max b c) = a + max b c from by omega)), rfl⟩
theorem bJ5_isLatin1_aae02_6_10 {l : Launch} {E : XE} : Snd l E mJ5_isLatin1_aae02 6 10 (xs [x_aload 0, x_get 0 1]) := Snd.cons (snd_aload_n (i := 0) dJ5_isLatin1_aae02_6 rfl) (Snd.cons (snd_get (ci := 0) (k := 1) dJ5_isLatin1_aae02_7 rfl inJ4 (by decide) tw_1319) Snd.nil)
theorem bJ5_isLatin1_aae02_13_18 {l : Launch} {E : XE} : Snd l E mJ5_isLatin1_aae02 13 18 (xs [x_push (.int (nI 1)), x_id]) := Snd.cons (snd_iconst (v := nI 1) dJ5_isLatin1_aae02_13 (by decide)) (Snd.cons (snd_goto (tgt := 18) dJ5_isLatin1_aae02_14 (by decide)) Snd.nil)
set_option maxHeartbeats 4000000 in
set_option maxRecDepth 100000 in
theorem m_J5_isLatin1_aae02 {l : Launch} {E : XE} (s : SbN)  : MetE l E mJ5_isLatin1_aae02 (0) 0 0 [.ref 0] (sbW 0 s) (fun r w' => r = some (.int (nI (1))) ∧ w' = sbW 0 s) := by
  refine MetE.of (by decide +kernel) (Nat.le_of_ble_eq_true rfl) ?_
  refine ev_eq (lv' := [(0, .ref 0)]) (st' := []) (w' := sbW 0 s) rfl rfl rfl ?_
  refine ev_getsC dJ5_isLatin1_aae02_0 tw_1310 ?_
  refine ev_if_eq_n (tgt := 17) (by decide) dJ5_isLatin1_aae02_3 (by decide) (fun h3 => (by exfalso; omega)) (fun h3 => ?_)
  refine ev_b bJ5_isLatin1_aae02_6_10 (lv' := [(0, .ref 0)]) (st' := [.int (nI (0))]) (w2 := sbW 0 s) rfl ?_
  refine ev_if_ne_n (tgt := 17) (by decide) dJ5_isLatin1_aae02_10 (by decide) (fun h10 => (by exfalso; omega)) (fun h10 => ?_)
  refine ev_b bJ5_isLatin1_aae02_13_18 (lv' := [(0, .ref 0)]) (st' := [.int (nI (1))]) (w2 := sbW 0 s) rfl ?_
  exact ev_zret dJ5_isLatin1_aae02_18 rfl rfl (Nat.le_of_ble_eq_true rfl) (Nat.le_refl _) (Nat.le_refl _) ⟨rfl, rfl⟩
theorem bJ1_canEncode_fc78d_0_4 {l : Launch} {E : XE} : Snd l E mJ1_canEncode_fc78d 0 4 (xs [x_iload 0, x_push (.int (nI 255))]) := Snd.cons (snd_iload_n (i := 0) dJ1_canEncode_fc78d_0 rfl) (Snd.cons (snd_sipush (v := nI 255) dJ1_canEncode_fc78d_1 (by decide)) Snd.nil)
theorem bJ1_canEncode_fc78d_7_12 {l : Launch} {E : XE} : Snd l E mJ1_canEncode_fc78d 7 12 (xs [x_push (.int (nI 1)), x_id]) := Snd.cons (snd_iconst (v := nI 1) dJ1_canEncode_fc78d_7 (by decide)) (Snd.cons (snd_goto (tgt := 12) dJ1_canEncode_fc78d_8 (by decide)) Snd.nil)
set_option maxHeartbeats 4000000 in
set_option maxRecDepth 100000 in
theorem m_J1_canEncode_fc78d {l : Launch} {E : XE} (c : Nat) (hc : c < 256) : MetE l E mJ1_canEncode_fc78d (0) 0 0 [.int (nI (c))] ([]) (fun r w' => r = some (.int (nI (1))) ∧ w' = []) := by
  refine MetE.of (by decide +kernel) (Nat.le_of_ble_eq_true rfl) ?_
  refine ev_eq (lv' := [(0, .int (nI (c)))]) (st' := []) (w' := []) rfl rfl rfl ?_
  refine ev_b bJ1_canEncode_fc78d_0_4 (lv' := [(0, .int (nI (c)))]) (st' := [.int (nI (255)), .int (nI (c))]) (w2 := []) rfl ?_
  refine ev_icmp_gt_n (tgt := 11) (by omega) (by decide) dJ1_canEncode_fc78d_4 (by decide) (fun h4 => (by exfalso; omega)) (fun h4 => ?_)
  refine ev_b bJ1_canEncode_fc78d_7_12 (lv' := [(0, .int (nI (c)))]) (st' := [.int (nI (1))]) (w2 := []) rfl ?_
  exact ev_zret dJ1_canEncode_fc78d_12 rfl rfl (Nat.le_of_ble_eq_true rfl) (Nat.le_refl _) (Nat.le_refl _) ⟨rfl, rfl⟩
theorem bJ5_newCapacity_0f7a4_0_4 {l : Launch} {E : XE} : Snd l E mJ5_newCapacity_0f7a4 0 4 (xs [x_aload 0, x_get 0 0]) := Snd.cons (snd_aload_n (i := 0) dJ5_newCapacity_0f7a4_0 rfl) (Snd.cons (snd_get (ci := 0) (k := 0) dJ5_newCapacity_0f7a4_1 rfl inJ4 (by decide) tw_1318) Snd.nil)
theorem bJ5_newCapacity_0f7a4_5_11 {l : Launch} {E : XE} : Snd l E mJ5_newCapacity_0f7a4 5 11 (xs [x_istore 2, x_iload 1, x_aload 0, x_get 0 1]) := Snd.cons (snd_istore_n (i := 2) dJ5_newCapacity_0f7a4_5 rfl (by decide)) (Snd.cons (snd_iload_n (i := 1) dJ5_newCapacity_0f7a4_6 rfl) (Snd.cons (snd_aload_n (i := 0) dJ5_newCapacity_0f7a4_7 rfl) (Snd.cons (snd_get (ci := 0) (k := 1) dJ5_newCapacity_0f7a4_8 rfl inJ4 (by decide) tw_1319) Snd.nil)))
theorem bJ5_newCapacity_0f7a4_12_15 {l : Launch} {E : XE} : Snd l E mJ5_newCapacity_0f7a4 12 15 (xs [x_istore 3, x_iload 3, x_iload 2]) := Snd.cons (snd_istore_n (i := 3) dJ5_newCapacity_0f7a4_12 rfl (by decide)) (Snd.cons (snd_iload_n (i := 3) dJ5_newCapacity_0f7a4_13 rfl) (Snd.cons (snd_iload_n (i := 2) dJ5_newCapacity_0f7a4_14 rfl) Snd.nil))
theorem bJ5_newCapacity_0f7a4_16_27 {l : Launch} {E : XE} : Snd l E mJ5_newCapacity_0f7a4 16 27 (xs [x_istore 4, x_iload 2, x_iload 4, x_iload 2, x_push (.int (nI 2)), x_aload 0, x_get 0 1]) := Snd.cons (snd_istore dJ5_newCapacity_0f7a4_16 (by decide)) (Snd.cons (snd_iload_n (i := 2) dJ5_newCapacity_0f7a4_18 rfl) (Snd.cons (snd_iload dJ5_newCapacity_0f7a4_19) (Snd.cons (snd_iload_n (i := 2) dJ5_newCapacity_0f7a4_21 rfl) (Snd.cons (snd_iconst (v := nI 2) dJ5_newCapacity_0f7a4_22 (by decide)) (Snd.cons (snd_aload_n (i := 0) dJ5_newCapacity_0f7a4_23 rfl) (Snd.cons (snd_get (ci := 0) (k := 1) dJ5_newCapacity_0f7a4_24 rfl inJ4 (by decide) tw_1319) Snd.nil))))))
theorem bJ5_newCapacity_0f7a4_32_38 {l : Launch} {E : XE} : Snd l E mJ5_newCapacity_0f7a4 32 38 (xs [x_istore 5, x_iload 5, x_push (.int (nI 2147483647))]) := Snd.cons (snd_istore dJ5_newCapacity_0f7a4_32 (by decide)) (Snd.cons (snd_iload dJ5_newCapacity_0f7a4_34) (Snd.cons (snd_ldc (v := nI 2147483647) dJ5_newCapacity_0f7a4_36 tw_1360) Snd.nil))
theorem bJ5_newCapacity_0f7a4_51_57 {l : Launch} {E : XE} : Snd l E mJ5_newCapacity_0f7a4 51 57 (xs [x_iload 5, x_aload 0, x_get 0 1]) := Snd.cons (snd_iload dJ5_newCapacity_0f7a4_51) (Snd.cons (snd_aload_n (i := 0) dJ5_newCapacity_0f7a4_53 rfl) (Snd.cons (snd_get (ci := 0) (k := 1) dJ5_newCapacity_0f7a4_54 rfl inJ4 (by decide) tw_1319) Snd.nil))
set_option maxHeartbeats 4000000 in
set_option maxRecDepth 100000 in
theorem m_J5_newCapacity_0f7a4 {l : Launch} {E : XE} (s : SbN) (q : Nat) (h1 : s.m < q) (h2 : q ≤ 2 * s.m + 2) (h4 : s.m ≤ 4096) : MetE l E mJ5_newCapacity_0f7a4 (2) 0 0 [.ref 0, .int (nI (q))] (sbW 0 s) (fun r w' => r = some (.int (nI (2 * s.m + 2))) ∧ w' = sbW 0 s) := by
  refine MetE.of (by decide +kernel) (Nat.le_of_ble_eq_true rfl) ?_
  have hmx : s.m + max (q - s.m) (s.m + 2) = 2 * s.m + 2 := by rw [Nat.max_eq_right (by omega)]; omega
  refine ev_eq (lv' := [(0, .ref 0), (1, .int (nI (q)))]) (st' := []) (w' := sbW 0 s) rfl rfl rfl ?_
  refine ev_b bJ5_newCapacity_0f7a4_0_4 (lv' := [(0, .ref 0), (1, .int (nI (q)))]) (st' := [.ref 1]) (w2 := sbW 0 s) rfl ?_
  refine ev_lenb dJ5_newCapacity_0f7a4_4 rfl ?_
  refine ev_b bJ5_newCapacity_0f7a4_5_11 (lv' := [(2, .int (nI (s.m))), (0, .ref 0), (1, .int (nI (q)))]) (st' := [.int (nI (0)), .int (nI (q))]) (w2 := sbW 0 s) rfl ?_
  refine ev_ishl_n (by omega) dJ5_newCapacity_0f7a4_11 ?_
  refine ev_top (y := (nI (q))) (congrArg nI (show q <<< 0 = q from by exact Nat.shiftLeft_zero)) ?_
  refine ev_b bJ5_newCapacity_0f7a4_12_15 (lv' := [(3, .int (nI (q))), (2, .int (nI (s.m))), (0, .ref 0), (1, .int (nI (q)))]) (st' := [.int (nI (s.m)), .int (nI (q))]) (w2 := sbW 0 s) rfl ?_
  refine ev_isub_n (by omega) dJ5_newCapacity_0f7a4_15 ?_
  refine ev_b bJ5_newCapacity_0f7a4_16_27 (lv' := [(4, .int (nI (q - s.m))), (3, .int (nI (q))), (2, .int (nI (s.m))), (0, .ref 0), (1, .int (nI (q)))]) (st' := [.int (nI (0)), .int (nI (2)), .int (nI (s.m)), .int (nI (q - s.m)), .int (nI (s.m))]) (w2 := sbW 0 s) rfl ?_
  refine ev_ishl_n (by omega) dJ5_newCapacity_0f7a4_27 ?_
  refine ev_top (y := (nI (2))) (congrArg nI (show 2 <<< 0 = 2 from by rfl)) ?_
  refine ev_iadd_n dJ5_newCapacity_0f7a4_28 ?_
  refine ev_callS (Yc := mJ8_newLength_cabcc) [] dJ5_newCapacity_0f7a4_29 tw_1352 kJ8_newLength_cabcc (m_J8_newLength_cabcc s.m (q - s.m) (s.m + 2) (by omega) (by omega)) rfl (st := []) rfl (by decide) rfl (by decide) (Nat.le_of_ble_eq_true rfl) (Nat.le_refl _) (Nat.le_refl _) (fun r w' h => by obtain ⟨-, rfl⟩ := h; exact Nat.le_of_ble_eq_true rfl) ?_
  rintro _ _ ⟨rfl, rfl⟩
  refine ev_eq (lv' := [(4, .int (nI (q - s.m))), (3, .int (nI (q))), (2, .int (nI (s.m))), (0, .ref 0), (1, .int (nI (q)))]) (st' := [.int (nI (s.m + max (q - s.m) (s.m + 2)))]) (w' := sbW 0 s) rfl rfl rfl ?_
  refine ev_top (y := (nI (2 * s.m + 2))) (congrArg nI (show s.m + max (q - s.m) (s.m + 2) = 2 * s.m + 2 from by exact hmx)) ?_
  refine ev_b bJ5_newCapacity_0f7a4_32_38 (lv' := [(5, .int (nI (2 * s.m + 2))), (4, .int (nI (q - s.m))), (3, .int (nI (q))), (2, .int (nI (s.m))), (0, .ref 0), (1, .int (nI (q)))]) (st' := [.int (nI (2147483647)), .int (nI (2 * s.m + 2))]) (w2 := sbW 0 s) rfl ?_
  refine ev_icmp_ne_n (tgt := 51) (by omega) (by decide) dJ5_newCapacity_0f7a4_38 (by decide) (fun h38 => ?_) (fun h38 => (by exfalso; omega))
  refine ev_b bJ5_newCapacity_0f7a4_51_57 (lv' := [(5, .int (nI (2 * s.m + 2))), (4, .int (nI (q - s.m))), (3, .int (nI (q))), (2, .int (nI (s.m))), (0, .ref 0), (1, .int (nI (q)))]) (st' := [.int (nI (0)), .int (nI (2 * s.m + 2))]) (w2 := sbW 0 s) rfl ?_
  refine ev_ishr_n (by omega) (by omega) dJ5_newCapacity_0f7a4_57 ?_
  refine ev_top (y := (nI (2 * s.m + 2))) (congrArg nI (show (2 * s.m + 2) >>> 0 = 2 * s.m + 2 from by exact Nat.shiftRight_zero)) ?_
  exact ev_iret dJ5_newCapacity_0f7a4_58 rfl (Nat.le_of_ble_eq_true rfl) (Nat.le_refl _) (Nat.le_refl _) ⟨rfl, rfl⟩
theorem bJ7_copyOf_9075b_0_2 {l : Launch} {E : XE} : Snd l E mJ7_copyOf_9075b 0 2 (xs [x_iload 1, x_aload 0]) := Snd.cons (snd_iload_n (i := 1) dJ7_copyOf_9075b_0 rfl) (Snd.cons (snd_aload_n (i := 0) dJ7_copyOf_9075b_1 rfl) Snd.nil)
theorem bJ7_copyOf_9075b_14_15 {l : Launch} {E : XE} : Snd l E mJ7_copyOf_9075b 14 15 (xs [x_iload 1]) := Snd.cons (snd_iload_n (i := 1) dJ7_copyOf_9075b_14 rfl) Snd.nil
theorem bJ7_copyOf_9075b_17_23 {l : Launch} {E : XE} : Snd l E mJ7_copyOf_9075b 17 23 (xs [x_astore 2, x_aload 0, x_push (.int (nI 0)), x_aload 2, x_push (.int (nI 0)), x_aload 0]) := Snd.cons (snd_astore_n (i := 2) dJ7_copyOf_9075b_17 rfl (by decide)) (Snd.cons (snd_aload_n (i := 0) dJ7_copyOf_9075b_18 rfl) (Snd.cons (snd_iconst (v := nI 0) dJ7_copyOf_9075b_19 (by decide)) (Snd.cons (snd_aload_n (i := 2) dJ7_copyOf_9075b_20 rfl) (Snd.cons (snd_iconst (v := nI 0) dJ7_copyOf_9075b_21 (by decide)) (Snd.cons (snd_aload_n (i := 0) dJ7_copyOf_9075b_22 rfl) Snd.nil)))))
theorem bJ7_copyOf_9075b_24_25 {l : Launch} {E : XE} : Snd l E mJ7_copyOf_9075b 24 25 (xs [x_iload 1]) := Snd.cons (snd_iload_n (i := 1) dJ7_copyOf_9075b_24 rfl) Snd.nil
theorem bJ7_copyOf_9075b_31_32 {l : Launch} {E : XE} : Snd l E mJ7_copyOf_9075b 31 32 (xs [x_aload 2]) := Snd.cons (snd_aload_n (i := 2) dJ7_copyOf_9075b_31 rfl) Snd.nil
set_option maxHeartbeats 4000000 in
set_option maxRecDepth 100000 in
theorem m_J7_copyOf_9075b {l : Launch} {E : XE} (m q : Nat) (f : Nat → Int32) (h1 : m < q) (h2 : q ≤ 65536) (hF : sb_Fit f) : MetE l E mJ7_copyOf_9075b (1) 1 q [.ref 0, .int (nI (q))] (([.inl (2, m, .inl (f))] : AW)) (fun r w' => r = some (.ref 1) ∧ w' = ([.inl (2, m, .inl (f))] : AW) ++ ([.inl (2, q, .inl (va_cpy f (fun _ => 0) 0 0 m))] : AW)) := by
  refine MetE.of (by decide +kernel) (Nat.le_of_ble_eq_true rfl) ?_
  refine ev_eq (lv' := [(0, .ref 0), (1, .int (nI (q)))]) (st' := []) (w' := ([.inl (2, m, .inl (f))] : AW)) rfl rfl rfl ?_
  refine ev_b bJ7_copyOf_9075b_0_2 (lv' := [(0, .ref 0), (1, .int (nI (q)))]) (st' := [.ref 0, .int (nI (q))]) (w2 := ([.inl (2, m, .inl (f))] : AW)) rfl ?_
  refine ev_lenb dJ7_copyOf_9075b_2 rfl ?_
  refine ev_icmp_ne_n (tgt := 14) (by omega) (by omega) dJ7_copyOf_9075b_3 (by decide) (fun h3 => ?_) (fun h3 => (by exfalso; omega))
  refine ev_b bJ7_copyOf_9075b_14_15 (lv' := [(0, .ref 0), (1, .int (nI (q)))]) (st' := [.int (nI (q))]) (w2 := ([.inl (2, m, .inl (f))] : AW)) rfl ?_
  refine ev_newb dJ7_copyOf_9075b_15 tw_432 (by omega) rfl rfl rfl (Nat.le_of_ble_eq_true rfl) (by omega) (by omega) ?_
  refine ev_eq (st' := [.ref 1]) (w' := ([.inl (2, m, .inl (f))] : AW) ++ ([.inl (2, q, .inl ((fun _ => 0)))] : AW)) rfl rfl rfl ?_
  refine ev_b bJ7_copyOf_9075b_17_23 (lv' := [(2, .ref 1), (0, .ref 0), (1, .int (nI (q)))]) (st' := [.ref 0, .int (nI (0)), .ref 1, .int (nI (0)), .ref 0]) (w2 := ([.inl (2, m, .inl (f))] : AW) ++ ([.inl (2, q, .inl ((fun _ => 0)))] : AW)) rfl ?_
  refine ev_lenb dJ7_copyOf_9075b_23 rfl ?_
  refine ev_b bJ7_copyOf_9075b_24_25 (lv' := [(2, .ref 1), (0, .ref 0), (1, .int (nI (q)))]) (st' := [.int (nI (q)), .int (nI (m)), .int (nI (0)), .ref 1, .int (nI (0)), .ref 0]) (w2 := ([.inl (2, m, .inl (f))] : AW) ++ ([.inl (2, q, .inl ((fun _ => 0)))] : AW)) rfl ?_
  refine ev_min dJ7_copyOf_9075b_25 tw_1371 tw_739 tw_15 tw_740 (by decide) (Nat.le_of_ble_eq_true rfl) (by omega) (by omega) ?_
  refine ev_top (n_min (by omega) (by omega)) ?_
  refine ev_top (y := (nI (m))) (congrArg nI (show min m q = m from by exact Nat.min_eq_left (by omega))) ?_
  refine ev_copyb dJ7_copyOf_9075b_28 tw_1372 tw_378 tw_377 tw_13 rfl rfl (by omega) (by omega) hF (by decide) (Nat.le_of_ble_eq_true rfl) ?_
  refine ev_eq (w' := ([.inl (2, m, .inl (f))] : AW) ++ ([.inl (2, q, .inl (va_cpy f ((fun _ => 0)) 0 0 m))] : AW)) rfl rfl rfl ?_
  refine ev_b bJ7_copyOf_9075b_31_32 (lv' := [(2, .ref 1), (0, .ref 0), (1, .int (nI (q)))]) (st' := [.ref 1]) (w2 := ([.inl (2, m, .inl (f))] : AW) ++ ([.inl (2, q, .inl (va_cpy f ((fun _ => 0)) 0 0 m))] : AW)) rfl ?_
  exact ev_bret dJ7_copyOf_9075b_32 rfl (Nat.le_of_ble_eq_true rfl) (by omega) (by omega) ⟨rfl, (by rfl)⟩
theorem bJ5_ensureCapacityInternal_d00df_0_4 {l : Launch} {E : XE} : Snd l E mJ5_ensureCapacityInternal_d00df 0 4 (xs [x_aload 0, x_get 0 0]) := Snd.cons (snd_aload_n (i := 0) dJ5_ensureCapacityInternal_d00df_0 rfl) (Snd.cons (snd_get (ci := 0) (k := 0) dJ5_ensureCapacityInternal_d00df_1 rfl inJ4 (by decide) tw_1318) Snd.nil)
theorem bJ5_ensureCapacityInternal_d00df_5_9 {l : Launch} {E : XE} : Snd l E mJ5_ensureCapacityInternal_d00df 5 9 (xs [x_aload 0, x_get 0 1]) := Snd.cons (snd_aload_n (i := 0) dJ5_ensureCapacityInternal_d00df_5 rfl) (Snd.cons (snd_get (ci := 0) (k := 1) dJ5_ensureCapacityInternal_d00df_6 rfl inJ4 (by decide) tw_1319) Snd.nil)
theorem bJ5_ensureCapacityInternal_d00df_10_13 {l : Launch} {E : XE} : Snd l E mJ5_ensureCapacityInternal_d00df 10 13 (xs [x_istore 2, x_iload 1, x_iload 2]) := Snd.cons (snd_istore_n (i := 2) dJ5_ensureCapacityInternal_d00df_10 rfl (by decide)) (Snd.cons (snd_iload_n (i := 1) dJ5_ensureCapacityInternal_d00df_11 rfl) (Snd.cons (snd_iload_n (i := 2) dJ5_ensureCapacityInternal_d00df_12 rfl) Snd.nil))
set_option maxHeartbeats 4000000 in
set_option maxRecDepth 100000 in
theorem m_J5_ensure_n {l : Launch} {E : XE} (s : SbN) (q : Nat) (h : q ≤ s.m) (h4 : s.m ≤ 4096) : MetE l E mJ5_ensureCapacityInternal_d00df (0) 0 0 [.ref 0, .int (nI (q))] (sbW 0 s) (fun r w' => r = none ∧ w' = sbW 0 s) := by
  refine MetE.of (by decide +kernel) (Nat.le_of_ble_eq_true rfl) ?_
  refine ev_eq (lv' := [(0, .ref 0), (1, .int (nI (q)))]) (st' := []) (w' := sbW 0 s) rfl rfl rfl ?_
  refine ev_b bJ5_ensureCapacityInternal_d00df_0_4 (lv' := [(0, .ref 0), (1, .int (nI (q)))]) (st' := [.ref 1]) (w2 := sbW 0 s) rfl ?_
  refine ev_lenb dJ5_ensureCapacityInternal_d00df_4 rfl ?_
  refine ev_b bJ5_ensureCapacityInternal_d00df_5_9 (lv' := [(0, .ref 0), (1, .int (nI (q)))]) (st' := [.int (nI (0)), .int (nI (s.m))]) (w2 := sbW 0 s) rfl ?_
  refine ev_ishr_n (by omega) (by omega) dJ5_ensureCapacityInternal_d00df_9 ?_
  refine ev_top (y := (nI (s.m))) (congrArg nI (show s.m >>> 0 = s.m from by exact Nat.shiftRight_zero)) ?_
  refine ev_b bJ5_ensureCapacityInternal_d00df_10_13 (lv' := [(2, .int (nI (s.m))), (0, .ref 0), (1, .int (nI (q)))]) (st' := [.int (nI (s.m)), .int (nI (q))]) (w2 := sbW 0 s) rfl ?_
  refine ev_top (y := zI (((s.m : Nat) : Int))) (zI_nat _).symm ?_
  refine ev_top2 (y := zI (((q : Nat) : Int))) (zI_nat _).symm ?_
  refine ev_isub_z dJ5_ensureCapacityInternal_d00df_13 ?_
  refine ev_if_le_z (tgt := 38) (by constructor <;> omega) dJ5_ensureCapacityInternal_d00df_14 (by decide) (fun h14 => ?_) (fun h14 => (by exfalso; omega))
  exact ev_vret dJ5_ensureCapacityInternal_d00df_38 rfl (Nat.le_of_ble_eq_true rfl) (Nat.le_refl _) (Nat.le_refl _) ⟨rfl, rfl⟩
theorem bJ5_ensureCapacityInternal_d00df_17_24 {l : Launch} {E : XE} : Snd l E mJ5_ensureCapacityInternal_d00df 17 24 (xs [x_aload 0, x_aload 0, x_get 0 0, x_aload 0, x_iload 1]) := Snd.cons (snd_aload_n (i := 0) dJ5_ensureCapacityInternal_d00df_17 rfl) (Snd.cons (snd_aload_n (i := 0) dJ5_ensureCapacityInternal_d00df_18 rfl) (Snd.cons (snd_get (ci := 0) (k := 0) dJ5_ensureCapacityInternal_d00df_19 rfl inJ4 (by decide) tw_1318) (Snd.cons (snd_aload_n (i := 0) dJ5_ensureCapacityInternal_d00df_22 rfl) (Snd.cons (snd_iload_n (i := 1) dJ5_ensureCapacityInternal_d00df_23 rfl) Snd.nil))))
theorem bJ5_ensureCapacityInternal_d00df_27_31 {l : Launch} {E : XE} : Snd l E mJ5_ensureCapacityInternal_d00df 27 31 (xs [x_aload 0, x_get 0 1]) := Snd.cons (snd_aload_n (i := 0) dJ5_ensureCapacityInternal_d00df_27 rfl) (Snd.cons (snd_get (ci := 0) (k := 1) dJ5_ensureCapacityInternal_d00df_28 rfl inJ4 (by decide) tw_1319) Snd.nil)
set_option maxHeartbeats 4000000 in
set_option maxRecDepth 100000 in
theorem m_J5_ensure_g {l : Launch} {E : XE} (s : SbN) (q : Nat) (h1 : s.m < q) (h2 : q ≤ 2 * s.m + 2) (h4 : s.m ≤ 4096) (hF : sb_Fit s.f) : MetE l E mJ5_ensureCapacityInternal_d00df (3) 1 (2 * s.m + 2) [.ref 0, .int (nI (q))] (sbW 0 s) (fun r w' => r = none ∧ w' = sbV 0 s ((va_cpy s.f (fun _ => 0) 0 0 s.m, 2 * s.m + 2, s.n) : SbN)) := by
  refine MetE.of (by decide +kernel) (Nat.le_of_ble_eq_true rfl) ?_
  refine ev_eq (lv' := [(0, .ref 0), (1, .int (nI (q)))]) (st' := []) (w' := sbW 0 s) rfl rfl rfl ?_
  refine ev_b bJ5_ensureCapacityInternal_d00df_0_4 (lv' := [(0, .ref 0), (1, .int (nI (q)))]) (st' := [.ref 1]) (w2 := sbW 0 s) rfl ?_
  refine ev_lenb dJ5_ensureCapacityInternal_d00df_4 rfl ?_
  refine ev_b bJ5_ensureCapacityInternal_d00df_5_9 (lv' := [(0, .ref 0), (1, .int (nI (q)))]) (st' := [.int (nI (0)), .int (nI (s.m))]) (w2 := sbW 0 s) rfl ?_
  refine ev_ishr_n (by omega) (by omega) dJ5_ensureCapacityInternal_d00df_9 ?_
  refine ev_top (y := (nI (s.m))) (congrArg nI (show s.m >>> 0 = s.m from by exact Nat.shiftRight_zero)) ?_
  refine ev_b bJ5_ensureCapacityInternal_d00df_10_13 (lv' := [(2, .int (nI (s.m))), (0, .ref 0), (1, .int (nI (q)))]) (st' := [.int (nI (s.m)), .int (nI (q))]) (w2 := sbW 0 s) rfl ?_
  refine ev_top (y := zI (((s.m : Nat) : Int))) (zI_nat _).symm ?_
  refine ev_top2 (y := zI (((q : Nat) : Int))) (zI_nat _).symm ?_
  refine ev_isub_z dJ5_ensureCapacityInternal_d00df_13 ?_
  refine ev_if_le_z (tgt := 38) (by constructor <;> omega) dJ5_ensureCapacityInternal_d00df_14 (by decide) (fun h14 => (by exfalso; omega)) (fun h14 => ?_)
  refine ev_b bJ5_ensureCapacityInternal_d00df_17_24 (lv' := [(2, .int (nI (s.m))), (0, .ref 0), (1, .int (nI (q)))]) (st' := [.int (nI (q)), .ref 0, .ref 1, .ref 0]) (w2 := sbW 0 s) rfl ?_
  refine ev_callU (Yc := mJ5_newCapacity_0f7a4) [0, 1] dJ5_ensureCapacityInternal_d00df_24 tw_1348 kJ5_newCapacity_0f7a4 tx_1 (m_J5_newCapacity_0f7a4 s q h1 h2 h4) rfl (st := [.ref 1, .ref 0]) rfl rfl rfl (by decide) rfl (by decide) (Nat.le_of_ble_eq_true rfl) (by omega) (by omega) (fun r w' h => by obtain ⟨-, rfl⟩ := h; exact Nat.le_of_ble_eq_true rfl) ?_
  rintro _ _ ⟨rfl, rfl⟩
  refine ev_eq (lv' := [(2, .int (nI (s.m))), (0, .ref 0), (1, .int (nI (q)))]) (st' := [.int (nI (2 * s.m + 2)), .ref 1, .ref 0]) (w' := sbW 0 s) rfl rfl rfl ?_
  refine ev_b bJ5_ensureCapacityInternal_d00df_27_31 (lv' := [(2, .int (nI (s.m))), (0, .ref 0), (1, .int (nI (q)))]) (st' := [.int (nI (0)), .int (nI (2 * s.m + 2)), .ref 1, .ref 0]) (w2 := sbW 0 s) rfl ?_
  refine ev_ishl_n (by omega) dJ5_ensureCapacityInternal_d00df_31 ?_
  refine ev_top (y := (nI (2 * s.m + 2))) (congrArg nI (show (2 * s.m + 2) <<< 0 = 2 * s.m + 2 from by exact Nat.shiftLeft_zero)) ?_
  refine ev_callGS (Yc := mJ7_copyOf_9075b) [1] dJ5_ensureCapacityInternal_d00df_32 tw_1361 kJ7_copyOf_9075b (m_J7_copyOf_9075b s.m (2 * s.m + 2) s.f (by omega) (by omega) hF) rfl (st := [.ref 0]) rfl (by decide) rfl rfl rfl rfl (Nat.le_of_ble_eq_true rfl) (by decide) (Nat.le_of_ble_eq_true rfl) (by omega) (by omega) (by omega) (fun r w' h => by obtain ⟨-, rfl⟩ := h; exact Nat.le_of_ble_eq_true rfl) ?_
  rintro _ _ ⟨rfl, rfl⟩
  refine ev_eq (lv' := [(2, .int (nI (s.m))), (0, .ref 0), (1, .int (nI (q)))]) (st' := [.ref 2, .ref 0]) (w' := sbW 0 s ++ ([.inl (2, 2 * s.m + 2, .inl (va_cpy s.f (fun _ => 0) 0 0 s.m))] : AW)) rfl rfl rfl ?_
  refine snd_put (ci := 0) (k := 0) (a := 0) dJ5_ensureCapacityInternal_d00df_35 rfl inJ4 tyJ4_ok nmJ4 (by decide) tw_1318 rfl rfl (Nat.le_of_ble_eq_true rfl) (fun _ => rfl) (fun _ => rfl) ?_
  refine ev_eq (w' := sbV 0 s ((va_cpy s.f (fun _ => 0) 0 0 s.m, 2 * s.m + 2, s.n) : SbN)) rfl rfl rfl ?_
  exact ev_vret dJ5_ensureCapacityInternal_d00df_38 rfl (Nat.le_of_ble_eq_true rfl) (by omega) (by omega) ⟨rfl, rfl⟩
theorem bJ5_append_3fe6f_0_6 {l : Launch} {E : XE} : Snd l E mJ5_append_3fe6f 0 6 (xs [x_aload 0, x_aload 0, x_get 0 3, x_push (.int (nI 1))]) := Snd.cons (snd_aload_n (i := 0) dJ5_append_3fe6f_0 rfl) (Snd.cons (snd_aload_n (i := 0) dJ5_append_3fe6f_1 rfl) (Snd.cons (snd_get (ci := 0) (k := 3) dJ5_append_3fe6f_2 rfl inJ4 (by decide) tw_1320) (Snd.cons (snd_iconst (v := nI 1) dJ5_append_3fe6f_5 (by decide)) Snd.nil)))
theorem bJ5_append_3fe6f_10_11 {l : Launch} {E : XE} : Snd l E mJ5_append_3fe6f 10 11 (xs [x_aload 0]) := Snd.cons (snd_aload_n (i := 0) dJ5_append_3fe6f_10 rfl) Snd.nil
theorem bJ5_append_3fe6f_17_18 {l : Launch} {E : XE} : Snd l E mJ5_append_3fe6f 17 18 (xs [x_iload 1]) := Snd.cons (snd_iload_n (i := 1) dJ5_append_3fe6f_17 rfl) Snd.nil
theorem bJ5_append_3fe6f_24_33 {l : Launch} {E : XE} : Snd l E mJ5_append_3fe6f 24 33 (xs [x_aload 0, x_get 0 0, x_aload 0, x_dup, x_get 0 3]) := Snd.cons (snd_aload_n (i := 0) dJ5_append_3fe6f_24 rfl) (Snd.cons (snd_get (ci := 0) (k := 0) dJ5_append_3fe6f_25 rfl inJ4 (by decide) tw_1318) (Snd.cons (snd_aload_n (i := 0) dJ5_append_3fe6f_28 rfl) (Snd.cons (snd_dup dJ5_append_3fe6f_29) (Snd.cons (snd_get (ci := 0) (k := 3) dJ5_append_3fe6f_30 rfl inJ4 (by decide) tw_1320) Snd.nil))))
theorem bJ5_append_3fe6f_34_35 {l : Launch} {E : XE} : Snd l E mJ5_append_3fe6f 34 35 (xs [x_push (.int (nI 1))]) := Snd.cons (snd_iconst (v := nI 1) dJ5_append_3fe6f_34 (by decide)) Snd.nil
theorem bJ5_append_3fe6f_36_40 {l : Launch} {E : XE} : Snd l E mJ5_append_3fe6f 36 40 (xs [x_puti 0 3, x_iload 1]) := Snd.cons (snd_puti (ci := 0) (k := 3) dJ5_append_3fe6f_36 rfl inJ4 tyJ4_ok nmJ4 (by decide) tw_1320 rfl rfl) (Snd.cons (snd_iload_n (i := 1) dJ5_append_3fe6f_39 rfl) Snd.nil)
theorem bJ5_append_3fe6f_42_76 {l : Launch} {E : XE} : Snd l E mJ5_append_3fe6f 42 76 (xs [x_id, x_aload 0]) := Snd.cons (snd_goto (tgt := 75) dJ5_append_3fe6f_42 (by decide)) (Snd.cons (snd_aload_n (i := 0) dJ5_append_3fe6f_75 rfl) Snd.nil)
set_option maxHeartbeats 4000000 in
set_option maxRecDepth 100000 in
theorem m_J5_appC_n {l : Launch} {E : XE} (s : SbN) (c : Nat) (hc : c < 256) (h4 : s.m ≤ 4096) (h : s.n < s.m) : MetE l E mJ5_append_3fe6f (1) 0 0 [.ref 0, .int (nI (c))] (sbW 0 s) (fun r w' => r = some (.ref 0) ∧ w' = sbW 0 ((upd s.f s.n (sb_b c), s.m, s.n + 1) : SbN)) := by
  refine MetE.of (by decide +kernel) (Nat.le_of_ble_eq_true rfl) ?_
  refine ev_eq (lv' := [(0, .ref 0), (1, .int (nI (c)))]) (st' := []) (w' := sbW 0 s) rfl rfl rfl ?_
  refine ev_b bJ5_append_3fe6f_0_6 (lv' := [(0, .ref 0), (1, .int (nI (c)))]) (st' := [.int (nI (1)), .int (nI (s.n)), .ref 0]) (w2 := sbW 0 s) rfl ?_
  refine ev_iadd_n dJ5_append_3fe6f_6 ?_
  refine ev_callU (Yc := mJ5_ensureCapacityInternal_d00df) [0, 1] dJ5_append_3fe6f_7 tw_1344 kJ5_ensureCapacityInternal_d00df tx_0 (m_J5_ensure_n s (s.n + 1) (by omega) h4) rfl (st := []) rfl rfl rfl (by decide) rfl (by decide) (Nat.le_of_ble_eq_true rfl) (Nat.le_refl _) (Nat.le_refl _) (fun r w' h => by obtain ⟨-, rfl⟩ := h; exact Nat.le_of_ble_eq_true rfl) ?_
  rintro _ _ ⟨rfl, rfl⟩
  refine ev_eq (lv' := [(0, .ref 0), (1, .int (nI (c)))]) (st' := []) (w' := sbW 0 s) rfl rfl rfl ?_
  refine ev_b bJ5_append_3fe6f_10_11 (lv' := [(0, .ref 0), (1, .int (nI (c)))]) (st' := [.ref 0]) (w2 := sbW 0 s) rfl ?_
  refine ev_callU (Yc := mJ5_isLatin1_aae02) [0, 1] dJ5_append_3fe6f_11 tw_1373 kJ5_isLatin1_aae02 tw_1376 (m_J5_isLatin1_aae02 s) rfl (st := []) rfl rfl rfl (by decide) rfl (by decide) (Nat.le_of_ble_eq_true rfl) (Nat.le_refl _) (Nat.le_refl _) (fun r w' h => by obtain ⟨-, rfl⟩ := h; exact Nat.le_of_ble_eq_true rfl) ?_
  rintro _ _ ⟨rfl, rfl⟩
  refine ev_eq (lv' := [(0, .ref 0), (1, .int (nI (c)))]) (st' := [.int (nI (1))]) (w' := sbW 0 s) rfl rfl rfl ?_
  refine ev_if_eq_n (tgt := 45) (by decide) dJ5_append_3fe6f_14 (by decide) (fun h14 => (by exfalso; omega)) (fun h14 => ?_)
  refine ev_b bJ5_append_3fe6f_17_18 (lv' := [(0, .ref 0), (1, .int (nI (c)))]) (st' := [.int (nI (c))]) (w2 := sbW 0 s) rfl ?_
  refine ev_callS (Yc := mJ1_canEncode_fc78d) [] dJ5_append_3fe6f_18 tw_1378 kJ1_canEncode_fc78d (m_J1_canEncode_fc78d c hc) rfl (st := []) rfl (by decide) rfl (by decide) (Nat.le_of_ble_eq_true rfl) (Nat.le_refl _) (Nat.le_refl _) (fun r w' h => by obtain ⟨-, rfl⟩ := h; exact Nat.le_of_ble_eq_true rfl) ?_
  rintro _ _ ⟨rfl, rfl⟩
  refine ev_eq (lv' := [(0, .ref 0), (1, .int (nI (c)))]) (st' := [.int (nI (1))]) (w' := sbW 0 s) rfl rfl rfl ?_
  refine ev_if_eq_n (tgt := 45) (by decide) dJ5_append_3fe6f_21 (by decide) (fun h21 => (by exfalso; omega)) (fun h21 => ?_)
  refine ev_b bJ5_append_3fe6f_24_33 (lv' := [(0, .ref 0), (1, .int (nI (c)))]) (st' := [.int (nI (s.n)), .ref 0, .ref 1]) (w2 := sbW 0 s) rfl ?_
  refine ev_dupx1 rfl rfl dJ5_append_3fe6f_33 ?_
  refine ev_b bJ5_append_3fe6f_34_35 (lv' := [(0, .ref 0), (1, .int (nI (c)))]) (st' := [.int (nI (1)), .int (nI (s.n)), .ref 0, .int (nI (s.n)), .ref 1]) (w2 := sbW 0 s) rfl ?_
  refine ev_iadd_n dJ5_append_3fe6f_35 ?_
  refine ev_b bJ5_append_3fe6f_36_40 (lv' := [(0, .ref 0), (1, .int (nI (c)))]) (st' := [.int (nI (c)), .int (nI (s.n)), .ref 1]) (w2 := sbW 0 ((s.f, s.m, s.n + 1) : SbN)) rfl ?_
  refine ev_i2b (v := (sb_b c)) dJ5_append_3fe6f_40 (by rfl) ?_
  refine ev_bast (v := (sb_b c)) dJ5_append_3fe6f_41 rfl (by show s.n < s.m; omega) (by show s.m ≤ 65536; omega) (by exact pk_vb _) ?_
  refine ev_eq (w' := sbW 0 ((upd s.f s.n ((sb_b c)), s.m, s.n + 1) : SbN)) rfl rfl rfl ?_
  refine ev_b bJ5_append_3fe6f_42_76 (lv' := [(0, .ref 0), (1, .int (nI (c)))]) (st' := [.ref 0]) (w2 := sbW 0 ((upd s.f s.n ((sb_b c)), s.m, s.n + 1) : SbN)) rfl ?_
  exact ev_oret dJ5_append_3fe6f_76 rfl (Nat.le_of_ble_eq_true rfl) (Nat.le_refl _) (Nat.le_refl _) ⟨rfl, (by rfl)⟩
theorem bJ4_append_cf468_0_2 {l : Launch} {E : XE} : Snd l E mJ4_append_cf468 0 2 (xs [x_aload 0, x_iload 1]) := Snd.cons (snd_aload_n (i := 0) dJ4_append_cf468_0 rfl) (Snd.cons (snd_iload_n (i := 1) dJ4_append_cf468_1 rfl) Snd.nil)
theorem bJ4_append_cf468_5_7 {l : Launch} {E : XE} : Snd l E mJ4_append_cf468 5 7 (xs [x_pop, x_aload 0]) := Snd.cons (snd_pop dJ4_append_cf468_5) (Snd.cons (snd_aload_n (i := 0) dJ4_append_cf468_6 rfl) Snd.nil)
set_option maxHeartbeats 4000000 in
set_option maxRecDepth 100000 in
theorem m_J4_appC_n {l : Launch} {E : XE} (s : SbN) (c : Nat) (hc : c < 256) (h4 : s.m ≤ 4096) (h : s.n < s.m) : MetE l E mJ4_append_cf468 (2) 0 0 [.ref 0, .int (nI (c))] (sbW 0 s) (fun r w' => r = some (.ref 0) ∧ w' = sbW 0 ((upd s.f s.n (sb_b c), s.m, s.n + 1) : SbN)) := by
  refine MetE.of (by decide +kernel) (Nat.le_of_ble_eq_true rfl) ?_
  refine ev_eq (lv' := [(0, .ref 0), (1, .int (nI (c)))]) (st' := []) (w' := sbW 0 s) rfl rfl rfl ?_
  refine ev_b bJ4_append_cf468_0_2 (lv' := [(0, .ref 0), (1, .int (nI (c)))]) (st' := [.int (nI (c)), .ref 0]) (w2 := sbW 0 s) rfl ?_
  refine ev_callSU (Yc := mJ5_append_3fe6f) [0, 1] dJ4_append_cf468_2 tw_1341 kJ5_append_3fe6f tw_1329 (by decide) (m_J5_appC_n s c hc h4 h) rfl (st := []) rfl rfl rfl (by decide) rfl (by decide) (Nat.le_of_ble_eq_true rfl) (Nat.le_refl _) (Nat.le_refl _) (fun r w' h => by obtain ⟨-, rfl⟩ := h; exact Nat.le_of_ble_eq_true rfl) ?_
  rintro _ _ ⟨rfl, rfl⟩
  refine ev_eq (lv' := [(0, .ref 0), (1, .int (nI (c)))]) (st' := [.ref 0]) (w' := sbW 0 ((upd s.f s.n (sb_b c), s.m, s.n + 1) : SbN)) rfl rfl rfl ?_
  refine ev_b bJ4_append_cf468_5_7 (lv' := [(0, .ref 0), (1, .int (nI (c)))]) (st' := [.ref 0]) (w2 := sbW 0 ((upd s.f s.n (sb_b c), s.m, s.n + 1) : SbN)) rfl ?_
  exact ev_oret dJ4_append_cf468_7 rfl (Nat.le_of_ble_eq_true rfl) (Nat.le_refl _) (Nat.le_refl _) ⟨rfl, rfl⟩
set_option maxHeartbeats 4000000 in
set_option maxRecDepth 100000 in
theorem m_J5_appC_g {l : Launch} {E : XE} (s : SbN) (c : Nat) (hc : c < 256) (h4 : s.m ≤ 4096) (h : s.n = s.m) (hF : sb_Fit s.f) : MetE l E mJ5_append_3fe6f (4) 1 (2 * s.m + 2) [.ref 0, .int (nI (c))] (sbW 0 s) (fun r w' => r = some (.ref 0) ∧ w' = sbV 0 s ((upd (va_cpy s.f (fun _ => 0) 0 0 s.m) s.n (sb_b c), 2 * s.m + 2, s.n + 1) : SbN)) := by
  refine MetE.of (by decide +kernel) (Nat.le_of_ble_eq_true rfl) ?_
  refine ev_eq (lv' := [(0, .ref 0), (1, .int (nI (c)))]) (st' := []) (w' := sbW 0 s) rfl rfl rfl ?_
  refine ev_b bJ5_append_3fe6f_0_6 (lv' := [(0, .ref 0), (1, .int (nI (c)))]) (st' := [.int (nI (1)), .int (nI (s.n)), .ref 0]) (w2 := sbW 0 s) rfl ?_
  refine ev_iadd_n dJ5_append_3fe6f_6 ?_
  refine ev_callGU (Yc := mJ5_ensureCapacityInternal_d00df) [0, 1] dJ5_append_3fe6f_7 tw_1344 kJ5_ensureCapacityInternal_d00df tx_0 (m_J5_ensure_g s (s.n + 1) (by omega) (by omega) h4 hF) rfl (st := []) rfl rfl rfl (by decide) rfl rfl rfl rfl (Nat.le_of_ble_eq_true rfl) (by decide) (Nat.le_of_ble_eq_true rfl) (by omega) (by omega) (by omega) (fun r w' h => by obtain ⟨-, rfl⟩ := h; exact Nat.le_of_ble_eq_true rfl) ?_
  rintro _ _ ⟨rfl, rfl⟩
  refine ev_eq (lv' := [(0, .ref 0), (1, .int (nI (c)))]) (st' := []) (w' := sbV 0 s ((va_cpy s.f (fun _ => 0) 0 0 s.m, 2 * s.m + 2, s.n) : SbN)) rfl rfl rfl ?_
  refine ev_b bJ5_append_3fe6f_10_11 (lv' := [(0, .ref 0), (1, .int (nI (c)))]) (st' := [.ref 0]) (w2 := sbV 0 s ((va_cpy s.f (fun _ => 0) 0 0 s.m, 2 * s.m + 2, s.n) : SbN)) rfl ?_
  refine ev_callU (Yc := mJ5_isLatin1_aae02) [0, 2] dJ5_append_3fe6f_11 tw_1373 kJ5_isLatin1_aae02 tw_1376 (m_J5_isLatin1_aae02 ((va_cpy s.f (fun _ => 0) 0 0 s.m, 2 * s.m + 2, s.n) : SbN)) rfl (st := []) rfl rfl rfl (by decide) rfl (by decide) (Nat.le_of_ble_eq_true rfl) (by omega) (by omega) (fun r w' h => by obtain ⟨-, rfl⟩ := h; exact Nat.le_of_ble_eq_true rfl) ?_
  rintro _ _ ⟨rfl, rfl⟩
  refine ev_eq (lv' := [(0, .ref 0), (1, .int (nI (c)))]) (st' := [.int (nI (1))]) (w' := sbV 0 s ((va_cpy s.f (fun _ => 0) 0 0 s.m, 2 * s.m + 2, s.n) : SbN)) rfl rfl rfl ?_
  refine ev_if_eq_n (tgt := 45) (by decide) dJ5_append_3fe6f_14 (by decide) (fun h14 => (by exfalso; omega)) (fun h14 => ?_)
  refine ev_b bJ5_append_3fe6f_17_18 (lv' := [(0, .ref 0), (1, .int (nI (c)))]) (st' := [.int (nI (c))]) (w2 := sbV 0 s ((va_cpy s.f (fun _ => 0) 0 0 s.m, 2 * s.m + 2, s.n) : SbN)) rfl ?_
  refine ev_callS (Yc := mJ1_canEncode_fc78d) [] dJ5_append_3fe6f_18 tw_1378 kJ1_canEncode_fc78d (m_J1_canEncode_fc78d c hc) rfl (st := []) rfl (by decide) rfl (by decide) (Nat.le_of_ble_eq_true rfl) (by omega) (by omega) (fun r w' h => by obtain ⟨-, rfl⟩ := h; exact Nat.le_of_ble_eq_true rfl) ?_
  rintro _ _ ⟨rfl, rfl⟩
  refine ev_eq (lv' := [(0, .ref 0), (1, .int (nI (c)))]) (st' := [.int (nI (1))]) (w' := sbV 0 s ((va_cpy s.f (fun _ => 0) 0 0 s.m, 2 * s.m + 2, s.n) : SbN)) rfl rfl rfl ?_
  refine ev_if_eq_n (tgt := 45) (by decide) dJ5_append_3fe6f_21 (by decide) (fun h21 => (by exfalso; omega)) (fun h21 => ?_)
  refine ev_b bJ5_append_3fe6f_24_33 (lv' := [(0, .ref 0), (1, .int (nI (c)))]) (st' := [.int (nI (s.n)), .ref 0, .ref 2]) (w2 := sbV 0 s ((va_cpy s.f (fun _ => 0) 0 0 s.m, 2 * s.m + 2, s.n) : SbN)) rfl ?_
  refine ev_dupx1 rfl rfl dJ5_append_3fe6f_33 ?_
  refine ev_b bJ5_append_3fe6f_34_35 (lv' := [(0, .ref 0), (1, .int (nI (c)))]) (st' := [.int (nI (1)), .int (nI (s.n)), .ref 0, .int (nI (s.n)), .ref 2]) (w2 := sbV 0 s ((va_cpy s.f (fun _ => 0) 0 0 s.m, 2 * s.m + 2, s.n) : SbN)) rfl ?_
  refine ev_iadd_n dJ5_append_3fe6f_35 ?_
  refine ev_b bJ5_append_3fe6f_36_40 (lv' := [(0, .ref 0), (1, .int (nI (c)))]) (st' := [.int (nI (c)), .int (nI (s.n)), .ref 2]) (w2 := sbV 0 s ((va_cpy s.f (fun _ => 0) 0 0 s.m, 2 * s.m + 2, s.n + 1) : SbN)) rfl ?_
  refine ev_i2b (v := (sb_b c)) dJ5_append_3fe6f_40 (by rfl) ?_
  refine ev_bast (v := (sb_b c)) dJ5_append_3fe6f_41 rfl (by show s.n < 2 * s.m + 2; omega) (by show 2 * s.m + 2 ≤ 65536; omega) (by exact pk_vb _) ?_
  refine ev_eq (w' := sbV 0 s ((upd (va_cpy s.f (fun _ => 0) 0 0 s.m) s.n ((sb_b c)), 2 * s.m + 2, s.n + 1) : SbN)) rfl rfl rfl ?_
  refine ev_b bJ5_append_3fe6f_42_76 (lv' := [(0, .ref 0), (1, .int (nI (c)))]) (st' := [.ref 0]) (w2 := sbV 0 s ((upd (va_cpy s.f (fun _ => 0) 0 0 s.m) s.n ((sb_b c)), 2 * s.m + 2, s.n + 1) : SbN)) rfl ?_
  exact ev_oret dJ5_append_3fe6f_76 rfl (Nat.le_of_ble_eq_true rfl) (by omega) (by omega) ⟨rfl, (by rfl)⟩
set_option maxHeartbeats 4000000 in
set_option maxRecDepth 100000 in
theorem m_J4_appC_g {l : Launch} {E : XE} (s : SbN) (c : Nat) (hc : c < 256) (h4 : s.m ≤ 4096) (h : s.n = s.m) (hF : sb_Fit s.f) : MetE l E mJ4_append_cf468 (5) 1 (2 * s.m + 2) [.ref 0, .int (nI (c))] (sbW 0 s) (fun r w' => r = some (.ref 0) ∧ w' = sbV 0 s ((upd (va_cpy s.f (fun _ => 0) 0 0 s.m) s.n (sb_b c), 2 * s.m + 2, s.n + 1) : SbN)) := by
  refine MetE.of (by decide +kernel) (Nat.le_of_ble_eq_true rfl) ?_
  refine ev_eq (lv' := [(0, .ref 0), (1, .int (nI (c)))]) (st' := []) (w' := sbW 0 s) rfl rfl rfl ?_
  refine ev_b bJ4_append_cf468_0_2 (lv' := [(0, .ref 0), (1, .int (nI (c)))]) (st' := [.int (nI (c)), .ref 0]) (w2 := sbW 0 s) rfl ?_
  refine ev_callGSU (Yc := mJ5_append_3fe6f) [0, 1] dJ4_append_cf468_2 tw_1341 kJ5_append_3fe6f tw_1329 (by decide) (m_J5_appC_g s c hc h4 h hF) rfl (st := []) rfl rfl rfl (by decide) rfl rfl rfl rfl (Nat.le_of_ble_eq_true rfl) (by decide) (Nat.le_of_ble_eq_true rfl) (by omega) (by omega) (by omega) (fun r w' h => by obtain ⟨-, rfl⟩ := h; exact Nat.le_of_ble_eq_true rfl) ?_
  rintro _ _ ⟨rfl, rfl⟩
  refine ev_eq (lv' := [(0, .ref 0), (1, .int (nI (c)))]) (st' := [.ref 0]) (w' := sbV 0 s ((upd (va_cpy s.f (fun _ => 0) 0 0 s.m) s.n (sb_b c), 2 * s.m + 2, s.n + 1) : SbN)) rfl rfl rfl ?_
  refine ev_b bJ4_append_cf468_5_7 (lv' := [(0, .ref 0), (1, .int (nI (c)))]) (st' := [.ref 0]) (w2 := sbV 0 s ((upd (va_cpy s.f (fun _ => 0) 0 0 s.m) s.n (sb_b c), 2 * s.m + 2, s.n + 1) : SbN)) rfl ?_
  exact ev_oret dJ4_append_cf468_7 rfl (Nat.le_of_ble_eq_true rfl) (by omega) (by omega) ⟨rfl, rfl⟩
theorem bJ6_stringSize_0f7a4_0_3 {l : Launch} {E : XE} : Snd l E mJ6_stringSize_0f7a4 0 3 (xs [x_push (.int (nI 1)), x_istore 1, x_iload 0]) := Snd.cons (snd_iconst (v := nI 1) dJ6_stringSize_0f7a4_0 (by decide)) (Snd.cons (snd_istore_n (i := 1) dJ6_stringSize_0f7a4_1 rfl (by decide)) (Snd.cons (snd_iload_n (i := 0) dJ6_stringSize_0f7a4_2 rfl) Snd.nil))
theorem bJ6_stringSize_0f7a4_6_9 {l : Launch} {E : XE} : Snd l E mJ6_stringSize_0f7a4 6 9 (xs [x_push (.int (nI 0)), x_istore 1, x_iload 0]) := Snd.cons (snd_iconst (v := nI 0) dJ6_stringSize_0f7a4_6 (by decide)) (Snd.cons (snd_istore_n (i := 1) dJ6_stringSize_0f7a4_7 rfl (by decide)) (Snd.cons (snd_iload_n (i := 0) dJ6_stringSize_0f7a4_8 rfl) Snd.nil))
theorem bJ6_stringSize_0f7a4_10_14 {l : Launch} {E : XE} : Snd l E mJ6_stringSize_0f7a4 10 14 (xs [x_istore 0, x_push (.int (-10)), x_istore 2]) := Snd.cons (snd_istore_n (i := 0) dJ6_stringSize_0f7a4_10 rfl (by decide)) (Snd.cons (snd_bipush (v := -10) dJ6_stringSize_0f7a4_11 (by decide)) (Snd.cons (snd_istore_n (i := 2) dJ6_stringSize_0f7a4_13 rfl (by decide)) Snd.nil))
theorem bJ6_stringSize_0f7a4_14_16 {l : Launch} {E : XE} : Snd l E mJ6_stringSize_0f7a4 14 16 (xs [x_push (.int (nI 1)), x_istore 3]) := Snd.cons (snd_iconst (v := nI 1) dJ6_stringSize_0f7a4_14 (by decide)) (Snd.cons (snd_istore_n (i := 3) dJ6_stringSize_0f7a4_15 rfl (by decide)) Snd.nil)
theorem bJ6_stringSize_0f7a4_16_19 {l : Launch} {E : XE} : Snd l E mJ6_stringSize_0f7a4 16 19 (xs [x_iload 3, x_push (.int (nI 10))]) := Snd.cons (snd_iload_n (i := 3) dJ6_stringSize_0f7a4_16 rfl) (Snd.cons (snd_bipush (v := nI 10) dJ6_stringSize_0f7a4_17 (by decide)) Snd.nil)
theorem bJ6_stringSize_0f7a4_22_24 {l : Launch} {E : XE} : Snd l E mJ6_stringSize_0f7a4 22 24 (xs [x_iload 0, x_iload 2]) := Snd.cons (snd_iload_n (i := 0) dJ6_stringSize_0f7a4_22 rfl) (Snd.cons (snd_iload_n (i := 2) dJ6_stringSize_0f7a4_23 rfl) Snd.nil)
theorem bJ6_stringSize_0f7a4_27_29 {l : Launch} {E : XE} : Snd l E mJ6_stringSize_0f7a4 27 29 (xs [x_iload 3, x_iload 1]) := Snd.cons (snd_iload_n (i := 3) dJ6_stringSize_0f7a4_27 rfl) (Snd.cons (snd_iload_n (i := 1) dJ6_stringSize_0f7a4_28 rfl) Snd.nil)
set_option maxHeartbeats 4000000 in
set_option maxRecDepth 100000 in
theorem m_J6_size_1 {l : Launch} {E : XE} (v : Nat) (hv : v < 10) : MetE l E mJ6_stringSize_0f7a4 (0) 0 0 [.int (nI (v))] ([]) (fun r w' => r = some (.int (nI (1))) ∧ w' = []) := by
  refine MetE.of (by decide +kernel) (Nat.le_of_ble_eq_true rfl) ?_
  refine ev_eq (lv' := [(0, .int (nI (v)))]) (st' := []) (w' := []) rfl rfl rfl ?_
  refine ev_b bJ6_stringSize_0f7a4_0_3 (lv' := [(1, .int (nI (1))), (0, .int (nI (v)))]) (st' := [.int (nI (v))]) (w2 := []) rfl ?_
  refine ev_if_lt_n (tgt := 11) (by omega) dJ6_stringSize_0f7a4_3 (by decide) (fun h3 => (by exfalso; omega)) (fun h3 => ?_)
  refine ev_b bJ6_stringSize_0f7a4_6_9 (lv' := [(1, .int (nI (0))), (0, .int (nI (v)))]) (st' := [.int (nI (v))]) (w2 := []) rfl ?_
  refine ev_top (y := zI (((v : Nat) : Int))) (zI_nat _).symm ?_
  refine ev_ineg_z dJ6_stringSize_0f7a4_9 ?_
  refine ev_b bJ6_stringSize_0f7a4_10_14 (lv' := [(2, .int (-10)), (0, .int (zI (-(((v : Nat) : Int))))), (1, .int (nI (0)))]) (st' := []) (w2 := []) rfl ?_
  refine ev_eq (lv' := [(2, .int (zI (-10))), (0, .int (zI (-(((v : Nat) : Int))))), (1, .int (nI (0)))]) rfl rfl rfl ?_
  refine ev_b bJ6_stringSize_0f7a4_14_16 (lv' := [(3, .int (nI (1))), (2, .int (zI (-10))), (0, .int (zI (-(((v : Nat) : Int))))), (1, .int (nI (0)))]) (st' := []) (w2 := []) rfl ?_
  refine ev_b bJ6_stringSize_0f7a4_16_19 (lv' := [(3, .int (nI (1))), (2, .int (zI (-10))), (0, .int (zI (-(((v : Nat) : Int))))), (1, .int (nI (0)))]) (st' := [.int (nI (10)), .int (nI (1))]) (w2 := []) rfl ?_
  refine ev_icmp_ge_n (tgt := 42) (by decide) (by decide) dJ6_stringSize_0f7a4_19 (by decide) (fun h19 => (by exfalso; omega)) (fun h19 => ?_)
  refine ev_b bJ6_stringSize_0f7a4_22_24 (lv' := [(3, .int (nI (1))), (2, .int (zI (-10))), (0, .int (zI (-(((v : Nat) : Int))))), (1, .int (nI (0)))]) (st' := [.int (zI (-10)), .int (zI (-(((v : Nat) : Int))))]) (w2 := []) rfl ?_
  refine ev_icmp_le_z (tgt := 31) (by constructor <;> omega) (by constructor <;> omega) dJ6_stringSize_0f7a4_24 (by decide) (fun h24 => (by exfalso; omega)) (fun h24 => ?_)
  refine ev_b bJ6_stringSize_0f7a4_27_29 (lv' := [(3, .int (nI (1))), (2, .int (zI (-10))), (0, .int (zI (-(((v : Nat) : Int))))), (1, .int (nI (0)))]) (st' := [.int (nI (0)), .int (nI (1))]) (w2 := []) rfl ?_
  refine ev_iadd_n dJ6_stringSize_0f7a4_29 ?_
  exact ev_iret dJ6_stringSize_0f7a4_30 rfl (Nat.le_of_ble_eq_true rfl) (Nat.le_refl _) (Nat.le_refl _) ⟨(congrArg (fun t => some (Value.int (nI t))) (show 1 + 0 = 1 from by omega)), rfl⟩
theorem bJ6_getChars_ba4f3_0_4 {l : Launch} {E : XE} : Snd l E mJ6_getChars_ba4f3 0 4 (xs [x_iload 1, x_istore 5, x_iload 0]) := Snd.cons (snd_iload_n (i := 1) dJ6_getChars_ba4f3_0 rfl) (Snd.cons (snd_istore dJ6_getChars_ba4f3_1 (by decide)) (Snd.cons (snd_iload_n (i := 0) dJ6_getChars_ba4f3_3 rfl) Snd.nil))
theorem bJ6_getChars_ba4f3_11_16 {l : Launch} {E : XE} : Snd l E mJ6_getChars_ba4f3 11 16 (xs [x_push (.int (nI 0)), x_istore 6, x_iload 6]) := Snd.cons (snd_iconst (v := nI 0) dJ6_getChars_ba4f3_11 (by decide)) (Snd.cons (snd_istore dJ6_getChars_ba4f3_12 (by decide)) (Snd.cons (snd_iload dJ6_getChars_ba4f3_14) Snd.nil))
theorem bJ6_getChars_ba4f3_19_20 {l : Launch} {E : XE} : Snd l E mJ6_getChars_ba4f3 19 20 (xs [x_iload 0]) := Snd.cons (snd_iload_n (i := 0) dJ6_getChars_ba4f3_19 rfl) Snd.nil
theorem bJ6_getChars_ba4f3_21_22 {l : Launch} {E : XE} : Snd l E mJ6_getChars_ba4f3 21 22 (xs [x_istore 0]) := Snd.cons (snd_istore_n (i := 0) dJ6_getChars_ba4f3_21 rfl (by decide)) Snd.nil
theorem bJ6_getChars_ba4f3_22_25 {l : Launch} {E : XE} : Snd l E mJ6_getChars_ba4f3 22 25 (xs [x_iload 0, x_push (.int (-100))]) := Snd.cons (snd_iload_n (i := 0) dJ6_getChars_ba4f3_22 rfl) (Snd.cons (snd_bipush (v := -100) dJ6_getChars_ba4f3_23 (by decide)) Snd.nil)
theorem bJ6_getChars_ba4f3_72_73 {l : Launch} {E : XE} : Snd l E mJ6_getChars_ba4f3 72 73 (xs [x_aload 2]) := Snd.cons (snd_aload_n (i := 2) dJ6_getChars_ba4f3_72 rfl) Snd.nil
theorem bJ6_getChars_ba4f3_76_78 {l : Launch} {E : XE} : Snd l E mJ6_getChars_ba4f3 76 78 (xs [x_iload 5]) := Snd.cons (snd_iload dJ6_getChars_ba4f3_76) Snd.nil
theorem bJ6_getChars_ba4f3_81_82 {l : Launch} {E : XE} : Snd l E mJ6_getChars_ba4f3 81 82 (xs [x_iload 0]) := Snd.cons (snd_iload_n (i := 0) dJ6_getChars_ba4f3_81 rfl) Snd.nil
theorem bJ6_getChars_ba4f3_85_88 {l : Launch} {E : XE} : Snd l E mJ6_getChars_ba4f3 85 88 (xs [x_iload 0, x_push (.int (-9))]) := Snd.cons (snd_iload_n (i := 0) dJ6_getChars_ba4f3_85 rfl) (Snd.cons (snd_bipush (v := -9) dJ6_getChars_ba4f3_86 (by decide)) Snd.nil)
theorem bJ6_getChars_ba4f3_104_106 {l : Launch} {E : XE} : Snd l E mJ6_getChars_ba4f3 104 106 (xs [x_iload 6]) := Snd.cons (snd_iload dJ6_getChars_ba4f3_104) Snd.nil
theorem bJ6_getChars_ba4f3_118_120 {l : Launch} {E : XE} : Snd l E mJ6_getChars_ba4f3 118 120 (xs [x_iload 5]) := Snd.cons (snd_iload dJ6_getChars_ba4f3_118) Snd.nil
set_option maxHeartbeats 4000000 in
set_option maxRecDepth 100000 in
theorem m_J6_chars_1 {l : Launch} {E : XE} (v n m : Nat) (f : Nat → Int32) (hv : v < 10) (hpm : n + 1 ≤ m) (hm : m ≤ 65536) : MetE l E mJ6_getChars_ba4f3 (0) 0 0 [.int (nI (v)), .int (nI (n + 1)), .ref 0] (([.inl (2, m, .inl (f))] : AW)) (fun r w' => r = some (.int (nI (n))) ∧ w' = ([.inl (2, m, .inl (upd f n (sb_b (48 + v % 10))))] : AW)) := by
  refine MetE.of (by decide +kernel) (Nat.le_of_ble_eq_true rfl) ?_
  refine ev_eq (lv' := [(0, .int (nI (v))), (1, .int (nI (n + 1))), (2, .ref 0)]) (st' := []) (w' := ([.inl (2, m, .inl (f))] : AW)) rfl rfl rfl ?_
  refine ev_b bJ6_getChars_ba4f3_0_4 (lv' := [(5, .int (nI (n + 1))), (0, .int (nI (v))), (1, .int (nI (n + 1))), (2, .ref 0)]) (st' := [.int (nI (v))]) (w2 := ([.inl (2, m, .inl (f))] : AW)) rfl ?_
  refine ev_if_ge_n (tgt := 11) (by omega) dJ6_getChars_ba4f3_4 (by decide) (fun h4 => ?_) (fun h4 => (by exfalso; omega))
  refine ev_b bJ6_getChars_ba4f3_11_16 (lv' := [(6, .int (nI (0))), (5, .int (nI (n + 1))), (0, .int (nI (v))), (1, .int (nI (n + 1))), (2, .ref 0)]) (st' := [.int (nI (0))]) (w2 := ([.inl (2, m, .inl (f))] : AW)) rfl ?_
  refine ev_if_ne_n (tgt := 22) (by decide) dJ6_getChars_ba4f3_16 (by decide) (fun h16 => (by exfalso; omega)) (fun h16 => ?_)
  refine ev_b bJ6_getChars_ba4f3_19_20 (lv' := [(6, .int (nI (0))), (5, .int (nI (n + 1))), (0, .int (nI (v))), (1, .int (nI (n + 1))), (2, .ref 0)]) (st' := [.int (nI (v))]) (w2 := ([.inl (2, m, .inl (f))] : AW)) rfl ?_
  refine ev_top (y := zI (((v : Nat) : Int))) (zI_nat _).symm ?_
  refine ev_ineg_z dJ6_getChars_ba4f3_20 ?_
  refine ev_b bJ6_getChars_ba4f3_21_22 (lv' := [(0, .int (zI (-(((v : Nat) : Int))))), (6, .int (nI (0))), (5, .int (nI (n + 1))), (1, .int (nI (n + 1))), (2, .ref 0)]) (st' := []) (w2 := ([.inl (2, m, .inl (f))] : AW)) rfl ?_
  refine ev_b bJ6_getChars_ba4f3_22_25 (lv' := [(0, .int (zI (-(((v : Nat) : Int))))), (6, .int (nI (0))), (5, .int (nI (n + 1))), (1, .int (nI (n + 1))), (2, .ref 0)]) (st' := [.int (-100), .int (zI (-(((v : Nat) : Int))))]) (w2 := ([.inl (2, m, .inl (f))] : AW)) rfl ?_
  refine ev_top (y := zI (-100)) (by decide) ?_
  refine ev_icmp_gt_z (tgt := 72) (by constructor <;> omega) (by constructor <;> omega) dJ6_getChars_ba4f3_25 (by decide) (fun h25 => ?_) (fun h25 => (by exfalso; omega))
  refine ev_b bJ6_getChars_ba4f3_72_73 (lv' := [(0, .int (zI (-(((v : Nat) : Int))))), (6, .int (nI (0))), (5, .int (nI (n + 1))), (1, .int (nI (n + 1))), (2, .ref 0)]) (st' := [.ref 0]) (w2 := ([.inl (2, m, .inl (f))] : AW)) rfl ?_
  refine ev_idec_n (x := n + 1) dJ6_getChars_ba4f3_73 rfl (by decide) (by omega) ?_
  refine ev_eq (lv' := [(5, .int (nI ((n + 1) - 1))), (0, .int (zI (-(((v : Nat) : Int))))), (6, .int (nI (0))), (1, .int (nI (n + 1))), (2, .ref 0)]) rfl rfl rfl ?_
  refine ev_eq (lv' := [(5, .int (nI (n))), (0, .int (zI (-(((v : Nat) : Int))))), (6, .int (nI (0))), (1, .int (nI (n + 1))), (2, .ref 0)]) rfl rfl rfl ?_
  refine ev_b bJ6_getChars_ba4f3_76_78 (lv' := [(5, .int (nI (n))), (0, .int (zI (-(((v : Nat) : Int))))), (6, .int (nI (0))), (1, .int (nI (n + 1))), (2, .ref 0)]) (st' := [.int (nI (n)), .ref 0]) (w2 := ([.inl (2, m, .inl (f))] : AW)) rfl ?_
  refine ev_getsO (b := 22) (by decide) dJ6_getChars_ba4f3_78 tw_1419 ?_
  refine ev_b bJ6_getChars_ba4f3_81_82 (lv' := [(5, .int (nI (n))), (0, .int (zI (-(((v : Nat) : Int))))), (6, .int (nI (0))), (1, .int (nI (n + 1))), (2, .ref 0)]) (st' := [.int (zI (-(((v : Nat) : Int)))), .float 22, .int (nI (n)), .ref 0]) (w2 := ([.inl (2, m, .inl (f))] : AW)) rfl ?_
  refine ev_ineg_z dJ6_getChars_ba4f3_82 ?_
  refine ev_top (y := (nI (v))) (by rw [show -(-(((v : Nat) : Int))) = ((v : Nat) : Int) from by omega]; exact zI_nat _) ?_
  refine ev_digO (by decide) (by omega) dJ6_getChars_ba4f3_83 ?_
  refine ev_bast (v := sb_b (48 + v % 10)) dJ6_getChars_ba4f3_84 rfl (by show n < m; omega) (by show m ≤ 65536; omega) (by first | rfl | exact pk_vb _) ?_
  refine ev_eq (w' := ([.inl (2, m, .inl (upd f n (sb_b (48 + v % 10))))] : AW)) rfl rfl rfl ?_
  refine ev_b bJ6_getChars_ba4f3_85_88 (lv' := [(5, .int (nI (n))), (0, .int (zI (-(((v : Nat) : Int))))), (6, .int (nI (0))), (1, .int (nI (n + 1))), (2, .ref 0)]) (st' := [.int (-9), .int (zI (-(((v : Nat) : Int))))]) (w2 := ([.inl (2, m, .inl (upd f n (sb_b (48 + v % 10))))] : AW)) rfl ?_
  refine ev_top (y := zI (-9)) (by decide) ?_
  refine ev_icmp_ge_z (tgt := 104) (by constructor <;> omega) (by constructor <;> omega) dJ6_getChars_ba4f3_88 (by decide) (fun h88 => ?_) (fun h88 => (by exfalso; omega))
  refine ev_b bJ6_getChars_ba4f3_104_106 (lv' := [(5, .int (nI (n))), (0, .int (zI (-(((v : Nat) : Int))))), (6, .int (nI (0))), (1, .int (nI (n + 1))), (2, .ref 0)]) (st' := [.int (nI (0))]) (w2 := ([.inl (2, m, .inl (upd f n (sb_b (48 + v % 10))))] : AW)) rfl ?_
  refine ev_if_eq_n (tgt := 118) (by decide) dJ6_getChars_ba4f3_106 (by decide) (fun h106 => ?_) (fun h106 => (by exfalso; omega))
  refine ev_b bJ6_getChars_ba4f3_118_120 (lv' := [(5, .int (nI (n))), (0, .int (zI (-(((v : Nat) : Int))))), (6, .int (nI (0))), (1, .int (nI (n + 1))), (2, .ref 0)]) (st' := [.int (nI (n))]) (w2 := ([.inl (2, m, .inl (upd f n (sb_b (48 + v % 10))))] : AW)) rfl ?_
  exact ev_iret dJ6_getChars_ba4f3_120 rfl (Nat.le_of_ble_eq_true rfl) (Nat.le_refl _) (Nat.le_refl _) ⟨rfl, rfl⟩
theorem bJ6_stringSize_0f7a4_31_34 {l : Launch} {E : XE} : Snd l E mJ6_stringSize_0f7a4 31 34 (xs [x_push (.int (nI 10)), x_iload 2]) := Snd.cons (snd_bipush (v := nI 10) dJ6_stringSize_0f7a4_31 (by decide)) (Snd.cons (snd_iload_n (i := 2) dJ6_stringSize_0f7a4_33 rfl) Snd.nil)
theorem bJ6_stringSize_0f7a4_35_36 {l : Launch} {E : XE} : Snd l E mJ6_stringSize_0f7a4 35 36 (xs [x_istore 2]) := Snd.cons (snd_istore_n (i := 2) dJ6_stringSize_0f7a4_35 rfl (by decide)) Snd.nil
theorem bJ6_stringSize_0f7a4_39_16 {l : Launch} {E : XE} : Snd l E mJ6_stringSize_0f7a4 39 16 (xs [x_id]) := Snd.cons (snd_goto (tgt := 16) dJ6_stringSize_0f7a4_39 (by decide)) Snd.nil
set_option maxHeartbeats 4000000 in
set_option maxRecDepth 100000 in
theorem m_J6_size_2 {l : Launch} {E : XE} (v : Nat) (hv : 10 ≤ v ∧ v < 100) : MetE l E mJ6_stringSize_0f7a4 (0) 0 0 [.int (nI (v))] ([]) (fun r w' => r = some (.int (nI (2))) ∧ w' = []) := by
  refine MetE.of (by decide +kernel) (Nat.le_of_ble_eq_true rfl) ?_
  obtain ⟨hv1, hv2⟩ := hv
  refine ev_eq (lv' := [(0, .int (nI (v)))]) (st' := []) (w' := []) rfl rfl rfl ?_
  refine ev_b bJ6_stringSize_0f7a4_0_3 (lv' := [(1, .int (nI (1))), (0, .int (nI (v)))]) (st' := [.int (nI (v))]) (w2 := []) rfl ?_
  refine ev_if_lt_n (tgt := 11) (by omega) dJ6_stringSize_0f7a4_3 (by decide) (fun h3 => (by exfalso; omega)) (fun h3 => ?_)
  refine ev_b bJ6_stringSize_0f7a4_6_9 (lv' := [(1, .int (nI (0))), (0, .int (nI (v)))]) (st' := [.int (nI (v))]) (w2 := []) rfl ?_
  refine ev_top (y := zI (((v : Nat) : Int))) (zI_nat _).symm ?_
  refine ev_ineg_z dJ6_stringSize_0f7a4_9 ?_
  refine ev_b bJ6_stringSize_0f7a4_10_14 (lv' := [(2, .int (-10)), (0, .int (zI (-(((v : Nat) : Int))))), (1, .int (nI (0)))]) (st' := []) (w2 := []) rfl ?_
  refine ev_eq (lv' := [(2, .int (zI (-10))), (0, .int (zI (-(((v : Nat) : Int))))), (1, .int (nI (0)))]) rfl rfl rfl ?_
  refine ev_b bJ6_stringSize_0f7a4_14_16 (lv' := [(3, .int (nI (1))), (2, .int (zI (-10))), (0, .int (zI (-(((v : Nat) : Int))))), (1, .int (nI (0)))]) (st' := []) (w2 := []) rfl ?_
  refine ev_b bJ6_stringSize_0f7a4_16_19 (lv' := [(3, .int (nI (1))), (2, .int (zI (-10))), (0, .int (zI (-(((v : Nat) : Int))))), (1, .int (nI (0)))]) (st' := [.int (nI (10)), .int (nI (1))]) (w2 := []) rfl ?_
  refine ev_icmp_ge_n (tgt := 42) (by decide) (by decide) dJ6_stringSize_0f7a4_19 (by decide) (fun h19 => (by exfalso; omega)) (fun h19 => ?_)
  refine ev_b bJ6_stringSize_0f7a4_22_24 (lv' := [(3, .int (nI (1))), (2, .int (zI (-10))), (0, .int (zI (-(((v : Nat) : Int))))), (1, .int (nI (0)))]) (st' := [.int (zI (-10)), .int (zI (-(((v : Nat) : Int))))]) (w2 := []) rfl ?_
  refine ev_icmp_le_z (tgt := 31) (by constructor <;> omega) (by constructor <;> omega) dJ6_stringSize_0f7a4_24 (by decide) (fun h24 => ?_) (fun h24 => (by exfalso; omega))
  refine ev_b bJ6_stringSize_0f7a4_31_34 (lv' := [(3, .int (nI (1))), (2, .int (zI (-10))), (0, .int (zI (-(((v : Nat) : Int))))), (1, .int (nI (0)))]) (st' := [.int (zI (-10)), .int (nI (10))]) (w2 := []) rfl ?_
  refine ev_top2 (y := zI (((10 : Nat) : Int))) (zI_nat _).symm ?_
  refine ev_imul_z dJ6_stringSize_0f7a4_34 ?_
  refine ev_top (y := (zI (-100))) (congrArg zI (show (((10 : Nat) : Int)) * (-10) = -100 from by rfl)) ?_
  refine ev_b bJ6_stringSize_0f7a4_35_36 (lv' := [(2, .int (zI (-100))), (3, .int (nI (1))), (0, .int (zI (-(((v : Nat) : Int))))), (1, .int (nI (0)))]) (st' := []) (w2 := []) rfl ?_
  refine ev_iinc_n (x := 1) (v := 1) dJ6_stringSize_0f7a4_36 rfl (by decide) ?_
  refine ev_eq (lv' := [(3, .int (nI (1 + 1))), (2, .int (zI (-100))), (0, .int (zI (-(((v : Nat) : Int))))), (1, .int (nI (0)))]) rfl rfl rfl ?_
  refine ev_b bJ6_stringSize_0f7a4_39_16 (lv' := [(3, .int (nI (1 + 1))), (2, .int (zI (-100))), (0, .int (zI (-(((v : Nat) : Int))))), (1, .int (nI (0)))]) (st' := []) (w2 := []) rfl ?_
  refine ev_b bJ6_stringSize_0f7a4_16_19 (lv' := [(3, .int (nI (1 + 1))), (2, .int (zI (-100))), (0, .int (zI (-(((v : Nat) : Int))))), (1, .int (nI (0)))]) (st' := [.int (nI (10)), .int (nI (1 + 1))]) (w2 := []) rfl ?_
  refine ev_icmp_ge_n (tgt := 42) (by omega) (by decide) dJ6_stringSize_0f7a4_19 (by decide) (fun h19 => (by exfalso; omega)) (fun h19 => ?_)
  refine ev_b bJ6_stringSize_0f7a4_22_24 (lv' := [(3, .int (nI (1 + 1))), (2, .int (zI (-100))), (0, .int (zI (-(((v : Nat) : Int))))), (1, .int (nI (0)))]) (st' := [.int (zI (-100)), .int (zI (-(((v : Nat) : Int))))]) (w2 := []) rfl ?_
  refine ev_icmp_le_z (tgt := 31) (by constructor <;> omega) (by constructor <;> omega) dJ6_stringSize_0f7a4_24 (by decide) (fun h24 => (by exfalso; omega)) (fun h24 => ?_)
  refine ev_b bJ6_stringSize_0f7a4_27_29 (lv' := [(3, .int (nI (1 + 1))), (2, .int (zI (-100))), (0, .int (zI (-(((v : Nat) : Int))))), (1, .int (nI (0)))]) (st' := [.int (nI (0)), .int (nI (1 + 1))]) (w2 := []) rfl ?_
  refine ev_iadd_n dJ6_stringSize_0f7a4_29 ?_
  exact ev_iret dJ6_stringSize_0f7a4_30 rfl (Nat.le_of_ble_eq_true rfl) (Nat.le_refl _) (Nat.le_refl _) ⟨(congrArg (fun t => some (Value.int (nI t))) (show (1 + 1) + 0 = 2 from by omega)), rfl⟩
theorem bJ6_getChars_ba4f3_91_92 {l : Launch} {E : XE} : Snd l E mJ6_getChars_ba4f3 91 92 (xs [x_aload 2]) := Snd.cons (snd_aload_n (i := 2) dJ6_getChars_ba4f3_91 rfl) Snd.nil
theorem bJ6_getChars_ba4f3_95_97 {l : Launch} {E : XE} : Snd l E mJ6_getChars_ba4f3 95 97 (xs [x_iload 5]) := Snd.cons (snd_iload dJ6_getChars_ba4f3_95) Snd.nil
theorem bJ6_getChars_ba4f3_100_101 {l : Launch} {E : XE} : Snd l E mJ6_getChars_ba4f3 100 101 (xs [x_iload 0]) := Snd.cons (snd_iload_n (i := 0) dJ6_getChars_ba4f3_100 rfl) Snd.nil
set_option maxHeartbeats 4000000 in
set_option maxRecDepth 100000 in
theorem m_J6_chars_2 {l : Launch} {E : XE} (v n m : Nat) (f : Nat → Int32) (hv : 10 ≤ v ∧ v < 100) (hpm : n + 2 ≤ m) (hm : m ≤ 65536) : MetE l E mJ6_getChars_ba4f3 (0) 0 0 [.int (nI (v)), .int (nI (n + 2)), .ref 0] (([.inl (2, m, .inl (f))] : AW)) (fun r w' => r = some (.int (nI (n))) ∧ w' = ([.inl (2, m, .inl (upd (upd f (n + 1) (sb_b (48 + v % 10))) n (sb_b (48 + v / 10))))] : AW)) := by
  refine MetE.of (by decide +kernel) (Nat.le_of_ble_eq_true rfl) ?_
  obtain ⟨hv1, hv2⟩ := hv
  refine ev_eq (lv' := [(0, .int (nI (v))), (1, .int (nI (n + 2))), (2, .ref 0)]) (st' := []) (w' := ([.inl (2, m, .inl (f))] : AW)) rfl rfl rfl ?_
  refine ev_b bJ6_getChars_ba4f3_0_4 (lv' := [(5, .int (nI (n + 2))), (0, .int (nI (v))), (1, .int (nI (n + 2))), (2, .ref 0)]) (st' := [.int (nI (v))]) (w2 := ([.inl (2, m, .inl (f))] : AW)) rfl ?_
  refine ev_if_ge_n (tgt := 11) (by omega) dJ6_getChars_ba4f3_4 (by decide) (fun h4 => ?_) (fun h4 => (by exfalso; omega))
  refine ev_b bJ6_getChars_ba4f3_11_16 (lv' := [(6, .int (nI (0))), (5, .int (nI (n + 2))), (0, .int (nI (v))), (1, .int (nI (n + 2))), (2, .ref 0)]) (st' := [.int (nI (0))]) (w2 := ([.inl (2, m, .inl (f))] : AW)) rfl ?_
  refine ev_if_ne_n (tgt := 22) (by decide) dJ6_getChars_ba4f3_16 (by decide) (fun h16 => (by exfalso; omega)) (fun h16 => ?_)
  refine ev_b bJ6_getChars_ba4f3_19_20 (lv' := [(6, .int (nI (0))), (5, .int (nI (n + 2))), (0, .int (nI (v))), (1, .int (nI (n + 2))), (2, .ref 0)]) (st' := [.int (nI (v))]) (w2 := ([.inl (2, m, .inl (f))] : AW)) rfl ?_
  refine ev_top (y := zI (((v : Nat) : Int))) (zI_nat _).symm ?_
  refine ev_ineg_z dJ6_getChars_ba4f3_20 ?_
  refine ev_b bJ6_getChars_ba4f3_21_22 (lv' := [(0, .int (zI (-(((v : Nat) : Int))))), (6, .int (nI (0))), (5, .int (nI (n + 2))), (1, .int (nI (n + 2))), (2, .ref 0)]) (st' := []) (w2 := ([.inl (2, m, .inl (f))] : AW)) rfl ?_
  refine ev_b bJ6_getChars_ba4f3_22_25 (lv' := [(0, .int (zI (-(((v : Nat) : Int))))), (6, .int (nI (0))), (5, .int (nI (n + 2))), (1, .int (nI (n + 2))), (2, .ref 0)]) (st' := [.int (-100), .int (zI (-(((v : Nat) : Int))))]) (w2 := ([.inl (2, m, .inl (f))] : AW)) rfl ?_
  refine ev_top (y := zI (-100)) (by decide) ?_
  refine ev_icmp_gt_z (tgt := 72) (by constructor <;> omega) (by constructor <;> omega) dJ6_getChars_ba4f3_25 (by decide) (fun h25 => ?_) (fun h25 => (by exfalso; omega))
  refine ev_b bJ6_getChars_ba4f3_72_73 (lv' := [(0, .int (zI (-(((v : Nat) : Int))))), (6, .int (nI (0))), (5, .int (nI (n + 2))), (1, .int (nI (n + 2))), (2, .ref 0)]) (st' := [.ref 0]) (w2 := ([.inl (2, m, .inl (f))] : AW)) rfl ?_
  refine ev_idec_n (x := n + 2) dJ6_getChars_ba4f3_73 rfl (by decide) (by omega) ?_
  refine ev_eq (lv' := [(5, .int (nI ((n + 2) - 1))), (0, .int (zI (-(((v : Nat) : Int))))), (6, .int (nI (0))), (1, .int (nI (n + 2))), (2, .ref 0)]) rfl rfl rfl ?_
  refine ev_eq (lv' := [(5, .int (nI (n + 1))), (0, .int (zI (-(((v : Nat) : Int))))), (6, .int (nI (0))), (1, .int (nI (n + 2))), (2, .ref 0)]) rfl rfl rfl ?_
  refine ev_b bJ6_getChars_ba4f3_76_78 (lv' := [(5, .int (nI (n + 1))), (0, .int (zI (-(((v : Nat) : Int))))), (6, .int (nI (0))), (1, .int (nI (n + 2))), (2, .ref 0)]) (st' := [.int (nI (n + 1)), .ref 0]) (w2 := ([.inl (2, m, .inl (f))] : AW)) rfl ?_
  refine ev_getsO (b := 22) (by decide) dJ6_getChars_ba4f3_78 tw_1419 ?_
  refine ev_b bJ6_getChars_ba4f3_81_82 (lv' := [(5, .int (nI (n + 1))), (0, .int (zI (-(((v : Nat) : Int))))), (6, .int (nI (0))), (1, .int (nI (n + 2))), (2, .ref 0)]) (st' := [.int (zI (-(((v : Nat) : Int)))), .float 22, .int (nI (n + 1)), .ref 0]) (w2 := ([.inl (2, m, .inl (f))] : AW)) rfl ?_
  refine ev_ineg_z dJ6_getChars_ba4f3_82 ?_
  refine ev_top (y := (nI (v))) (by rw [show -(-(((v : Nat) : Int))) = ((v : Nat) : Int) from by omega]; exact zI_nat _) ?_
  refine ev_digO (by decide) (by omega) dJ6_getChars_ba4f3_83 ?_
  refine ev_bast (v := sb_b (48 + v % 10)) dJ6_getChars_ba4f3_84 rfl (by show n + 1 < m; omega) (by show m ≤ 65536; omega) (by first | rfl | exact pk_vb _) ?_
  refine ev_eq (w' := ([.inl (2, m, .inl (upd f (n + 1) (sb_b (48 + v % 10))))] : AW)) rfl rfl rfl ?_
  refine ev_b bJ6_getChars_ba4f3_85_88 (lv' := [(5, .int (nI (n + 1))), (0, .int (zI (-(((v : Nat) : Int))))), (6, .int (nI (0))), (1, .int (nI (n + 2))), (2, .ref 0)]) (st' := [.int (-9), .int (zI (-(((v : Nat) : Int))))]) (w2 := ([.inl (2, m, .inl (upd f (n + 1) (sb_b (48 + v % 10))))] : AW)) rfl ?_
  refine ev_top (y := zI (-9)) (by decide) ?_
  refine ev_icmp_ge_z (tgt := 104) (by constructor <;> omega) (by constructor <;> omega) dJ6_getChars_ba4f3_88 (by decide) (fun h88 => (by exfalso; omega)) (fun h88 => ?_)
  refine ev_b bJ6_getChars_ba4f3_91_92 (lv' := [(5, .int (nI (n + 1))), (0, .int (zI (-(((v : Nat) : Int))))), (6, .int (nI (0))), (1, .int (nI (n + 2))), (2, .ref 0)]) (st' := [.ref 0]) (w2 := ([.inl (2, m, .inl (upd f (n + 1) (sb_b (48 + v % 10))))] : AW)) rfl ?_
  refine ev_idec_n (x := n + 1) dJ6_getChars_ba4f3_92 rfl (by decide) (by omega) ?_
  refine ev_eq (lv' := [(5, .int (nI ((n + 1) - 1))), (0, .int (zI (-(((v : Nat) : Int))))), (6, .int (nI (0))), (1, .int (nI (n + 2))), (2, .ref 0)]) rfl rfl rfl ?_
  refine ev_eq (lv' := [(5, .int (nI (n))), (0, .int (zI (-(((v : Nat) : Int))))), (6, .int (nI (0))), (1, .int (nI (n + 2))), (2, .ref 0)]) rfl rfl rfl ?_
  refine ev_b bJ6_getChars_ba4f3_95_97 (lv' := [(5, .int (nI (n))), (0, .int (zI (-(((v : Nat) : Int))))), (6, .int (nI (0))), (1, .int (nI (n + 2))), (2, .ref 0)]) (st' := [.int (nI (n)), .ref 0]) (w2 := ([.inl (2, m, .inl (upd f (n + 1) (sb_b (48 + v % 10))))] : AW)) rfl ?_
  refine ev_getsT (b := 21) (by decide) dJ6_getChars_ba4f3_97 tw_1421 ?_
  refine ev_b bJ6_getChars_ba4f3_100_101 (lv' := [(5, .int (nI (n))), (0, .int (zI (-(((v : Nat) : Int))))), (6, .int (nI (0))), (1, .int (nI (n + 2))), (2, .ref 0)]) (st' := [.int (zI (-(((v : Nat) : Int)))), .float 21, .int (nI (n)), .ref 0]) (w2 := ([.inl (2, m, .inl (upd f (n + 1) (sb_b (48 + v % 10))))] : AW)) rfl ?_
  refine ev_ineg_z dJ6_getChars_ba4f3_101 ?_
  refine ev_top (y := (nI (v))) (by rw [show -(-(((v : Nat) : Int))) = ((v : Nat) : Int) from by omega]; exact zI_nat _) ?_
  refine ev_digT (by decide) (by omega) dJ6_getChars_ba4f3_102 ?_
  refine ev_bast (v := sb_b (48 + v / 10)) dJ6_getChars_ba4f3_103 rfl (by show n < m; omega) (by show m ≤ 65536; omega) (by first | rfl | exact pk_vb _) ?_
  refine ev_eq (w' := ([.inl (2, m, .inl (upd (upd f (n + 1) (sb_b (48 + v % 10))) n (sb_b (48 + v / 10))))] : AW)) rfl rfl rfl ?_
  refine ev_b bJ6_getChars_ba4f3_104_106 (lv' := [(5, .int (nI (n))), (0, .int (zI (-(((v : Nat) : Int))))), (6, .int (nI (0))), (1, .int (nI (n + 2))), (2, .ref 0)]) (st' := [.int (nI (0))]) (w2 := ([.inl (2, m, .inl (upd (upd f (n + 1) (sb_b (48 + v % 10))) n (sb_b (48 + v / 10))))] : AW)) rfl ?_
  refine ev_if_eq_n (tgt := 118) (by decide) dJ6_getChars_ba4f3_106 (by decide) (fun h106 => ?_) (fun h106 => (by exfalso; omega))
  refine ev_b bJ6_getChars_ba4f3_118_120 (lv' := [(5, .int (nI (n))), (0, .int (zI (-(((v : Nat) : Int))))), (6, .int (nI (0))), (1, .int (nI (n + 2))), (2, .ref 0)]) (st' := [.int (nI (n))]) (w2 := ([.inl (2, m, .inl (upd (upd f (n + 1) (sb_b (48 + v % 10))) n (sb_b (48 + v / 10))))] : AW)) rfl ?_
  exact ev_iret dJ6_getChars_ba4f3_120 rfl (Nat.le_of_ble_eq_true rfl) (Nat.le_refl _) (Nat.le_refl _) ⟨rfl, rfl⟩
set_option maxHeartbeats 4000000 in
set_option maxRecDepth 100000 in
theorem m_J6_size_3 {l : Launch} {E : XE} (v : Nat) (hv : 100 ≤ v ∧ v < 1000) : MetE l E mJ6_stringSize_0f7a4 (0) 0 0 [.int (nI (v))] ([]) (fun r w' => r = some (.int (nI (3))) ∧ w' = []) := by
  refine MetE.of (by decide +kernel) (Nat.le_of_ble_eq_true rfl) ?_
  obtain ⟨hv1, hv2⟩ := hv
  refine ev_eq (lv' := [(0, .int (nI (v)))]) (st' := []) (w' := []) rfl rfl rfl ?_
  refine ev_b bJ6_stringSize_0f7a4_0_3 (lv' := [(1, .int (nI (1))), (0, .int (nI (v)))]) (st' := [.int (nI (v))]) (w2 := []) rfl ?_
  refine ev_if_lt_n (tgt := 11) (by omega) dJ6_stringSize_0f7a4_3 (by decide) (fun h3 => (by exfalso; omega)) (fun h3 => ?_)
  refine ev_b bJ6_stringSize_0f7a4_6_9 (lv' := [(1, .int (nI (0))), (0, .int (nI (v)))]) (st' := [.int (nI (v))]) (w2 := []) rfl ?_
  refine ev_top (y := zI (((v : Nat) : Int))) (zI_nat _).symm ?_
  refine ev_ineg_z dJ6_stringSize_0f7a4_9 ?_
  refine ev_b bJ6_stringSize_0f7a4_10_14 (lv' := [(2, .int (-10)), (0, .int (zI (-(((v : Nat) : Int))))), (1, .int (nI (0)))]) (st' := []) (w2 := []) rfl ?_
  refine ev_eq (lv' := [(2, .int (zI (-10))), (0, .int (zI (-(((v : Nat) : Int))))), (1, .int (nI (0)))]) rfl rfl rfl ?_
  refine ev_b bJ6_stringSize_0f7a4_14_16 (lv' := [(3, .int (nI (1))), (2, .int (zI (-10))), (0, .int (zI (-(((v : Nat) : Int))))), (1, .int (nI (0)))]) (st' := []) (w2 := []) rfl ?_
  refine ev_b bJ6_stringSize_0f7a4_16_19 (lv' := [(3, .int (nI (1))), (2, .int (zI (-10))), (0, .int (zI (-(((v : Nat) : Int))))), (1, .int (nI (0)))]) (st' := [.int (nI (10)), .int (nI (1))]) (w2 := []) rfl ?_
  refine ev_icmp_ge_n (tgt := 42) (by decide) (by decide) dJ6_stringSize_0f7a4_19 (by decide) (fun h19 => (by exfalso; omega)) (fun h19 => ?_)
  refine ev_b bJ6_stringSize_0f7a4_22_24 (lv' := [(3, .int (nI (1))), (2, .int (zI (-10))), (0, .int (zI (-(((v : Nat) : Int))))), (1, .int (nI (0)))]) (st' := [.int (zI (-10)), .int (zI (-(((v : Nat) : Int))))]) (w2 := []) rfl ?_
  refine ev_icmp_le_z (tgt := 31) (by constructor <;> omega) (by constructor <;> omega) dJ6_stringSize_0f7a4_24 (by decide) (fun h24 => ?_) (fun h24 => (by exfalso; omega))
  refine ev_b bJ6_stringSize_0f7a4_31_34 (lv' := [(3, .int (nI (1))), (2, .int (zI (-10))), (0, .int (zI (-(((v : Nat) : Int))))), (1, .int (nI (0)))]) (st' := [.int (zI (-10)), .int (nI (10))]) (w2 := []) rfl ?_
  refine ev_top2 (y := zI (((10 : Nat) : Int))) (zI_nat _).symm ?_
  refine ev_imul_z dJ6_stringSize_0f7a4_34 ?_
  refine ev_top (y := (zI (-100))) (congrArg zI (show (((10 : Nat) : Int)) * (-10) = -100 from by rfl)) ?_
  refine ev_b bJ6_stringSize_0f7a4_35_36 (lv' := [(2, .int (zI (-100))), (3, .int (nI (1))), (0, .int (zI (-(((v : Nat) : Int))))), (1, .int (nI (0)))]) (st' := []) (w2 := []) rfl ?_
  refine ev_iinc_n (x := 1) (v := 1) dJ6_stringSize_0f7a4_36 rfl (by decide) ?_
  refine ev_eq (lv' := [(3, .int (nI (1 + 1))), (2, .int (zI (-100))), (0, .int (zI (-(((v : Nat) : Int))))), (1, .int (nI (0)))]) rfl rfl rfl ?_
  refine ev_b bJ6_stringSize_0f7a4_39_16 (lv' := [(3, .int (nI (1 + 1))), (2, .int (zI (-100))), (0, .int (zI (-(((v : Nat) : Int))))), (1, .int (nI (0)))]) (st' := []) (w2 := []) rfl ?_
  refine ev_b bJ6_stringSize_0f7a4_16_19 (lv' := [(3, .int (nI (1 + 1))), (2, .int (zI (-100))), (0, .int (zI (-(((v : Nat) : Int))))), (1, .int (nI (0)))]) (st' := [.int (nI (10)), .int (nI (1 + 1))]) (w2 := []) rfl ?_
  refine ev_icmp_ge_n (tgt := 42) (by omega) (by decide) dJ6_stringSize_0f7a4_19 (by decide) (fun h19 => (by exfalso; omega)) (fun h19 => ?_)
  refine ev_b bJ6_stringSize_0f7a4_22_24 (lv' := [(3, .int (nI (1 + 1))), (2, .int (zI (-100))), (0, .int (zI (-(((v : Nat) : Int))))), (1, .int (nI (0)))]) (st' := [.int (zI (-100)), .int (zI (-(((v : Nat) : Int))))]) (w2 := []) rfl ?_
  refine ev_icmp_le_z (tgt := 31) (by constructor <;> omega) (by constructor <;> omega) dJ6_stringSize_0f7a4_24 (by decide) (fun h24 => ?_) (fun h24 => (by exfalso; omega))
  refine ev_b bJ6_stringSize_0f7a4_31_34 (lv' := [(3, .int (nI (1 + 1))), (2, .int (zI (-100))), (0, .int (zI (-(((v : Nat) : Int))))), (1, .int (nI (0)))]) (st' := [.int (zI (-100)), .int (nI (10))]) (w2 := []) rfl ?_
  refine ev_top2 (y := zI (((10 : Nat) : Int))) (zI_nat _).symm ?_
  refine ev_imul_z dJ6_stringSize_0f7a4_34 ?_
  refine ev_top (y := (zI (-1000))) (congrArg zI (show (((10 : Nat) : Int)) * (-100) = -1000 from by rfl)) ?_
  refine ev_b bJ6_stringSize_0f7a4_35_36 (lv' := [(2, .int (zI (-1000))), (3, .int (nI (1 + 1))), (0, .int (zI (-(((v : Nat) : Int))))), (1, .int (nI (0)))]) (st' := []) (w2 := []) rfl ?_
  refine ev_iinc_n (x := 1 + 1) (v := 1) dJ6_stringSize_0f7a4_36 rfl (by decide) ?_
  refine ev_eq (lv' := [(3, .int (nI ((1 + 1) + 1))), (2, .int (zI (-1000))), (0, .int (zI (-(((v : Nat) : Int))))), (1, .int (nI (0)))]) rfl rfl rfl ?_
  refine ev_b bJ6_stringSize_0f7a4_39_16 (lv' := [(3, .int (nI ((1 + 1) + 1))), (2, .int (zI (-1000))), (0, .int (zI (-(((v : Nat) : Int))))), (1, .int (nI (0)))]) (st' := []) (w2 := []) rfl ?_
  refine ev_b bJ6_stringSize_0f7a4_16_19 (lv' := [(3, .int (nI ((1 + 1) + 1))), (2, .int (zI (-1000))), (0, .int (zI (-(((v : Nat) : Int))))), (1, .int (nI (0)))]) (st' := [.int (nI (10)), .int (nI ((1 + 1) + 1))]) (w2 := []) rfl ?_
  refine ev_icmp_ge_n (tgt := 42) (by omega) (by decide) dJ6_stringSize_0f7a4_19 (by decide) (fun h19 => (by exfalso; omega)) (fun h19 => ?_)
  refine ev_b bJ6_stringSize_0f7a4_22_24 (lv' := [(3, .int (nI ((1 + 1) + 1))), (2, .int (zI (-1000))), (0, .int (zI (-(((v : Nat) : Int))))), (1, .int (nI (0)))]) (st' := [.int (zI (-1000)), .int (zI (-(((v : Nat) : Int))))]) (w2 := []) rfl ?_
  refine ev_icmp_le_z (tgt := 31) (by constructor <;> omega) (by constructor <;> omega) dJ6_stringSize_0f7a4_24 (by decide) (fun h24 => (by exfalso; omega)) (fun h24 => ?_)
  refine ev_b bJ6_stringSize_0f7a4_27_29 (lv' := [(3, .int (nI ((1 + 1) + 1))), (2, .int (zI (-1000))), (0, .int (zI (-(((v : Nat) : Int))))), (1, .int (nI (0)))]) (st' := [.int (nI (0)), .int (nI ((1 + 1) + 1))]) (w2 := []) rfl ?_
  refine ev_iadd_n dJ6_stringSize_0f7a4_29 ?_
  exact ev_iret dJ6_stringSize_0f7a4_30 rfl (Nat.le_of_ble_eq_true rfl) (Nat.le_refl _) (Nat.le_refl _) ⟨(congrArg (fun t => some (Value.int (nI t))) (show ((1 + 1) + 1) + 0 = 3 from by omega)), rfl⟩
theorem bJ6_getChars_ba4f3_28_31 {l : Launch} {E : XE} : Snd l E mJ6_getChars_ba4f3 28 31 (xs [x_iload 0, x_push (.int (nI 100))]) := Snd.cons (snd_iload_n (i := 0) dJ6_getChars_ba4f3_28 rfl) (Snd.cons (snd_bipush (v := nI 100) dJ6_getChars_ba4f3_29 (by decide)) Snd.nil)
theorem bJ6_getChars_ba4f3_32_36 {l : Launch} {E : XE} : Snd l E mJ6_getChars_ba4f3 32 36 (xs [x_istore 3, x_iload 3, x_push (.int (nI 100))]) := Snd.cons (snd_istore_n (i := 3) dJ6_getChars_ba4f3_32 rfl (by decide)) (Snd.cons (snd_iload_n (i := 3) dJ6_getChars_ba4f3_33 rfl) (Snd.cons (snd_bipush (v := nI 100) dJ6_getChars_ba4f3_34 (by decide)) Snd.nil))
theorem bJ6_getChars_ba4f3_37_38 {l : Launch} {E : XE} : Snd l E mJ6_getChars_ba4f3 37 38 (xs [x_iload 0]) := Snd.cons (snd_iload_n (i := 0) dJ6_getChars_ba4f3_37 rfl) Snd.nil
theorem bJ6_getChars_ba4f3_39_44 {l : Launch} {E : XE} : Snd l E mJ6_getChars_ba4f3 39 44 (xs [x_istore 4, x_iload 3, x_istore 0, x_aload 2]) := Snd.cons (snd_istore dJ6_getChars_ba4f3_39 (by decide)) (Snd.cons (snd_iload_n (i := 3) dJ6_getChars_ba4f3_41 rfl) (Snd.cons (snd_istore_n (i := 0) dJ6_getChars_ba4f3_42 rfl (by decide)) (Snd.cons (snd_aload_n (i := 2) dJ6_getChars_ba4f3_43 rfl) Snd.nil)))
theorem bJ6_getChars_ba4f3_47_49 {l : Launch} {E : XE} : Snd l E mJ6_getChars_ba4f3 47 49 (xs [x_iload 5]) := Snd.cons (snd_iload dJ6_getChars_ba4f3_47) Snd.nil
theorem bJ6_getChars_ba4f3_52_54 {l : Launch} {E : XE} : Snd l E mJ6_getChars_ba4f3 52 54 (xs [x_iload 4]) := Snd.cons (snd_iload dJ6_getChars_ba4f3_52) Snd.nil
theorem bJ6_getChars_ba4f3_56_57 {l : Launch} {E : XE} : Snd l E mJ6_getChars_ba4f3 56 57 (xs [x_aload 2]) := Snd.cons (snd_aload_n (i := 2) dJ6_getChars_ba4f3_56 rfl) Snd.nil
theorem bJ6_getChars_ba4f3_60_62 {l : Launch} {E : XE} : Snd l E mJ6_getChars_ba4f3 60 62 (xs [x_iload 5]) := Snd.cons (snd_iload dJ6_getChars_ba4f3_60) Snd.nil
theorem bJ6_getChars_ba4f3_65_67 {l : Launch} {E : XE} : Snd l E mJ6_getChars_ba4f3 65 67 (xs [x_iload 4]) := Snd.cons (snd_iload dJ6_getChars_ba4f3_65) Snd.nil
theorem bJ6_getChars_ba4f3_69_22 {l : Launch} {E : XE} : Snd l E mJ6_getChars_ba4f3 69 22 (xs [x_id]) := Snd.cons (snd_goto (tgt := 22) dJ6_getChars_ba4f3_69 (by decide)) Snd.nil
set_option maxHeartbeats 4000000 in
set_option maxRecDepth 100000 in
theorem m_J6_chars_3 {l : Launch} {E : XE} (v n m : Nat) (f : Nat → Int32) (hv : 100 ≤ v ∧ v < 1000) (hpm : n + 3 ≤ m) (hm : m ≤ 65536) : MetE l E mJ6_getChars_ba4f3 (0) 0 0 [.int (nI (v)), .int (nI (n + 3)), .ref 0] (([.inl (2, m, .inl (f))] : AW)) (fun r w' => r = some (.int (nI (n))) ∧ w' = ([.inl (2, m, .inl (upd (upd (upd f (n + 2) (sb_b (48 + v % 100 % 10))) (n + 1) (sb_b (48 + v % 100 / 10))) n (sb_b (48 + v / 100 % 10))))] : AW)) := by
  refine MetE.of (by decide +kernel) (Nat.le_of_ble_eq_true rfl) ?_
  obtain ⟨hv1, hv2⟩ := hv
  refine ev_eq (lv' := [(0, .int (nI (v))), (1, .int (nI (n + 3))), (2, .ref 0)]) (st' := []) (w' := ([.inl (2, m, .inl (f))] : AW)) rfl rfl rfl ?_
  refine ev_b bJ6_getChars_ba4f3_0_4 (lv' := [(5, .int (nI (n + 3))), (0, .int (nI (v))), (1, .int (nI (n + 3))), (2, .ref 0)]) (st' := [.int (nI (v))]) (w2 := ([.inl (2, m, .inl (f))] : AW)) rfl ?_
  refine ev_if_ge_n (tgt := 11) (by omega) dJ6_getChars_ba4f3_4 (by decide) (fun h4 => ?_) (fun h4 => (by exfalso; omega))
  refine ev_b bJ6_getChars_ba4f3_11_16 (lv' := [(6, .int (nI (0))), (5, .int (nI (n + 3))), (0, .int (nI (v))), (1, .int (nI (n + 3))), (2, .ref 0)]) (st' := [.int (nI (0))]) (w2 := ([.inl (2, m, .inl (f))] : AW)) rfl ?_
  refine ev_if_ne_n (tgt := 22) (by decide) dJ6_getChars_ba4f3_16 (by decide) (fun h16 => (by exfalso; omega)) (fun h16 => ?_)
  refine ev_b bJ6_getChars_ba4f3_19_20 (lv' := [(6, .int (nI (0))), (5, .int (nI (n + 3))), (0, .int (nI (v))), (1, .int (nI (n + 3))), (2, .ref 0)]) (st' := [.int (nI (v))]) (w2 := ([.inl (2, m, .inl (f))] : AW)) rfl ?_
  refine ev_top (y := zI (((v : Nat) : Int))) (zI_nat _).symm ?_
  refine ev_ineg_z dJ6_getChars_ba4f3_20 ?_
  refine ev_b bJ6_getChars_ba4f3_21_22 (lv' := [(0, .int (zI (-(((v : Nat) : Int))))), (6, .int (nI (0))), (5, .int (nI (n + 3))), (1, .int (nI (n + 3))), (2, .ref 0)]) (st' := []) (w2 := ([.inl (2, m, .inl (f))] : AW)) rfl ?_
  refine ev_b bJ6_getChars_ba4f3_22_25 (lv' := [(0, .int (zI (-(((v : Nat) : Int))))), (6, .int (nI (0))), (5, .int (nI (n + 3))), (1, .int (nI (n + 3))), (2, .ref 0)]) (st' := [.int (-100), .int (zI (-(((v : Nat) : Int))))]) (w2 := ([.inl (2, m, .inl (f))] : AW)) rfl ?_
  refine ev_top (y := zI (-100)) (by decide) ?_
  refine ev_icmp_gt_z (tgt := 72) (by constructor <;> omega) (by constructor <;> omega) dJ6_getChars_ba4f3_25 (by decide) (fun h25 => (by exfalso; omega)) (fun h25 => ?_)
  refine ev_b bJ6_getChars_ba4f3_28_31 (lv' := [(0, .int (zI (-(((v : Nat) : Int))))), (6, .int (nI (0))), (5, .int (nI (n + 3))), (1, .int (nI (n + 3))), (2, .ref 0)]) (st' := [.int (nI (100)), .int (zI (-(((v : Nat) : Int))))]) (w2 := ([.inl (2, m, .inl (f))] : AW)) rfl ?_
  refine ev_idiv dJ6_getChars_ba4f3_31 (by decide) ?_
  refine ev_top (y := (zI (-((v / 100 : Nat) : Int)))) (by rw [← zI_neg, zI_nat, show nI 100 = (100 : Int32) from rfl, sb_ndiv (by omega), ← zI_nat, zI_neg]) ?_
  refine ev_b bJ6_getChars_ba4f3_32_36 (lv' := [(3, .int (zI (-((v / 100 : Nat) : Int)))), (0, .int (zI (-(((v : Nat) : Int))))), (6, .int (nI (0))), (5, .int (nI (n + 3))), (1, .int (nI (n + 3))), (2, .ref 0)]) (st' := [.int (nI (100)), .int (zI (-((v / 100 : Nat) : Int)))]) (w2 := ([.inl (2, m, .inl (f))] : AW)) rfl ?_
  refine ev_top (y := zI (((100 : Nat) : Int))) (zI_nat _).symm ?_
  refine ev_imul_z dJ6_getChars_ba4f3_36 ?_
  refine ev_b bJ6_getChars_ba4f3_37_38 (lv' := [(3, .int (zI (-((v / 100 : Nat) : Int)))), (0, .int (zI (-(((v : Nat) : Int))))), (6, .int (nI (0))), (5, .int (nI (n + 3))), (1, .int (nI (n + 3))), (2, .ref 0)]) (st' := [.int (zI (-(((v : Nat) : Int)))), .int (zI ((-((v / 100 : Nat) : Int)) * (((100 : Nat) : Int))))]) (w2 := ([.inl (2, m, .inl (f))] : AW)) rfl ?_
  refine ev_isub_z dJ6_getChars_ba4f3_38 ?_
  refine ev_top (y := (nI (v % 100))) (by rw [show ((-((v / 100 : Nat) : Int)) * (((100 : Nat) : Int))) - (-(((v : Nat) : Int))) = ((v % 100 : Nat) : Int) from by omega]; exact zI_nat _) ?_
  refine ev_b bJ6_getChars_ba4f3_39_44 (lv' := [(0, .int (zI (-((v / 100 : Nat) : Int)))), (4, .int (nI (v % 100))), (3, .int (zI (-((v / 100 : Nat) : Int)))), (6, .int (nI (0))), (5, .int (nI (n + 3))), (1, .int (nI (n + 3))), (2, .ref 0)]) (st' := [.ref 0]) (w2 := ([.inl (2, m, .inl (f))] : AW)) rfl ?_
  refine ev_idec_n (x := n + 3) dJ6_getChars_ba4f3_44 rfl (by decide) (by omega) ?_
  refine ev_eq (lv' := [(5, .int (nI ((n + 3) - 1))), (0, .int (zI (-((v / 100 : Nat) : Int)))), (4, .int (nI (v % 100))), (3, .int (zI (-((v / 100 : Nat) : Int)))), (6, .int (nI (0))), (1, .int (nI (n + 3))), (2, .ref 0)]) rfl rfl rfl ?_
  refine ev_eq (lv' := [(5, .int (nI (n + 2))), (0, .int (zI (-((v / 100 : Nat) : Int)))), (4, .int (nI (v % 100))), (3, .int (zI (-((v / 100 : Nat) : Int)))), (6, .int (nI (0))), (1, .int (nI (n + 3))), (2, .ref 0)]) rfl rfl rfl ?_
  refine ev_b bJ6_getChars_ba4f3_47_49 (lv' := [(5, .int (nI (n + 2))), (0, .int (zI (-((v / 100 : Nat) : Int)))), (4, .int (nI (v % 100))), (3, .int (zI (-((v / 100 : Nat) : Int)))), (6, .int (nI (0))), (1, .int (nI (n + 3))), (2, .ref 0)]) (st' := [.int (nI (n + 2)), .ref 0]) (w2 := ([.inl (2, m, .inl (f))] : AW)) rfl ?_
  refine ev_getsO (b := 22) (by decide) dJ6_getChars_ba4f3_49 tw_1419 ?_
  refine ev_b bJ6_getChars_ba4f3_52_54 (lv' := [(5, .int (nI (n + 2))), (0, .int (zI (-((v / 100 : Nat) : Int)))), (4, .int (nI (v % 100))), (3, .int (zI (-((v / 100 : Nat) : Int)))), (6, .int (nI (0))), (1, .int (nI (n + 3))), (2, .ref 0)]) (st' := [.int (nI (v % 100)), .float 22, .int (nI (n + 2)), .ref 0]) (w2 := ([.inl (2, m, .inl (f))] : AW)) rfl ?_
  refine ev_digO (by decide) (by omega) dJ6_getChars_ba4f3_54 ?_
  refine ev_bast (v := sb_b (48 + (v % 100) % 10)) dJ6_getChars_ba4f3_55 rfl (by show n + 2 < m; omega) (by show m ≤ 65536; omega) (by first | rfl | exact pk_vb _) ?_
  refine ev_eq (w' := ([.inl (2, m, .inl (upd f (n + 2) (sb_b (48 + (v % 100) % 10))))] : AW)) rfl rfl rfl ?_
  refine ev_b bJ6_getChars_ba4f3_56_57 (lv' := [(5, .int (nI (n + 2))), (0, .int (zI (-((v / 100 : Nat) : Int)))), (4, .int (nI (v % 100))), (3, .int (zI (-((v / 100 : Nat) : Int)))), (6, .int (nI (0))), (1, .int (nI (n + 3))), (2, .ref 0)]) (st' := [.ref 0]) (w2 := ([.inl (2, m, .inl (upd f (n + 2) (sb_b (48 + (v % 100) % 10))))] : AW)) rfl ?_
  refine ev_idec_n (x := n + 2) dJ6_getChars_ba4f3_57 rfl (by decide) (by omega) ?_
  refine ev_eq (lv' := [(5, .int (nI ((n + 2) - 1))), (0, .int (zI (-((v / 100 : Nat) : Int)))), (4, .int (nI (v % 100))), (3, .int (zI (-((v / 100 : Nat) : Int)))), (6, .int (nI (0))), (1, .int (nI (n + 3))), (2, .ref 0)]) rfl rfl rfl ?_
  refine ev_eq (lv' := [(5, .int (nI (n + 1))), (0, .int (zI (-((v / 100 : Nat) : Int)))), (4, .int (nI (v % 100))), (3, .int (zI (-((v / 100 : Nat) : Int)))), (6, .int (nI (0))), (1, .int (nI (n + 3))), (2, .ref 0)]) rfl rfl rfl ?_
  refine ev_b bJ6_getChars_ba4f3_60_62 (lv' := [(5, .int (nI (n + 1))), (0, .int (zI (-((v / 100 : Nat) : Int)))), (4, .int (nI (v % 100))), (3, .int (zI (-((v / 100 : Nat) : Int)))), (6, .int (nI (0))), (1, .int (nI (n + 3))), (2, .ref 0)]) (st' := [.int (nI (n + 1)), .ref 0]) (w2 := ([.inl (2, m, .inl (upd f (n + 2) (sb_b (48 + (v % 100) % 10))))] : AW)) rfl ?_
  refine ev_getsT (b := 21) (by decide) dJ6_getChars_ba4f3_62 tw_1421 ?_
  refine ev_b bJ6_getChars_ba4f3_65_67 (lv' := [(5, .int (nI (n + 1))), (0, .int (zI (-((v / 100 : Nat) : Int)))), (4, .int (nI (v % 100))), (3, .int (zI (-((v / 100 : Nat) : Int)))), (6, .int (nI (0))), (1, .int (nI (n + 3))), (2, .ref 0)]) (st' := [.int (nI (v % 100)), .float 21, .int (nI (n + 1)), .ref 0]) (w2 := ([.inl (2, m, .inl (upd f (n + 2) (sb_b (48 + (v % 100) % 10))))] : AW)) rfl ?_
  refine ev_digT (by decide) (by omega) dJ6_getChars_ba4f3_67 ?_
  refine ev_bast (v := sb_b (48 + (v % 100) / 10)) dJ6_getChars_ba4f3_68 rfl (by show n + 1 < m; omega) (by show m ≤ 65536; omega) (by first | rfl | exact pk_vb _) ?_
  refine ev_eq (w' := ([.inl (2, m, .inl (upd (upd f (n + 2) (sb_b (48 + (v % 100) % 10))) (n + 1) (sb_b (48 + (v % 100) / 10))))] : AW)) rfl rfl rfl ?_
  refine ev_b bJ6_getChars_ba4f3_69_22 (lv' := [(5, .int (nI (n + 1))), (0, .int (zI (-((v / 100 : Nat) : Int)))), (4, .int (nI (v % 100))), (3, .int (zI (-((v / 100 : Nat) : Int)))), (6, .int (nI (0))), (1, .int (nI (n + 3))), (2, .ref 0)]) (st' := []) (w2 := ([.inl (2, m, .inl (upd (upd f (n + 2) (sb_b (48 + (v % 100) % 10))) (n + 1) (sb_b (48 + (v % 100) / 10))))] : AW)) rfl ?_
  refine ev_b bJ6_getChars_ba4f3_22_25 (lv' := [(5, .int (nI (n + 1))), (0, .int (zI (-((v / 100 : Nat) : Int)))), (4, .int (nI (v % 100))), (3, .int (zI (-((v / 100 : Nat) : Int)))), (6, .int (nI (0))), (1, .int (nI (n + 3))), (2, .ref 0)]) (st' := [.int (-100), .int (zI (-((v / 100 : Nat) : Int)))]) (w2 := ([.inl (2, m, .inl (upd (upd f (n + 2) (sb_b (48 + (v % 100) % 10))) (n + 1) (sb_b (48 + (v % 100) / 10))))] : AW)) rfl ?_
  refine ev_top (y := zI (-100)) (by decide) ?_
  refine ev_icmp_gt_z (tgt := 72) (by constructor <;> omega) (by constructor <;> omega) dJ6_getChars_ba4f3_25 (by decide) (fun h25 => ?_) (fun h25 => (by exfalso; omega))
  refine ev_b bJ6_getChars_ba4f3_72_73 (lv' := [(5, .int (nI (n + 1))), (0, .int (zI (-((v / 100 : Nat) : Int)))), (4, .int (nI (v % 100))), (3, .int (zI (-((v / 100 : Nat) : Int)))), (6, .int (nI (0))), (1, .int (nI (n + 3))), (2, .ref 0)]) (st' := [.ref 0]) (w2 := ([.inl (2, m, .inl (upd (upd f (n + 2) (sb_b (48 + (v % 100) % 10))) (n + 1) (sb_b (48 + (v % 100) / 10))))] : AW)) rfl ?_
  refine ev_idec_n (x := n + 1) dJ6_getChars_ba4f3_73 rfl (by decide) (by omega) ?_
  refine ev_eq (lv' := [(5, .int (nI ((n + 1) - 1))), (0, .int (zI (-((v / 100 : Nat) : Int)))), (4, .int (nI (v % 100))), (3, .int (zI (-((v / 100 : Nat) : Int)))), (6, .int (nI (0))), (1, .int (nI (n + 3))), (2, .ref 0)]) rfl rfl rfl ?_
  refine ev_eq (lv' := [(5, .int (nI (n))), (0, .int (zI (-((v / 100 : Nat) : Int)))), (4, .int (nI (v % 100))), (3, .int (zI (-((v / 100 : Nat) : Int)))), (6, .int (nI (0))), (1, .int (nI (n + 3))), (2, .ref 0)]) rfl rfl rfl ?_
  refine ev_b bJ6_getChars_ba4f3_76_78 (lv' := [(5, .int (nI (n))), (0, .int (zI (-((v / 100 : Nat) : Int)))), (4, .int (nI (v % 100))), (3, .int (zI (-((v / 100 : Nat) : Int)))), (6, .int (nI (0))), (1, .int (nI (n + 3))), (2, .ref 0)]) (st' := [.int (nI (n)), .ref 0]) (w2 := ([.inl (2, m, .inl (upd (upd f (n + 2) (sb_b (48 + (v % 100) % 10))) (n + 1) (sb_b (48 + (v % 100) / 10))))] : AW)) rfl ?_
  refine ev_getsO (b := 22) (by decide) dJ6_getChars_ba4f3_78 tw_1419 ?_
  refine ev_b bJ6_getChars_ba4f3_81_82 (lv' := [(5, .int (nI (n))), (0, .int (zI (-((v / 100 : Nat) : Int)))), (4, .int (nI (v % 100))), (3, .int (zI (-((v / 100 : Nat) : Int)))), (6, .int (nI (0))), (1, .int (nI (n + 3))), (2, .ref 0)]) (st' := [.int (zI (-((v / 100 : Nat) : Int))), .float 22, .int (nI (n)), .ref 0]) (w2 := ([.inl (2, m, .inl (upd (upd f (n + 2) (sb_b (48 + (v % 100) % 10))) (n + 1) (sb_b (48 + (v % 100) / 10))))] : AW)) rfl ?_
  refine ev_ineg_z dJ6_getChars_ba4f3_82 ?_
  refine ev_top (y := (nI (v / 100))) (by rw [show -(-((v / 100 : Nat) : Int)) = ((v / 100 : Nat) : Int) from by omega]; exact zI_nat _) ?_
  refine ev_digO (by decide) (by omega) dJ6_getChars_ba4f3_83 ?_
  refine ev_bast (v := sb_b (48 + (v / 100) % 10)) dJ6_getChars_ba4f3_84 rfl (by show n < m; omega) (by show m ≤ 65536; omega) (by first | rfl | exact pk_vb _) ?_
  refine ev_eq (w' := ([.inl (2, m, .inl (upd (upd (upd f (n + 2) (sb_b (48 + (v % 100) % 10))) (n + 1) (sb_b (48 + (v % 100) / 10))) n (sb_b (48 + (v / 100) % 10))))] : AW)) rfl rfl rfl ?_
  refine ev_b bJ6_getChars_ba4f3_85_88 (lv' := [(5, .int (nI (n))), (0, .int (zI (-((v / 100 : Nat) : Int)))), (4, .int (nI (v % 100))), (3, .int (zI (-((v / 100 : Nat) : Int)))), (6, .int (nI (0))), (1, .int (nI (n + 3))), (2, .ref 0)]) (st' := [.int (-9), .int (zI (-((v / 100 : Nat) : Int)))]) (w2 := ([.inl (2, m, .inl (upd (upd (upd f (n + 2) (sb_b (48 + (v % 100) % 10))) (n + 1) (sb_b (48 + (v % 100) / 10))) n (sb_b (48 + (v / 100) % 10))))] : AW)) rfl ?_
  refine ev_top (y := zI (-9)) (by decide) ?_
  refine ev_icmp_ge_z (tgt := 104) (by constructor <;> omega) (by constructor <;> omega) dJ6_getChars_ba4f3_88 (by decide) (fun h88 => ?_) (fun h88 => (by exfalso; omega))
  refine ev_b bJ6_getChars_ba4f3_104_106 (lv' := [(5, .int (nI (n))), (0, .int (zI (-((v / 100 : Nat) : Int)))), (4, .int (nI (v % 100))), (3, .int (zI (-((v / 100 : Nat) : Int)))), (6, .int (nI (0))), (1, .int (nI (n + 3))), (2, .ref 0)]) (st' := [.int (nI (0))]) (w2 := ([.inl (2, m, .inl (upd (upd (upd f (n + 2) (sb_b (48 + (v % 100) % 10))) (n + 1) (sb_b (48 + (v % 100) / 10))) n (sb_b (48 + (v / 100) % 10))))] : AW)) rfl ?_
  refine ev_if_eq_n (tgt := 118) (by decide) dJ6_getChars_ba4f3_106 (by decide) (fun h106 => ?_) (fun h106 => (by exfalso; omega))
  refine ev_b bJ6_getChars_ba4f3_118_120 (lv' := [(5, .int (nI (n))), (0, .int (zI (-((v / 100 : Nat) : Int)))), (4, .int (nI (v % 100))), (3, .int (zI (-((v / 100 : Nat) : Int)))), (6, .int (nI (0))), (1, .int (nI (n + 3))), (2, .ref 0)]) (st' := [.int (nI (n))]) (w2 := ([.inl (2, m, .inl (upd (upd (upd f (n + 2) (sb_b (48 + (v % 100) % 10))) (n + 1) (sb_b (48 + (v % 100) / 10))) n (sb_b (48 + (v / 100) % 10))))] : AW)) rfl ?_
  exact ev_iret dJ6_getChars_ba4f3_120 rfl (Nat.le_of_ble_eq_true rfl) (Nat.le_refl _) (Nat.le_refl _) ⟨rfl, (by rfl)⟩
theorem bJ5_append_c97b9_0_7 {l : Launch} {E : XE} : Snd l E mJ5_append_c97b9 0 7 (xs [x_aload 0, x_get 0 3, x_istore 2, x_iload 2, x_iload 1]) := Snd.cons (snd_aload_n (i := 0) dJ5_append_c97b9_0 rfl) (Snd.cons (snd_get (ci := 0) (k := 3) dJ5_append_c97b9_1 rfl inJ4 (by decide) tw_1320) (Snd.cons (snd_istore_n (i := 2) dJ5_append_c97b9_4 rfl (by decide)) (Snd.cons (snd_iload_n (i := 2) dJ5_append_c97b9_5 rfl) (Snd.cons (snd_iload_n (i := 1) dJ5_append_c97b9_6 rfl) Snd.nil))))
theorem bJ5_append_c97b9_11_14 {l : Launch} {E : XE} : Snd l E mJ5_append_c97b9 11 14 (xs [x_istore 3, x_aload 0, x_iload 3]) := Snd.cons (snd_istore_n (i := 3) dJ5_append_c97b9_11 rfl (by decide)) (Snd.cons (snd_aload_n (i := 0) dJ5_append_c97b9_12 rfl) (Snd.cons (snd_iload_n (i := 3) dJ5_append_c97b9_13 rfl) Snd.nil))
theorem bJ5_append_c97b9_17_18 {l : Launch} {E : XE} : Snd l E mJ5_append_c97b9 17 18 (xs [x_aload 0]) := Snd.cons (snd_aload_n (i := 0) dJ5_append_c97b9_17 rfl) Snd.nil
theorem bJ5_append_c97b9_24_30 {l : Launch} {E : XE} : Snd l E mJ5_append_c97b9 24 30 (xs [x_iload 1, x_iload 3, x_aload 0, x_get 0 0]) := Snd.cons (snd_iload_n (i := 1) dJ5_append_c97b9_24 rfl) (Snd.cons (snd_iload_n (i := 3) dJ5_append_c97b9_25 rfl) (Snd.cons (snd_aload_n (i := 0) dJ5_append_c97b9_26 rfl) (Snd.cons (snd_get (ci := 0) (k := 0) dJ5_append_c97b9_27 rfl inJ4 (by decide) tw_1318) Snd.nil)))
theorem bJ5_append_c97b9_33_54 {l : Launch} {E : XE} : Snd l E mJ5_append_c97b9 33 54 (xs [x_pop, x_id, x_aload 0, x_iload 3, x_puti 0 3, x_aload 0]) := Snd.cons (snd_pop dJ5_append_c97b9_33) (Snd.cons (snd_goto (tgt := 48) dJ5_append_c97b9_34 (by decide)) (Snd.cons (snd_aload_n (i := 0) dJ5_append_c97b9_48 rfl) (Snd.cons (snd_iload_n (i := 3) dJ5_append_c97b9_49 rfl) (Snd.cons (snd_puti (ci := 0) (k := 3) dJ5_append_c97b9_50 rfl inJ4 tyJ4_ok nmJ4 (by decide) tw_1320 rfl rfl) (Snd.cons (snd_aload_n (i := 0) dJ5_append_c97b9_53 rfl) Snd.nil)))))
set_option maxHeartbeats 4000000 in
set_option maxRecDepth 100000 in
theorem m_J5_appI1_n {l : Launch} {E : XE} (s : SbN) (v : Nat) (hv : v < 10) (h4 : s.m ≤ 4096) (h : s.n + 1 ≤ s.m) : MetE l E mJ5_append_c97b9 (1) 0 0 [.ref 0, .int (nI (v))] (sbW 0 s) (fun r w' => r = some (.ref 0) ∧ w' = sbW 0 ((upd (s.f) s.n (sb_b (48 + v % 10)), s.m, s.n + 1) : SbN)) := by
  refine MetE.of (by decide +kernel) (Nat.le_of_ble_eq_true rfl) ?_
  refine ev_eq (lv' := [(0, .ref 0), (1, .int (nI (v)))]) (st' := []) (w' := sbW 0 s) rfl rfl rfl ?_
  refine ev_b bJ5_append_c97b9_0_7 (lv' := [(2, .int (nI (s.n))), (0, .ref 0), (1, .int (nI (v)))]) (st' := [.int (nI (v)), .int (nI (s.n))]) (w2 := sbW 0 s) rfl ?_
  refine ev_callS (Yc := mJ6_stringSize_0f7a4) [] dJ5_append_c97b9_7 tw_1413 kJ6_stringSize_0f7a4 (m_J6_size_1 v hv) rfl (st := [.int (nI (s.n))]) rfl (by decide) rfl (by decide) (Nat.le_of_ble_eq_true rfl) (Nat.le_refl _) (Nat.le_refl _) (fun r w' h => by obtain ⟨-, rfl⟩ := h; exact Nat.le_of_ble_eq_true rfl) ?_
  rintro _ _ ⟨rfl, rfl⟩
  refine ev_eq (lv' := [(2, .int (nI (s.n))), (0, .ref 0), (1, .int (nI (v)))]) (st' := [.int (nI (1)), .int (nI (s.n))]) (w' := sbW 0 s) rfl rfl rfl ?_
  refine ev_iadd_n dJ5_append_c97b9_10 ?_
  refine ev_b bJ5_append_c97b9_11_14 (lv' := [(3, .int (nI (s.n + 1))), (2, .int (nI (s.n))), (0, .ref 0), (1, .int (nI (v)))]) (st' := [.int (nI (s.n + 1)), .ref 0]) (w2 := sbW 0 s) rfl ?_
  refine ev_callU (Yc := mJ5_ensureCapacityInternal_d00df) [0, 1] dJ5_append_c97b9_14 tw_1344 kJ5_ensureCapacityInternal_d00df tx_0 (m_J5_ensure_n s (s.n + 1) (by omega) h4) rfl (st := []) rfl rfl rfl (by decide) rfl (by decide) (Nat.le_of_ble_eq_true rfl) (Nat.le_refl _) (Nat.le_refl _) (fun r w' h => by obtain ⟨-, rfl⟩ := h; exact Nat.le_of_ble_eq_true rfl) ?_
  rintro _ _ ⟨rfl, rfl⟩
  refine ev_eq (lv' := [(3, .int (nI (s.n + 1))), (2, .int (nI (s.n))), (0, .ref 0), (1, .int (nI (v)))]) (st' := []) (w' := sbW 0 s) rfl rfl rfl ?_
  refine ev_b bJ5_append_c97b9_17_18 (lv' := [(3, .int (nI (s.n + 1))), (2, .int (nI (s.n))), (0, .ref 0), (1, .int (nI (v)))]) (st' := [.ref 0]) (w2 := sbW 0 s) rfl ?_
  refine ev_callU (Yc := mJ5_isLatin1_aae02) [0, 1] dJ5_append_c97b9_18 tw_1373 kJ5_isLatin1_aae02 tw_1376 (m_J5_isLatin1_aae02 s) rfl (st := []) rfl rfl rfl (by decide) rfl (by decide) (Nat.le_of_ble_eq_true rfl) (Nat.le_refl _) (Nat.le_refl _) (fun r w' h => by obtain ⟨-, rfl⟩ := h; exact Nat.le_of_ble_eq_true rfl) ?_
  rintro _ _ ⟨rfl, rfl⟩
  refine ev_eq (lv' := [(3, .int (nI (s.n + 1))), (2, .int (nI (s.n))), (0, .ref 0), (1, .int (nI (v)))]) (st' := [.int (nI (1))]) (w' := sbW 0 s) rfl rfl rfl ?_
  refine ev_if_eq_n (tgt := 37) (by decide) dJ5_append_c97b9_21 (by decide) (fun h21 => (by exfalso; omega)) (fun h21 => ?_)
  refine ev_b bJ5_append_c97b9_24_30 (lv' := [(3, .int (nI (s.n + 1))), (2, .int (nI (s.n))), (0, .ref 0), (1, .int (nI (v)))]) (st' := [.ref 1, .int (nI (s.n + 1)), .int (nI (v))]) (w2 := sbW 0 s) rfl ?_
  refine ev_callS (Yc := mJ6_getChars_ba4f3) [1] dJ5_append_c97b9_30 tw_1416 kJ6_getChars_ba4f3 (m_J6_chars_1 v s.n (s.m) (s.f) hv (by omega) (by omega)) rfl (st := []) rfl (by decide) rfl (by decide) (Nat.le_of_ble_eq_true rfl) (Nat.le_refl _) (Nat.le_refl _) (fun r w' h => by obtain ⟨-, rfl⟩ := h; exact Nat.le_of_ble_eq_true rfl) ?_
  rintro _ _ ⟨rfl, rfl⟩
  refine ev_eq (lv' := [(3, .int (nI (s.n + 1))), (2, .int (nI (s.n))), (0, .ref 0), (1, .int (nI (v)))]) (st' := [.int (nI (s.n))]) (w' := sbW 0 ((upd (s.f) s.n (sb_b (48 + v % 10)), s.m, s.n) : SbN)) rfl rfl rfl ?_
  refine ev_b bJ5_append_c97b9_33_54 (lv' := [(3, .int (nI (s.n + 1))), (2, .int (nI (s.n))), (0, .ref 0), (1, .int (nI (v)))]) (st' := [.ref 0]) (w2 := sbW 0 ((upd (s.f) s.n (sb_b (48 + v % 10)), s.m, s.n + 1) : SbN)) rfl ?_
  exact ev_oret dJ5_append_c97b9_54 rfl (Nat.le_of_ble_eq_true rfl) (Nat.le_refl _) (Nat.le_refl _) ⟨rfl, rfl⟩
theorem bJ4_append_bf812_0_2 {l : Launch} {E : XE} : Snd l E mJ4_append_bf812 0 2 (xs [x_aload 0, x_iload 1]) := Snd.cons (snd_aload_n (i := 0) dJ4_append_bf812_0 rfl) (Snd.cons (snd_iload_n (i := 1) dJ4_append_bf812_1 rfl) Snd.nil)
theorem bJ4_append_bf812_5_7 {l : Launch} {E : XE} : Snd l E mJ4_append_bf812 5 7 (xs [x_pop, x_aload 0]) := Snd.cons (snd_pop dJ4_append_bf812_5) (Snd.cons (snd_aload_n (i := 0) dJ4_append_bf812_6 rfl) Snd.nil)
set_option maxHeartbeats 4000000 in
set_option maxRecDepth 100000 in
theorem m_J4_appI1_n {l : Launch} {E : XE} (s : SbN) (v : Nat) (hv : v < 10) (h4 : s.m ≤ 4096) (h : s.n + 1 ≤ s.m) : MetE l E mJ4_append_bf812 (2) 0 0 [.ref 0, .int (nI (v))] (sbW 0 s) (fun r w' => r = some (.ref 0) ∧ w' = sbW 0 ((upd (s.f) s.n (sb_b (48 + v % 10)), s.m, s.n + 1) : SbN)) := by
  refine MetE.of (by decide +kernel) (Nat.le_of_ble_eq_true rfl) ?_
  refine ev_eq (lv' := [(0, .ref 0), (1, .int (nI (v)))]) (st' := []) (w' := sbW 0 s) rfl rfl rfl ?_
  refine ev_b bJ4_append_bf812_0_2 (lv' := [(0, .ref 0), (1, .int (nI (v)))]) (st' := [.int (nI (v)), .ref 0]) (w2 := sbW 0 s) rfl ?_
  refine ev_callSU (Yc := mJ5_append_c97b9) [0, 1] dJ4_append_bf812_2 tw_1410 kJ5_append_c97b9 tw_1329 (by decide) (m_J5_appI1_n s v hv h4 h) rfl (st := []) rfl rfl rfl (by decide) rfl (by decide) (Nat.le_of_ble_eq_true rfl) (Nat.le_refl _) (Nat.le_refl _) (fun r w' h => by obtain ⟨-, rfl⟩ := h; exact Nat.le_of_ble_eq_true rfl) ?_
  rintro _ _ ⟨rfl, rfl⟩
  refine ev_eq (lv' := [(0, .ref 0), (1, .int (nI (v)))]) (st' := [.ref 0]) (w' := sbW 0 ((upd (s.f) s.n (sb_b (48 + v % 10)), s.m, s.n + 1) : SbN)) rfl rfl rfl ?_
  refine ev_b bJ4_append_bf812_5_7 (lv' := [(0, .ref 0), (1, .int (nI (v)))]) (st' := [.ref 0]) (w2 := sbW 0 ((upd (s.f) s.n (sb_b (48 + v % 10)), s.m, s.n + 1) : SbN)) rfl ?_
  exact ev_oret dJ4_append_bf812_7 rfl (Nat.le_of_ble_eq_true rfl) (Nat.le_refl _) (Nat.le_refl _) ⟨rfl, rfl⟩
set_option maxHeartbeats 4000000 in
set_option maxRecDepth 100000 in
theorem m_J5_appI1_g {l : Launch} {E : XE} (s : SbN) (v : Nat) (hv : v < 10) (h4 : s.m ≤ 4096) (h : s.m < s.n + 1 ∧ s.n ≤ s.m ∧ 1 ≤ s.m) (hF : sb_Fit s.f) : MetE l E mJ5_append_c97b9 (4) 1 (2 * s.m + 2) [.ref 0, .int (nI (v))] (sbW 0 s) (fun r w' => r = some (.ref 0) ∧ w' = sbV 0 s ((upd (va_cpy s.f (fun _ => 0) 0 0 s.m) s.n (sb_b (48 + v % 10)), 2 * s.m + 2, s.n + 1) : SbN)) := by
  refine MetE.of (by decide +kernel) (Nat.le_of_ble_eq_true rfl) ?_
  refine ev_eq (lv' := [(0, .ref 0), (1, .int (nI (v)))]) (st' := []) (w' := sbW 0 s) rfl rfl rfl ?_
  refine ev_b bJ5_append_c97b9_0_7 (lv' := [(2, .int (nI (s.n))), (0, .ref 0), (1, .int (nI (v)))]) (st' := [.int (nI (v)), .int (nI (s.n))]) (w2 := sbW 0 s) rfl ?_
  refine ev_callS (Yc := mJ6_stringSize_0f7a4) [] dJ5_append_c97b9_7 tw_1413 kJ6_stringSize_0f7a4 (m_J6_size_1 v hv) rfl (st := [.int (nI (s.n))]) rfl (by decide) rfl (by decide) (Nat.le_of_ble_eq_true rfl) (by omega) (by omega) (fun r w' h => by obtain ⟨-, rfl⟩ := h; exact Nat.le_of_ble_eq_true rfl) ?_
  rintro _ _ ⟨rfl, rfl⟩
  refine ev_eq (lv' := [(2, .int (nI (s.n))), (0, .ref 0), (1, .int (nI (v)))]) (st' := [.int (nI (1)), .int (nI (s.n))]) (w' := sbW 0 s) rfl rfl rfl ?_
  refine ev_iadd_n dJ5_append_c97b9_10 ?_
  refine ev_b bJ5_append_c97b9_11_14 (lv' := [(3, .int (nI (s.n + 1))), (2, .int (nI (s.n))), (0, .ref 0), (1, .int (nI (v)))]) (st' := [.int (nI (s.n + 1)), .ref 0]) (w2 := sbW 0 s) rfl ?_
  refine ev_callGU (Yc := mJ5_ensureCapacityInternal_d00df) [0, 1] dJ5_append_c97b9_14 tw_1344 kJ5_ensureCapacityInternal_d00df tx_0 (m_J5_ensure_g s (s.n + 1) (by omega) (by omega) h4 hF) rfl (st := []) rfl rfl rfl (by decide) rfl rfl rfl rfl (Nat.le_of_ble_eq_true rfl) (by decide) (Nat.le_of_ble_eq_true rfl) (by omega) (by omega) (by omega) (fun r w' h => by obtain ⟨-, rfl⟩ := h; exact Nat.le_of_ble_eq_true rfl) ?_
  rintro _ _ ⟨rfl, rfl⟩
  refine ev_eq (lv' := [(3, .int (nI (s.n + 1))), (2, .int (nI (s.n))), (0, .ref 0), (1, .int (nI (v)))]) (st' := []) (w' := sbV 0 s ((va_cpy s.f (fun _ => 0) 0 0 s.m, 2 * s.m + 2, s.n) : SbN)) rfl rfl rfl ?_
  refine ev_b bJ5_append_c97b9_17_18 (lv' := [(3, .int (nI (s.n + 1))), (2, .int (nI (s.n))), (0, .ref 0), (1, .int (nI (v)))]) (st' := [.ref 0]) (w2 := sbV 0 s ((va_cpy s.f (fun _ => 0) 0 0 s.m, 2 * s.m + 2, s.n) : SbN)) rfl ?_
  refine ev_callU (Yc := mJ5_isLatin1_aae02) [0, 2] dJ5_append_c97b9_18 tw_1373 kJ5_isLatin1_aae02 tw_1376 (m_J5_isLatin1_aae02 ((va_cpy s.f (fun _ => 0) 0 0 s.m, 2 * s.m + 2, s.n) : SbN)) rfl (st := []) rfl rfl rfl (by decide) rfl (by decide) (Nat.le_of_ble_eq_true rfl) (by omega) (by omega) (fun r w' h => by obtain ⟨-, rfl⟩ := h; exact Nat.le_of_ble_eq_true rfl) ?_
  rintro _ _ ⟨rfl, rfl⟩
  refine ev_eq (lv' := [(3, .int (nI (s.n + 1))), (2, .int (nI (s.n))), (0, .ref 0), (1, .int (nI (v)))]) (st' := [.int (nI (1))]) (w' := sbV 0 s ((va_cpy s.f (fun _ => 0) 0 0 s.m, 2 * s.m + 2, s.n) : SbN)) rfl rfl rfl ?_
  refine ev_if_eq_n (tgt := 37) (by decide) dJ5_append_c97b9_21 (by decide) (fun h21 => (by exfalso; omega)) (fun h21 => ?_)
  refine ev_b bJ5_append_c97b9_24_30 (lv' := [(3, .int (nI (s.n + 1))), (2, .int (nI (s.n))), (0, .ref 0), (1, .int (nI (v)))]) (st' := [.ref 2, .int (nI (s.n + 1)), .int (nI (v))]) (w2 := sbV 0 s ((va_cpy s.f (fun _ => 0) 0 0 s.m, 2 * s.m + 2, s.n) : SbN)) rfl ?_
  refine ev_callS (Yc := mJ6_getChars_ba4f3) [2] dJ5_append_c97b9_30 tw_1416 kJ6_getChars_ba4f3 (m_J6_chars_1 v s.n (2 * s.m + 2) (va_cpy s.f (fun _ => 0) 0 0 s.m) hv (by omega) (by omega)) rfl (st := []) rfl (by decide) rfl (by decide) (Nat.le_of_ble_eq_true rfl) (by omega) (by omega) (fun r w' h => by obtain ⟨-, rfl⟩ := h; exact Nat.le_of_ble_eq_true rfl) ?_
  rintro _ _ ⟨rfl, rfl⟩
  refine ev_eq (lv' := [(3, .int (nI (s.n + 1))), (2, .int (nI (s.n))), (0, .ref 0), (1, .int (nI (v)))]) (st' := [.int (nI (s.n))]) (w' := sbV 0 s ((upd (va_cpy s.f (fun _ => 0) 0 0 s.m) s.n (sb_b (48 + v % 10)), 2 * s.m + 2, s.n) : SbN)) rfl rfl rfl ?_
  refine ev_b bJ5_append_c97b9_33_54 (lv' := [(3, .int (nI (s.n + 1))), (2, .int (nI (s.n))), (0, .ref 0), (1, .int (nI (v)))]) (st' := [.ref 0]) (w2 := sbV 0 s ((upd (va_cpy s.f (fun _ => 0) 0 0 s.m) s.n (sb_b (48 + v % 10)), 2 * s.m + 2, s.n + 1) : SbN)) rfl ?_
  exact ev_oret dJ5_append_c97b9_54 rfl (Nat.le_of_ble_eq_true rfl) (by omega) (by omega) ⟨rfl, rfl⟩
set_option maxHeartbeats 4000000 in
set_option maxRecDepth 100000 in
theorem m_J4_appI1_g {l : Launch} {E : XE} (s : SbN) (v : Nat) (hv : v < 10) (h4 : s.m ≤ 4096) (h : s.m < s.n + 1 ∧ s.n ≤ s.m ∧ 1 ≤ s.m) (hF : sb_Fit s.f) : MetE l E mJ4_append_bf812 (5) 1 (2 * s.m + 2) [.ref 0, .int (nI (v))] (sbW 0 s) (fun r w' => r = some (.ref 0) ∧ w' = sbV 0 s ((upd (va_cpy s.f (fun _ => 0) 0 0 s.m) s.n (sb_b (48 + v % 10)), 2 * s.m + 2, s.n + 1) : SbN)) := by
  refine MetE.of (by decide +kernel) (Nat.le_of_ble_eq_true rfl) ?_
  refine ev_eq (lv' := [(0, .ref 0), (1, .int (nI (v)))]) (st' := []) (w' := sbW 0 s) rfl rfl rfl ?_
  refine ev_b bJ4_append_bf812_0_2 (lv' := [(0, .ref 0), (1, .int (nI (v)))]) (st' := [.int (nI (v)), .ref 0]) (w2 := sbW 0 s) rfl ?_
  refine ev_callGSU (Yc := mJ5_append_c97b9) [0, 1] dJ4_append_bf812_2 tw_1410 kJ5_append_c97b9 tw_1329 (by decide) (m_J5_appI1_g s v hv h4 h hF) rfl (st := []) rfl rfl rfl (by decide) rfl rfl rfl rfl (Nat.le_of_ble_eq_true rfl) (by decide) (Nat.le_of_ble_eq_true rfl) (by omega) (by omega) (by omega) (fun r w' h => by obtain ⟨-, rfl⟩ := h; exact Nat.le_of_ble_eq_true rfl) ?_
  rintro _ _ ⟨rfl, rfl⟩
  refine ev_eq (lv' := [(0, .ref 0), (1, .int (nI (v)))]) (st' := [.ref 0]) (w' := sbV 0 s ((upd (va_cpy s.f (fun _ => 0) 0 0 s.m) s.n (sb_b (48 + v % 10)), 2 * s.m + 2, s.n + 1) : SbN)) rfl rfl rfl ?_
  refine ev_b bJ4_append_bf812_5_7 (lv' := [(0, .ref 0), (1, .int (nI (v)))]) (st' := [.ref 0]) (w2 := sbV 0 s ((upd (va_cpy s.f (fun _ => 0) 0 0 s.m) s.n (sb_b (48 + v % 10)), 2 * s.m + 2, s.n + 1) : SbN)) rfl ?_
  exact ev_oret dJ4_append_bf812_7 rfl (Nat.le_of_ble_eq_true rfl) (by omega) (by omega) ⟨rfl, rfl⟩
set_option maxHeartbeats 4000000 in
set_option maxRecDepth 100000 in
theorem m_J5_appI2_n {l : Launch} {E : XE} (s : SbN) (v : Nat) (hv : 10 ≤ v ∧ v < 100) (h4 : s.m ≤ 4096) (h : s.n + 2 ≤ s.m) : MetE l E mJ5_append_c97b9 (1) 0 0 [.ref 0, .int (nI (v))] (sbW 0 s) (fun r w' => r = some (.ref 0) ∧ w' = sbW 0 ((upd (upd (s.f) (s.n + 1) (sb_b (48 + v % 10))) s.n (sb_b (48 + v / 10)), s.m, s.n + 2) : SbN)) := by
  refine MetE.of (by decide +kernel) (Nat.le_of_ble_eq_true rfl) ?_
  refine ev_eq (lv' := [(0, .ref 0), (1, .int (nI (v)))]) (st' := []) (w' := sbW 0 s) rfl rfl rfl ?_
  refine ev_b bJ5_append_c97b9_0_7 (lv' := [(2, .int (nI (s.n))), (0, .ref 0), (1, .int (nI (v)))]) (st' := [.int (nI (v)), .int (nI (s.n))]) (w2 := sbW 0 s) rfl ?_
  refine ev_callS (Yc := mJ6_stringSize_0f7a4) [] dJ5_append_c97b9_7 tw_1413 kJ6_stringSize_0f7a4 (m_J6_size_2 v hv) rfl (st := [.int (nI (s.n))]) rfl (by decide) rfl (by decide) (Nat.le_of_ble_eq_true rfl) (Nat.le_refl _) (Nat.le_refl _) (fun r w' h => by obtain ⟨-, rfl⟩ := h; exact Nat.le_of_ble_eq_true rfl) ?_
  rintro _ _ ⟨rfl, rfl⟩
  refine ev_eq (lv' := [(2, .int (nI (s.n))), (0, .ref 0), (1, .int (nI (v)))]) (st' := [.int (nI (2)), .int (nI (s.n))]) (w' := sbW 0 s) rfl rfl rfl ?_
  refine ev_iadd_n dJ5_append_c97b9_10 ?_
  refine ev_b bJ5_append_c97b9_11_14 (lv' := [(3, .int (nI (s.n + 2))), (2, .int (nI (s.n))), (0, .ref 0), (1, .int (nI (v)))]) (st' := [.int (nI (s.n + 2)), .ref 0]) (w2 := sbW 0 s) rfl ?_
  refine ev_callU (Yc := mJ5_ensureCapacityInternal_d00df) [0, 1] dJ5_append_c97b9_14 tw_1344 kJ5_ensureCapacityInternal_d00df tx_0 (m_J5_ensure_n s (s.n + 2) (by omega) h4) rfl (st := []) rfl rfl rfl (by decide) rfl (by decide) (Nat.le_of_ble_eq_true rfl) (Nat.le_refl _) (Nat.le_refl _) (fun r w' h => by obtain ⟨-, rfl⟩ := h; exact Nat.le_of_ble_eq_true rfl) ?_
  rintro _ _ ⟨rfl, rfl⟩
  refine ev_eq (lv' := [(3, .int (nI (s.n + 2))), (2, .int (nI (s.n))), (0, .ref 0), (1, .int (nI (v)))]) (st' := []) (w' := sbW 0 s) rfl rfl rfl ?_
  refine ev_b bJ5_append_c97b9_17_18 (lv' := [(3, .int (nI (s.n + 2))), (2, .int (nI (s.n))), (0, .ref 0), (1, .int (nI (v)))]) (st' := [.ref 0]) (w2 := sbW 0 s) rfl ?_
  refine ev_callU (Yc := mJ5_isLatin1_aae02) [0, 1] dJ5_append_c97b9_18 tw_1373 kJ5_isLatin1_aae02 tw_1376 (m_J5_isLatin1_aae02 s) rfl (st := []) rfl rfl rfl (by decide) rfl (by decide) (Nat.le_of_ble_eq_true rfl) (Nat.le_refl _) (Nat.le_refl _) (fun r w' h => by obtain ⟨-, rfl⟩ := h; exact Nat.le_of_ble_eq_true rfl) ?_
  rintro _ _ ⟨rfl, rfl⟩
  refine ev_eq (lv' := [(3, .int (nI (s.n + 2))), (2, .int (nI (s.n))), (0, .ref 0), (1, .int (nI (v)))]) (st' := [.int (nI (1))]) (w' := sbW 0 s) rfl rfl rfl ?_
  refine ev_if_eq_n (tgt := 37) (by decide) dJ5_append_c97b9_21 (by decide) (fun h21 => (by exfalso; omega)) (fun h21 => ?_)
  refine ev_b bJ5_append_c97b9_24_30 (lv' := [(3, .int (nI (s.n + 2))), (2, .int (nI (s.n))), (0, .ref 0), (1, .int (nI (v)))]) (st' := [.ref 1, .int (nI (s.n + 2)), .int (nI (v))]) (w2 := sbW 0 s) rfl ?_
  refine ev_callS (Yc := mJ6_getChars_ba4f3) [1] dJ5_append_c97b9_30 tw_1416 kJ6_getChars_ba4f3 (m_J6_chars_2 v s.n (s.m) (s.f) hv (by omega) (by omega)) rfl (st := []) rfl (by decide) rfl (by decide) (Nat.le_of_ble_eq_true rfl) (Nat.le_refl _) (Nat.le_refl _) (fun r w' h => by obtain ⟨-, rfl⟩ := h; exact Nat.le_of_ble_eq_true rfl) ?_
  rintro _ _ ⟨rfl, rfl⟩
  refine ev_eq (lv' := [(3, .int (nI (s.n + 2))), (2, .int (nI (s.n))), (0, .ref 0), (1, .int (nI (v)))]) (st' := [.int (nI (s.n))]) (w' := sbW 0 ((upd (upd (s.f) (s.n + 1) (sb_b (48 + v % 10))) s.n (sb_b (48 + v / 10)), s.m, s.n) : SbN)) rfl rfl rfl ?_
  refine ev_b bJ5_append_c97b9_33_54 (lv' := [(3, .int (nI (s.n + 2))), (2, .int (nI (s.n))), (0, .ref 0), (1, .int (nI (v)))]) (st' := [.ref 0]) (w2 := sbW 0 ((upd (upd (s.f) (s.n + 1) (sb_b (48 + v % 10))) s.n (sb_b (48 + v / 10)), s.m, s.n + 2) : SbN)) rfl ?_
  exact ev_oret dJ5_append_c97b9_54 rfl (Nat.le_of_ble_eq_true rfl) (Nat.le_refl _) (Nat.le_refl _) ⟨rfl, rfl⟩
set_option maxHeartbeats 4000000 in
set_option maxRecDepth 100000 in
theorem m_J4_appI2_n {l : Launch} {E : XE} (s : SbN) (v : Nat) (hv : 10 ≤ v ∧ v < 100) (h4 : s.m ≤ 4096) (h : s.n + 2 ≤ s.m) : MetE l E mJ4_append_bf812 (2) 0 0 [.ref 0, .int (nI (v))] (sbW 0 s) (fun r w' => r = some (.ref 0) ∧ w' = sbW 0 ((upd (upd (s.f) (s.n + 1) (sb_b (48 + v % 10))) s.n (sb_b (48 + v / 10)), s.m, s.n + 2) : SbN)) := by
  refine MetE.of (by decide +kernel) (Nat.le_of_ble_eq_true rfl) ?_
  refine ev_eq (lv' := [(0, .ref 0), (1, .int (nI (v)))]) (st' := []) (w' := sbW 0 s) rfl rfl rfl ?_
  refine ev_b bJ4_append_bf812_0_2 (lv' := [(0, .ref 0), (1, .int (nI (v)))]) (st' := [.int (nI (v)), .ref 0]) (w2 := sbW 0 s) rfl ?_
  refine ev_callSU (Yc := mJ5_append_c97b9) [0, 1] dJ4_append_bf812_2 tw_1410 kJ5_append_c97b9 tw_1329 (by decide) (m_J5_appI2_n s v hv h4 h) rfl (st := []) rfl rfl rfl (by decide) rfl (by decide) (Nat.le_of_ble_eq_true rfl) (Nat.le_refl _) (Nat.le_refl _) (fun r w' h => by obtain ⟨-, rfl⟩ := h; exact Nat.le_of_ble_eq_true rfl) ?_
  rintro _ _ ⟨rfl, rfl⟩
  refine ev_eq (lv' := [(0, .ref 0), (1, .int (nI (v)))]) (st' := [.ref 0]) (w' := sbW 0 ((upd (upd (s.f) (s.n + 1) (sb_b (48 + v % 10))) s.n (sb_b (48 + v / 10)), s.m, s.n + 2) : SbN)) rfl rfl rfl ?_
  refine ev_b bJ4_append_bf812_5_7 (lv' := [(0, .ref 0), (1, .int (nI (v)))]) (st' := [.ref 0]) (w2 := sbW 0 ((upd (upd (s.f) (s.n + 1) (sb_b (48 + v % 10))) s.n (sb_b (48 + v / 10)), s.m, s.n + 2) : SbN)) rfl ?_
  exact ev_oret dJ4_append_bf812_7 rfl (Nat.le_of_ble_eq_true rfl) (Nat.le_refl _) (Nat.le_refl _) ⟨rfl, rfl⟩
set_option maxHeartbeats 4000000 in
set_option maxRecDepth 100000 in
theorem m_J5_appI2_g {l : Launch} {E : XE} (s : SbN) (v : Nat) (hv : 10 ≤ v ∧ v < 100) (h4 : s.m ≤ 4096) (h : s.m < s.n + 2 ∧ s.n ≤ s.m ∧ 1 ≤ s.m) (hF : sb_Fit s.f) : MetE l E mJ5_append_c97b9 (4) 1 (2 * s.m + 2) [.ref 0, .int (nI (v))] (sbW 0 s) (fun r w' => r = some (.ref 0) ∧ w' = sbV 0 s ((upd (upd (va_cpy s.f (fun _ => 0) 0 0 s.m) (s.n + 1) (sb_b (48 + v % 10))) s.n (sb_b (48 + v / 10)), 2 * s.m + 2, s.n + 2) : SbN)) := by
  refine MetE.of (by decide +kernel) (Nat.le_of_ble_eq_true rfl) ?_
  refine ev_eq (lv' := [(0, .ref 0), (1, .int (nI (v)))]) (st' := []) (w' := sbW 0 s) rfl rfl rfl ?_
  refine ev_b bJ5_append_c97b9_0_7 (lv' := [(2, .int (nI (s.n))), (0, .ref 0), (1, .int (nI (v)))]) (st' := [.int (nI (v)), .int (nI (s.n))]) (w2 := sbW 0 s) rfl ?_
  refine ev_callS (Yc := mJ6_stringSize_0f7a4) [] dJ5_append_c97b9_7 tw_1413 kJ6_stringSize_0f7a4 (m_J6_size_2 v hv) rfl (st := [.int (nI (s.n))]) rfl (by decide) rfl (by decide) (Nat.le_of_ble_eq_true rfl) (by omega) (by omega) (fun r w' h => by obtain ⟨-, rfl⟩ := h; exact Nat.le_of_ble_eq_true rfl) ?_
  rintro _ _ ⟨rfl, rfl⟩
  refine ev_eq (lv' := [(2, .int (nI (s.n))), (0, .ref 0), (1, .int (nI (v)))]) (st' := [.int (nI (2)), .int (nI (s.n))]) (w' := sbW 0 s) rfl rfl rfl ?_
  refine ev_iadd_n dJ5_append_c97b9_10 ?_
  refine ev_b bJ5_append_c97b9_11_14 (lv' := [(3, .int (nI (s.n + 2))), (2, .int (nI (s.n))), (0, .ref 0), (1, .int (nI (v)))]) (st' := [.int (nI (s.n + 2)), .ref 0]) (w2 := sbW 0 s) rfl ?_
  refine ev_callGU (Yc := mJ5_ensureCapacityInternal_d00df) [0, 1] dJ5_append_c97b9_14 tw_1344 kJ5_ensureCapacityInternal_d00df tx_0 (m_J5_ensure_g s (s.n + 2) (by omega) (by omega) h4 hF) rfl (st := []) rfl rfl rfl (by decide) rfl rfl rfl rfl (Nat.le_of_ble_eq_true rfl) (by decide) (Nat.le_of_ble_eq_true rfl) (by omega) (by omega) (by omega) (fun r w' h => by obtain ⟨-, rfl⟩ := h; exact Nat.le_of_ble_eq_true rfl) ?_
  rintro _ _ ⟨rfl, rfl⟩
  refine ev_eq (lv' := [(3, .int (nI (s.n + 2))), (2, .int (nI (s.n))), (0, .ref 0), (1, .int (nI (v)))]) (st' := []) (w' := sbV 0 s ((va_cpy s.f (fun _ => 0) 0 0 s.m, 2 * s.m + 2, s.n) : SbN)) rfl rfl rfl ?_
  refine ev_b bJ5_append_c97b9_17_18 (lv' := [(3, .int (nI (s.n + 2))), (2, .int (nI (s.n))), (0, .ref 0), (1, .int (nI (v)))]) (st' := [.ref 0]) (w2 := sbV 0 s ((va_cpy s.f (fun _ => 0) 0 0 s.m, 2 * s.m + 2, s.n) : SbN)) rfl ?_
  refine ev_callU (Yc := mJ5_isLatin1_aae02) [0, 2] dJ5_append_c97b9_18 tw_1373 kJ5_isLatin1_aae02 tw_1376 (m_J5_isLatin1_aae02 ((va_cpy s.f (fun _ => 0) 0 0 s.m, 2 * s.m + 2, s.n) : SbN)) rfl (st := []) rfl rfl rfl (by decide) rfl (by decide) (Nat.le_of_ble_eq_true rfl) (by omega) (by omega) (fun r w' h => by obtain ⟨-, rfl⟩ := h; exact Nat.le_of_ble_eq_true rfl) ?_
  rintro _ _ ⟨rfl, rfl⟩
  refine ev_eq (lv' := [(3, .int (nI (s.n + 2))), (2, .int (nI (s.n))), (0, .ref 0), (1, .int (nI (v)))]) (st' := [.int (nI (1))]) (w' := sbV 0 s ((va_cpy s.f (fun _ => 0) 0 0 s.m, 2 * s.m + 2, s.n) : SbN)) rfl rfl rfl ?_
  refine ev_if_eq_n (tgt := 37) (by decide) dJ5_append_c97b9_21 (by decide) (fun h21 => (by exfalso; omega)) (fun h21 => ?_)
  refine ev_b bJ5_append_c97b9_24_30 (lv' := [(3, .int (nI (s.n + 2))), (2, .int (nI (s.n))), (0, .ref 0), (1, .int (nI (v)))]) (st' := [.ref 2, .int (nI (s.n + 2)), .int (nI (v))]) (w2 := sbV 0 s ((va_cpy s.f (fun _ => 0) 0 0 s.m, 2 * s.m + 2, s.n) : SbN)) rfl ?_
  refine ev_callS (Yc := mJ6_getChars_ba4f3) [2] dJ5_append_c97b9_30 tw_1416 kJ6_getChars_ba4f3 (m_J6_chars_2 v s.n (2 * s.m + 2) (va_cpy s.f (fun _ => 0) 0 0 s.m) hv (by omega) (by omega)) rfl (st := []) rfl (by decide) rfl (by decide) (Nat.le_of_ble_eq_true rfl) (by omega) (by omega) (fun r w' h => by obtain ⟨-, rfl⟩ := h; exact Nat.le_of_ble_eq_true rfl) ?_
  rintro _ _ ⟨rfl, rfl⟩
  refine ev_eq (lv' := [(3, .int (nI (s.n + 2))), (2, .int (nI (s.n))), (0, .ref 0), (1, .int (nI (v)))]) (st' := [.int (nI (s.n))]) (w' := sbV 0 s ((upd (upd (va_cpy s.f (fun _ => 0) 0 0 s.m) (s.n + 1) (sb_b (48 + v % 10))) s.n (sb_b (48 + v / 10)), 2 * s.m + 2, s.n) : SbN)) rfl rfl rfl ?_
  refine ev_b bJ5_append_c97b9_33_54 (lv' := [(3, .int (nI (s.n + 2))), (2, .int (nI (s.n))), (0, .ref 0), (1, .int (nI (v)))]) (st' := [.ref 0]) (w2 := sbV 0 s ((upd (upd (va_cpy s.f (fun _ => 0) 0 0 s.m) (s.n + 1) (sb_b (48 + v % 10))) s.n (sb_b (48 + v / 10)), 2 * s.m + 2, s.n + 2) : SbN)) rfl ?_
  exact ev_oret dJ5_append_c97b9_54 rfl (Nat.le_of_ble_eq_true rfl) (by omega) (by omega) ⟨rfl, rfl⟩
set_option maxHeartbeats 4000000 in
set_option maxRecDepth 100000 in
theorem m_J4_appI2_g {l : Launch} {E : XE} (s : SbN) (v : Nat) (hv : 10 ≤ v ∧ v < 100) (h4 : s.m ≤ 4096) (h : s.m < s.n + 2 ∧ s.n ≤ s.m ∧ 1 ≤ s.m) (hF : sb_Fit s.f) : MetE l E mJ4_append_bf812 (5) 1 (2 * s.m + 2) [.ref 0, .int (nI (v))] (sbW 0 s) (fun r w' => r = some (.ref 0) ∧ w' = sbV 0 s ((upd (upd (va_cpy s.f (fun _ => 0) 0 0 s.m) (s.n + 1) (sb_b (48 + v % 10))) s.n (sb_b (48 + v / 10)), 2 * s.m + 2, s.n + 2) : SbN)) := by
  refine MetE.of (by decide +kernel) (Nat.le_of_ble_eq_true rfl) ?_
  refine ev_eq (lv' := [(0, .ref 0), (1, .int (nI (v)))]) (st' := []) (w' := sbW 0 s) rfl rfl rfl ?_
  refine ev_b bJ4_append_bf812_0_2 (lv' := [(0, .ref 0), (1, .int (nI (v)))]) (st' := [.int (nI (v)), .ref 0]) (w2 := sbW 0 s) rfl ?_
  refine ev_callGSU (Yc := mJ5_append_c97b9) [0, 1] dJ4_append_bf812_2 tw_1410 kJ5_append_c97b9 tw_1329 (by decide) (m_J5_appI2_g s v hv h4 h hF) rfl (st := []) rfl rfl rfl (by decide) rfl rfl rfl rfl (Nat.le_of_ble_eq_true rfl) (by decide) (Nat.le_of_ble_eq_true rfl) (by omega) (by omega) (by omega) (fun r w' h => by obtain ⟨-, rfl⟩ := h; exact Nat.le_of_ble_eq_true rfl) ?_
  rintro _ _ ⟨rfl, rfl⟩
  refine ev_eq (lv' := [(0, .ref 0), (1, .int (nI (v)))]) (st' := [.ref 0]) (w' := sbV 0 s ((upd (upd (va_cpy s.f (fun _ => 0) 0 0 s.m) (s.n + 1) (sb_b (48 + v % 10))) s.n (sb_b (48 + v / 10)), 2 * s.m + 2, s.n + 2) : SbN)) rfl rfl rfl ?_
  refine ev_b bJ4_append_bf812_5_7 (lv' := [(0, .ref 0), (1, .int (nI (v)))]) (st' := [.ref 0]) (w2 := sbV 0 s ((upd (upd (va_cpy s.f (fun _ => 0) 0 0 s.m) (s.n + 1) (sb_b (48 + v % 10))) s.n (sb_b (48 + v / 10)), 2 * s.m + 2, s.n + 2) : SbN)) rfl ?_
  exact ev_oret dJ4_append_bf812_7 rfl (Nat.le_of_ble_eq_true rfl) (by omega) (by omega) ⟨rfl, rfl⟩
set_option maxHeartbeats 4000000 in
set_option maxRecDepth 100000 in
theorem m_J5_appI3_n {l : Launch} {E : XE} (s : SbN) (v : Nat) (hv : 100 ≤ v ∧ v < 1000) (h4 : s.m ≤ 4096) (h : s.n + 3 ≤ s.m) : MetE l E mJ5_append_c97b9 (1) 0 0 [.ref 0, .int (nI (v))] (sbW 0 s) (fun r w' => r = some (.ref 0) ∧ w' = sbW 0 ((upd (upd (upd (s.f) (s.n + 2) (sb_b (48 + v % 100 % 10))) (s.n + 1) (sb_b (48 + v % 100 / 10))) s.n (sb_b (48 + v / 100 % 10)), s.m, s.n + 3) : SbN)) := by
  refine MetE.of (by decide +kernel) (Nat.le_of_ble_eq_true rfl) ?_
  refine ev_eq (lv' := [(0, .ref 0), (1, .int (nI (v)))]) (st' := []) (w' := sbW 0 s) rfl rfl rfl ?_
  refine ev_b bJ5_append_c97b9_0_7 (lv' := [(2, .int (nI (s.n))), (0, .ref 0), (1, .int (nI (v)))]) (st' := [.int (nI (v)), .int (nI (s.n))]) (w2 := sbW 0 s) rfl ?_
  refine ev_callS (Yc := mJ6_stringSize_0f7a4) [] dJ5_append_c97b9_7 tw_1413 kJ6_stringSize_0f7a4 (m_J6_size_3 v hv) rfl (st := [.int (nI (s.n))]) rfl (by decide) rfl (by decide) (Nat.le_of_ble_eq_true rfl) (Nat.le_refl _) (Nat.le_refl _) (fun r w' h => by obtain ⟨-, rfl⟩ := h; exact Nat.le_of_ble_eq_true rfl) ?_
  rintro _ _ ⟨rfl, rfl⟩
  refine ev_eq (lv' := [(2, .int (nI (s.n))), (0, .ref 0), (1, .int (nI (v)))]) (st' := [.int (nI (3)), .int (nI (s.n))]) (w' := sbW 0 s) rfl rfl rfl ?_
  refine ev_iadd_n dJ5_append_c97b9_10 ?_
  refine ev_b bJ5_append_c97b9_11_14 (lv' := [(3, .int (nI (s.n + 3))), (2, .int (nI (s.n))), (0, .ref 0), (1, .int (nI (v)))]) (st' := [.int (nI (s.n + 3)), .ref 0]) (w2 := sbW 0 s) rfl ?_
  refine ev_callU (Yc := mJ5_ensureCapacityInternal_d00df) [0, 1] dJ5_append_c97b9_14 tw_1344 kJ5_ensureCapacityInternal_d00df tx_0 (m_J5_ensure_n s (s.n + 3) (by omega) h4) rfl (st := []) rfl rfl rfl (by decide) rfl (by decide) (Nat.le_of_ble_eq_true rfl) (Nat.le_refl _) (Nat.le_refl _) (fun r w' h => by obtain ⟨-, rfl⟩ := h; exact Nat.le_of_ble_eq_true rfl) ?_
  rintro _ _ ⟨rfl, rfl⟩
  refine ev_eq (lv' := [(3, .int (nI (s.n + 3))), (2, .int (nI (s.n))), (0, .ref 0), (1, .int (nI (v)))]) (st' := []) (w' := sbW 0 s) rfl rfl rfl ?_
  refine ev_b bJ5_append_c97b9_17_18 (lv' := [(3, .int (nI (s.n + 3))), (2, .int (nI (s.n))), (0, .ref 0), (1, .int (nI (v)))]) (st' := [.ref 0]) (w2 := sbW 0 s) rfl ?_
  refine ev_callU (Yc := mJ5_isLatin1_aae02) [0, 1] dJ5_append_c97b9_18 tw_1373 kJ5_isLatin1_aae02 tw_1376 (m_J5_isLatin1_aae02 s) rfl (st := []) rfl rfl rfl (by decide) rfl (by decide) (Nat.le_of_ble_eq_true rfl) (Nat.le_refl _) (Nat.le_refl _) (fun r w' h => by obtain ⟨-, rfl⟩ := h; exact Nat.le_of_ble_eq_true rfl) ?_
  rintro _ _ ⟨rfl, rfl⟩
  refine ev_eq (lv' := [(3, .int (nI (s.n + 3))), (2, .int (nI (s.n))), (0, .ref 0), (1, .int (nI (v)))]) (st' := [.int (nI (1))]) (w' := sbW 0 s) rfl rfl rfl ?_
  refine ev_if_eq_n (tgt := 37) (by decide) dJ5_append_c97b9_21 (by decide) (fun h21 => (by exfalso; omega)) (fun h21 => ?_)
  refine ev_b bJ5_append_c97b9_24_30 (lv' := [(3, .int (nI (s.n + 3))), (2, .int (nI (s.n))), (0, .ref 0), (1, .int (nI (v)))]) (st' := [.ref 1, .int (nI (s.n + 3)), .int (nI (v))]) (w2 := sbW 0 s) rfl ?_
  refine ev_callS (Yc := mJ6_getChars_ba4f3) [1] dJ5_append_c97b9_30 tw_1416 kJ6_getChars_ba4f3 (m_J6_chars_3 v s.n (s.m) (s.f) hv (by omega) (by omega)) rfl (st := []) rfl (by decide) rfl (by decide) (Nat.le_of_ble_eq_true rfl) (Nat.le_refl _) (Nat.le_refl _) (fun r w' h => by obtain ⟨-, rfl⟩ := h; exact Nat.le_of_ble_eq_true rfl) ?_
  rintro _ _ ⟨rfl, rfl⟩
  refine ev_eq (lv' := [(3, .int (nI (s.n + 3))), (2, .int (nI (s.n))), (0, .ref 0), (1, .int (nI (v)))]) (st' := [.int (nI (s.n))]) (w' := sbW 0 ((upd (upd (upd (s.f) (s.n + 2) (sb_b (48 + v % 100 % 10))) (s.n + 1) (sb_b (48 + v % 100 / 10))) s.n (sb_b (48 + v / 100 % 10)), s.m, s.n) : SbN)) rfl rfl rfl ?_
  refine ev_b bJ5_append_c97b9_33_54 (lv' := [(3, .int (nI (s.n + 3))), (2, .int (nI (s.n))), (0, .ref 0), (1, .int (nI (v)))]) (st' := [.ref 0]) (w2 := sbW 0 ((upd (upd (upd (s.f) (s.n + 2) (sb_b (48 + v % 100 % 10))) (s.n + 1) (sb_b (48 + v % 100 / 10))) s.n (sb_b (48 + v / 100 % 10)), s.m, s.n + 3) : SbN)) rfl ?_
  exact ev_oret dJ5_append_c97b9_54 rfl (Nat.le_of_ble_eq_true rfl) (Nat.le_refl _) (Nat.le_refl _) ⟨rfl, rfl⟩
set_option maxHeartbeats 4000000 in
set_option maxRecDepth 100000 in
theorem m_J4_appI3_n {l : Launch} {E : XE} (s : SbN) (v : Nat) (hv : 100 ≤ v ∧ v < 1000) (h4 : s.m ≤ 4096) (h : s.n + 3 ≤ s.m) : MetE l E mJ4_append_bf812 (2) 0 0 [.ref 0, .int (nI (v))] (sbW 0 s) (fun r w' => r = some (.ref 0) ∧ w' = sbW 0 ((upd (upd (upd (s.f) (s.n + 2) (sb_b (48 + v % 100 % 10))) (s.n + 1) (sb_b (48 + v % 100 / 10))) s.n (sb_b (48 + v / 100 % 10)), s.m, s.n + 3) : SbN)) := by
  refine MetE.of (by decide +kernel) (Nat.le_of_ble_eq_true rfl) ?_
  refine ev_eq (lv' := [(0, .ref 0), (1, .int (nI (v)))]) (st' := []) (w' := sbW 0 s) rfl rfl rfl ?_
  refine ev_b bJ4_append_bf812_0_2 (lv' := [(0, .ref 0), (1, .int (nI (v)))]) (st' := [.int (nI (v)), .ref 0]) (w2 := sbW 0 s) rfl ?_
  refine ev_callSU (Yc := mJ5_append_c97b9) [0, 1] dJ4_append_bf812_2 tw_1410 kJ5_append_c97b9 tw_1329 (by decide) (m_J5_appI3_n s v hv h4 h) rfl (st := []) rfl rfl rfl (by decide) rfl (by decide) (Nat.le_of_ble_eq_true rfl) (Nat.le_refl _) (Nat.le_refl _) (fun r w' h => by obtain ⟨-, rfl⟩ := h; exact Nat.le_of_ble_eq_true rfl) ?_
  rintro _ _ ⟨rfl, rfl⟩
  refine ev_eq (lv' := [(0, .ref 0), (1, .int (nI (v)))]) (st' := [.ref 0]) (w' := sbW 0 ((upd (upd (upd (s.f) (s.n + 2) (sb_b (48 + v % 100 % 10))) (s.n + 1) (sb_b (48 + v % 100 / 10))) s.n (sb_b (48 + v / 100 % 10)), s.m, s.n + 3) : SbN)) rfl rfl rfl ?_
  refine ev_b bJ4_append_bf812_5_7 (lv' := [(0, .ref 0), (1, .int (nI (v)))]) (st' := [.ref 0]) (w2 := sbW 0 ((upd (upd (upd (s.f) (s.n + 2) (sb_b (48 + v % 100 % 10))) (s.n + 1) (sb_b (48 + v % 100 / 10))) s.n (sb_b (48 + v / 100 % 10)), s.m, s.n + 3) : SbN)) rfl ?_
  exact ev_oret dJ4_append_bf812_7 rfl (Nat.le_of_ble_eq_true rfl) (Nat.le_refl _) (Nat.le_refl _) ⟨rfl, rfl⟩
set_option maxHeartbeats 4000000 in
set_option maxRecDepth 100000 in
theorem m_J5_appI3_g {l : Launch} {E : XE} (s : SbN) (v : Nat) (hv : 100 ≤ v ∧ v < 1000) (h4 : s.m ≤ 4096) (h : s.m < s.n + 3 ∧ s.n ≤ s.m ∧ 1 ≤ s.m) (hF : sb_Fit s.f) : MetE l E mJ5_append_c97b9 (4) 1 (2 * s.m + 2) [.ref 0, .int (nI (v))] (sbW 0 s) (fun r w' => r = some (.ref 0) ∧ w' = sbV 0 s ((upd (upd (upd (va_cpy s.f (fun _ => 0) 0 0 s.m) (s.n + 2) (sb_b (48 + v % 100 % 10))) (s.n + 1) (sb_b (48 + v % 100 / 10))) s.n (sb_b (48 + v / 100 % 10)), 2 * s.m + 2, s.n + 3) : SbN)) := by
  refine MetE.of (by decide +kernel) (Nat.le_of_ble_eq_true rfl) ?_
  refine ev_eq (lv' := [(0, .ref 0), (1, .int (nI (v)))]) (st' := []) (w' := sbW 0 s) rfl rfl rfl ?_
  refine ev_b bJ5_append_c97b9_0_7 (lv' := [(2, .int (nI (s.n))), (0, .ref 0), (1, .int (nI (v)))]) (st' := [.int (nI (v)), .int (nI (s.n))]) (w2 := sbW 0 s) rfl ?_
  refine ev_callS (Yc := mJ6_stringSize_0f7a4) [] dJ5_append_c97b9_7 tw_1413 kJ6_stringSize_0f7a4 (m_J6_size_3 v hv) rfl (st := [.int (nI (s.n))]) rfl (by decide) rfl (by decide) (Nat.le_of_ble_eq_true rfl) (by omega) (by omega) (fun r w' h => by obtain ⟨-, rfl⟩ := h; exact Nat.le_of_ble_eq_true rfl) ?_
  rintro _ _ ⟨rfl, rfl⟩
  refine ev_eq (lv' := [(2, .int (nI (s.n))), (0, .ref 0), (1, .int (nI (v)))]) (st' := [.int (nI (3)), .int (nI (s.n))]) (w' := sbW 0 s) rfl rfl rfl ?_
  refine ev_iadd_n dJ5_append_c97b9_10 ?_
  refine ev_b bJ5_append_c97b9_11_14 (lv' := [(3, .int (nI (s.n + 3))), (2, .int (nI (s.n))), (0, .ref 0), (1, .int (nI (v)))]) (st' := [.int (nI (s.n + 3)), .ref 0]) (w2 := sbW 0 s) rfl ?_
  refine ev_callGU (Yc := mJ5_ensureCapacityInternal_d00df) [0, 1] dJ5_append_c97b9_14 tw_1344 kJ5_ensureCapacityInternal_d00df tx_0 (m_J5_ensure_g s (s.n + 3) (by omega) (by omega) h4 hF) rfl (st := []) rfl rfl rfl (by decide) rfl rfl rfl rfl (Nat.le_of_ble_eq_true rfl) (by decide) (Nat.le_of_ble_eq_true rfl) (by omega) (by omega) (by omega) (fun r w' h => by obtain ⟨-, rfl⟩ := h; exact Nat.le_of_ble_eq_true rfl) ?_
  rintro _ _ ⟨rfl, rfl⟩
  refine ev_eq (lv' := [(3, .int (nI (s.n + 3))), (2, .int (nI (s.n))), (0, .ref 0), (1, .int (nI (v)))]) (st' := []) (w' := sbV 0 s ((va_cpy s.f (fun _ => 0) 0 0 s.m, 2 * s.m + 2, s.n) : SbN)) rfl rfl rfl ?_
  refine ev_b bJ5_append_c97b9_17_18 (lv' := [(3, .int (nI (s.n + 3))), (2, .int (nI (s.n))), (0, .ref 0), (1, .int (nI (v)))]) (st' := [.ref 0]) (w2 := sbV 0 s ((va_cpy s.f (fun _ => 0) 0 0 s.m, 2 * s.m + 2, s.n) : SbN)) rfl ?_
  refine ev_callU (Yc := mJ5_isLatin1_aae02) [0, 2] dJ5_append_c97b9_18 tw_1373 kJ5_isLatin1_aae02 tw_1376 (m_J5_isLatin1_aae02 ((va_cpy s.f (fun _ => 0) 0 0 s.m, 2 * s.m + 2, s.n) : SbN)) rfl (st := []) rfl rfl rfl (by decide) rfl (by decide) (Nat.le_of_ble_eq_true rfl) (by omega) (by omega) (fun r w' h => by obtain ⟨-, rfl⟩ := h; exact Nat.le_of_ble_eq_true rfl) ?_
  rintro _ _ ⟨rfl, rfl⟩
  refine ev_eq (lv' := [(3, .int (nI (s.n + 3))), (2, .int (nI (s.n))), (0, .ref 0), (1, .int (nI (v)))]) (st' := [.int (nI (1))]) (w' := sbV 0 s ((va_cpy s.f (fun _ => 0) 0 0 s.m, 2 * s.m + 2, s.n) : SbN)) rfl rfl rfl ?_
  refine ev_if_eq_n (tgt := 37) (by decide) dJ5_append_c97b9_21 (by decide) (fun h21 => (by exfalso; omega)) (fun h21 => ?_)
  refine ev_b bJ5_append_c97b9_24_30 (lv' := [(3, .int (nI (s.n + 3))), (2, .int (nI (s.n))), (0, .ref 0), (1, .int (nI (v)))]) (st' := [.ref 2, .int (nI (s.n + 3)), .int (nI (v))]) (w2 := sbV 0 s ((va_cpy s.f (fun _ => 0) 0 0 s.m, 2 * s.m + 2, s.n) : SbN)) rfl ?_
  refine ev_callS (Yc := mJ6_getChars_ba4f3) [2] dJ5_append_c97b9_30 tw_1416 kJ6_getChars_ba4f3 (m_J6_chars_3 v s.n (2 * s.m + 2) (va_cpy s.f (fun _ => 0) 0 0 s.m) hv (by omega) (by omega)) rfl (st := []) rfl (by decide) rfl (by decide) (Nat.le_of_ble_eq_true rfl) (by omega) (by omega) (fun r w' h => by obtain ⟨-, rfl⟩ := h; exact Nat.le_of_ble_eq_true rfl) ?_
  rintro _ _ ⟨rfl, rfl⟩
  refine ev_eq (lv' := [(3, .int (nI (s.n + 3))), (2, .int (nI (s.n))), (0, .ref 0), (1, .int (nI (v)))]) (st' := [.int (nI (s.n))]) (w' := sbV 0 s ((upd (upd (upd (va_cpy s.f (fun _ => 0) 0 0 s.m) (s.n + 2) (sb_b (48 + v % 100 % 10))) (s.n + 1) (sb_b (48 + v % 100 / 10))) s.n (sb_b (48 + v / 100 % 10)), 2 * s.m + 2, s.n) : SbN)) rfl rfl rfl ?_
  refine ev_b bJ5_append_c97b9_33_54 (lv' := [(3, .int (nI (s.n + 3))), (2, .int (nI (s.n))), (0, .ref 0), (1, .int (nI (v)))]) (st' := [.ref 0]) (w2 := sbV 0 s ((upd (upd (upd (va_cpy s.f (fun _ => 0) 0 0 s.m) (s.n + 2) (sb_b (48 + v % 100 % 10))) (s.n + 1) (sb_b (48 + v % 100 / 10))) s.n (sb_b (48 + v / 100 % 10)), 2 * s.m + 2, s.n + 3) : SbN)) rfl ?_
  exact ev_oret dJ5_append_c97b9_54 rfl (Nat.le_of_ble_eq_true rfl) (by omega) (by omega) ⟨rfl, rfl⟩
set_option maxHeartbeats 4000000 in
set_option maxRecDepth 100000 in
theorem m_J4_appI3_g {l : Launch} {E : XE} (s : SbN) (v : Nat) (hv : 100 ≤ v ∧ v < 1000) (h4 : s.m ≤ 4096) (h : s.m < s.n + 3 ∧ s.n ≤ s.m ∧ 1 ≤ s.m) (hF : sb_Fit s.f) : MetE l E mJ4_append_bf812 (5) 1 (2 * s.m + 2) [.ref 0, .int (nI (v))] (sbW 0 s) (fun r w' => r = some (.ref 0) ∧ w' = sbV 0 s ((upd (upd (upd (va_cpy s.f (fun _ => 0) 0 0 s.m) (s.n + 2) (sb_b (48 + v % 100 % 10))) (s.n + 1) (sb_b (48 + v % 100 / 10))) s.n (sb_b (48 + v / 100 % 10)), 2 * s.m + 2, s.n + 3) : SbN)) := by
  refine MetE.of (by decide +kernel) (Nat.le_of_ble_eq_true rfl) ?_
  refine ev_eq (lv' := [(0, .ref 0), (1, .int (nI (v)))]) (st' := []) (w' := sbW 0 s) rfl rfl rfl ?_
  refine ev_b bJ4_append_bf812_0_2 (lv' := [(0, .ref 0), (1, .int (nI (v)))]) (st' := [.int (nI (v)), .ref 0]) (w2 := sbW 0 s) rfl ?_
  refine ev_callGSU (Yc := mJ5_append_c97b9) [0, 1] dJ4_append_bf812_2 tw_1410 kJ5_append_c97b9 tw_1329 (by decide) (m_J5_appI3_g s v hv h4 h hF) rfl (st := []) rfl rfl rfl (by decide) rfl rfl rfl rfl (Nat.le_of_ble_eq_true rfl) (by decide) (Nat.le_of_ble_eq_true rfl) (by omega) (by omega) (by omega) (fun r w' h => by obtain ⟨-, rfl⟩ := h; exact Nat.le_of_ble_eq_true rfl) ?_
  rintro _ _ ⟨rfl, rfl⟩
  refine ev_eq (lv' := [(0, .ref 0), (1, .int (nI (v)))]) (st' := [.ref 0]) (w' := sbV 0 s ((upd (upd (upd (va_cpy s.f (fun _ => 0) 0 0 s.m) (s.n + 2) (sb_b (48 + v % 100 % 10))) (s.n + 1) (sb_b (48 + v % 100 / 10))) s.n (sb_b (48 + v / 100 % 10)), 2 * s.m + 2, s.n + 3) : SbN)) rfl rfl rfl ?_
  refine ev_b bJ4_append_bf812_5_7 (lv' := [(0, .ref 0), (1, .int (nI (v)))]) (st' := [.ref 0]) (w2 := sbV 0 s ((upd (upd (upd (va_cpy s.f (fun _ => 0) 0 0 s.m) (s.n + 2) (sb_b (48 + v % 100 % 10))) (s.n + 1) (sb_b (48 + v % 100 / 10))) s.n (sb_b (48 + v / 100 % 10)), 2 * s.m + 2, s.n + 3) : SbN)) rfl ?_
  exact ev_oret dJ4_append_bf812_7 rfl (Nat.le_of_ble_eq_true rfl) (by omega) (by omega) ⟨rfl, rfl⟩
theorem bJ5_init_d00df_0_1 {l : Launch} {E : XE} : Snd l E mJ5_init_d00df 0 1 (xs [x_aload 0]) := Snd.cons (snd_aload_n (i := 0) dJ5_init_d00df_0 rfl) Snd.nil
theorem bJ5_init_d00df_10_12 {l : Launch} {E : XE} : Snd l E mJ5_init_d00df 10 12 (xs [x_aload 0, x_iload 1]) := Snd.cons (snd_aload_n (i := 0) dJ5_init_d00df_10 rfl) (Snd.cons (snd_iload_n (i := 1) dJ5_init_d00df_11 rfl) Snd.nil)
theorem bJ5_init_d00df_17_19 {l : Launch} {E : XE} : Snd l E mJ5_init_d00df 17 19 (xs [x_aload 0, x_push (.int (nI 0))]) := Snd.cons (snd_aload_n (i := 0) dJ5_init_d00df_17 rfl) (Snd.cons (snd_iconst (v := nI 0) dJ5_init_d00df_18 (by decide)) Snd.nil)
theorem bJ5_init_d00df_22_38 {l : Launch} {E : XE} : Snd l E mJ5_init_d00df 22 38 (xs [x_id]) := Snd.cons (snd_goto (tgt := 38) dJ5_init_d00df_22 (by decide)) Snd.nil
set_option maxHeartbeats 4000000 in
set_option maxRecDepth 100000 in
theorem m_J5_init_d00df {l : Launch} {E : XE}   : MetE l E mJ5_init_d00df (1) 1 16 [.ref 0, .int (nI (16))] (([.inr (0, [.null, .int (nI 0), .int (nI 0), .int (nI 0)])] : AW)) (fun r w' => r = none ∧ w' = sbW 0 (((fun _ => 0), 16, 0) : SbN)) := by
  refine MetE.of (by decide +kernel) (Nat.le_of_ble_eq_true rfl) ?_
  refine ev_eq (lv' := [(0, .ref 0), (1, .int (nI (16)))]) (st' := []) (w' := ([.inr (0, [.null, .int (nI 0), .int (nI 0), .int (nI 0)])] : AW)) rfl rfl rfl ?_
  refine ev_b bJ5_init_d00df_0_1 (lv' := [(0, .ref 0), (1, .int (nI (16)))]) (st' := [.ref 0]) (w2 := ([.inr (0, [.null, .int (nI 0), .int (nI 0), .int (nI 0)])] : AW)) rfl ?_
  refine ev_objinit dJ5_init_d00df_1 tw_1309 tw_26 tw_27 (by decide) (Nat.le_of_ble_eq_true rfl) ?_
  refine ev_getsC dJ5_init_d00df_4 tw_1310 ?_
  refine ev_if_eq_n (tgt := 25) (by decide) dJ5_init_d00df_7 (by decide) (fun h7 => (by exfalso; omega)) (fun h7 => ?_)
  refine ev_b bJ5_init_d00df_10_12 (lv' := [(0, .ref 0), (1, .int (nI (16)))]) (st' := [.int (nI (16)), .ref 0]) (w2 := ([.inr (0, [.null, .int (nI 0), .int (nI 0), .int (nI 0)])] : AW)) rfl ?_
  refine ev_newb dJ5_init_d00df_12 tw_432 (by omega) rfl rfl rfl (Nat.le_of_ble_eq_true rfl) (by omega) (by omega) ?_
  refine ev_eq (st' := [.ref 1, .ref 0]) (w' := ([.inr (0, [.null, .int (nI 0), .int (nI 0), .int (nI 0)])] : AW) ++ ([.inl (2, 16, .inl ((fun _ => 0)))] : AW)) rfl rfl rfl ?_
  refine snd_put (ci := 0) (k := 0) (a := 0) dJ5_init_d00df_14 rfl inJ4 tyJ4_ok nmJ4 (by decide) tw_1318 rfl rfl (Nat.le_of_ble_eq_true rfl) (fun _ => rfl) (fun _ => rfl) ?_
  refine ev_eq (w' := sbW 0 (((fun _ => 0), 16, 0) : SbN)) rfl rfl rfl ?_
  refine ev_b bJ5_init_d00df_17_19 (lv' := [(0, .ref 0), (1, .int (nI (16)))]) (st' := [.int (nI (0)), .ref 0]) (w2 := sbW 0 (((fun _ => 0), 16, 0) : SbN)) rfl ?_
  refine snd_put (ci := 0) (k := 1) (a := 0) dJ5_init_d00df_19 rfl inJ4 tyJ4_ok nmJ4 (by decide) tw_1319 rfl rfl (Nat.le_of_ble_eq_true rfl) (fun _ => rfl) (fun _ => rfl) ?_
  refine ev_eq (w' := sbW 0 (((fun _ => 0), 16, 0) : SbN)) rfl rfl rfl ?_
  refine ev_b bJ5_init_d00df_22_38 (lv' := [(0, .ref 0), (1, .int (nI (16)))]) (st' := []) (w2 := sbW 0 (((fun _ => 0), 16, 0) : SbN)) rfl ?_
  exact ev_vret dJ5_init_d00df_38 rfl (Nat.le_of_ble_eq_true rfl) (by omega) (by omega) ⟨rfl, rfl⟩
theorem bJ4_init_da8c8_0_3 {l : Launch} {E : XE} : Snd l E mJ4_init_da8c8 0 3 (xs [x_aload 0, x_push (.int (nI 16))]) := Snd.cons (snd_aload_n (i := 0) dJ4_init_da8c8_0 rfl) (Snd.cons (snd_bipush (v := nI 16) dJ4_init_da8c8_1 (by decide)) Snd.nil)
set_option maxHeartbeats 4000000 in
set_option maxRecDepth 100000 in
theorem m_J4_init_da8c8 {l : Launch} {E : XE}   : MetE l E mJ4_init_da8c8 (2) 1 16 [.ref 0] (([.inr (0, [.null, .int (nI 0), .int (nI 0), .int (nI 0)])] : AW)) (fun r w' => r = none ∧ w' = sbW 0 (((fun _ => 0), 16, 0) : SbN)) := by
  refine MetE.of (by decide +kernel) (Nat.le_of_ble_eq_true rfl) ?_
  refine ev_eq (lv' := [(0, .ref 0)]) (st' := []) (w' := ([.inr (0, [.null, .int (nI 0), .int (nI 0), .int (nI 0)])] : AW)) rfl rfl rfl ?_
  refine ev_b bJ4_init_da8c8_0_3 (lv' := [(0, .ref 0)]) (st' := [.int (nI (16)), .ref 0]) (w2 := ([.inr (0, [.null, .int (nI 0), .int (nI 0), .int (nI 0)])] : AW)) rfl ?_
  refine ev_callGI (Yc := mJ5_init_d00df) [0] dJ4_init_da8c8_3 tw_1306 kJ5_init_d00df (m_J5_init_d00df ) rfl (st := []) rfl (by decide) rfl rfl rfl rfl (Nat.le_of_ble_eq_true rfl) (by decide) (Nat.le_of_ble_eq_true rfl) (by omega) (by omega) (by omega) (fun r w' h => by obtain ⟨-, rfl⟩ := h; exact Nat.le_of_ble_eq_true rfl) ?_
  rintro _ _ ⟨rfl, rfl⟩
  refine ev_eq (lv' := [(0, .ref 0)]) (st' := []) (w' := sbW 0 (((fun _ => 0), 16, 0) : SbN)) rfl rfl rfl ?_
  exact ev_vret dJ4_init_da8c8_6 rfl (Nat.le_of_ble_eq_true rfl) (by omega) (by omega) ⟨rfl, rfl⟩
theorem bJ5_length_8abf5_0_4 {l : Launch} {E : XE} : Snd l E mJ5_length_8abf5 0 4 (xs [x_aload 0, x_get 0 3]) := Snd.cons (snd_aload_n (i := 0) dJ5_length_8abf5_0 rfl) (Snd.cons (snd_get (ci := 0) (k := 3) dJ5_length_8abf5_1 rfl inJ4 (by decide) tw_1320) Snd.nil)
set_option maxHeartbeats 4000000 in
set_option maxRecDepth 100000 in
theorem m_J5_length_8abf5 {l : Launch} {E : XE} (s : SbN)  : MetE l E mJ5_length_8abf5 (0) 0 0 [.ref 0] (sbW 0 s) (fun r w' => r = some (.int (nI (s.n))) ∧ w' = sbW 0 s) := by
  refine MetE.of (by decide +kernel) (Nat.le_of_ble_eq_true rfl) ?_
  refine ev_eq (lv' := [(0, .ref 0)]) (st' := []) (w' := sbW 0 s) rfl rfl rfl ?_
  refine ev_b bJ5_length_8abf5_0_4 (lv' := [(0, .ref 0)]) (st' := [.int (nI (s.n))]) (w2 := sbW 0 s) rfl ?_
  exact ev_iret dJ5_length_8abf5_4 rfl (Nat.le_of_ble_eq_true rfl) (Nat.le_refl _) (Nat.le_refl _) ⟨rfl, rfl⟩
theorem bJ4_length_8abf5_0_1 {l : Launch} {E : XE} : Snd l E mJ4_length_8abf5 0 1 (xs [x_aload 0]) := Snd.cons (snd_aload_n (i := 0) dJ4_length_8abf5_0 rfl) Snd.nil
set_option maxHeartbeats 4000000 in
set_option maxRecDepth 100000 in
theorem m_J4_length_8abf5 {l : Launch} {E : XE} (s : SbN)  : MetE l E mJ4_length_8abf5 (1) 0 0 [.ref 0] (sbW 0 s) (fun r w' => r = some (.int (nI (s.n))) ∧ w' = sbW 0 s) := by
  refine MetE.of (by decide +kernel) (Nat.le_of_ble_eq_true rfl) ?_
  refine ev_eq (lv' := [(0, .ref 0)]) (st' := []) (w' := sbW 0 s) rfl rfl rfl ?_
  refine ev_b bJ4_length_8abf5_0_1 (lv' := [(0, .ref 0)]) (st' := [.ref 0]) (w2 := sbW 0 s) rfl ?_
  refine ev_callSU (Yc := mJ5_length_8abf5) [0, 1] dJ4_length_8abf5_1 tw_1334 kJ5_length_8abf5 tw_1329 (by decide) (m_J5_length_8abf5 s) rfl (st := []) rfl rfl rfl (by decide) rfl (by decide) (Nat.le_of_ble_eq_true rfl) (Nat.le_refl _) (Nat.le_refl _) (fun r w' h => by obtain ⟨-, rfl⟩ := h; exact Nat.le_of_ble_eq_true rfl) ?_
  rintro _ _ ⟨rfl, rfl⟩
  refine ev_eq (lv' := [(0, .ref 0)]) (st' := [.int (nI (s.n))]) (w' := sbW 0 s) rfl rfl rfl ?_
  exact ev_iret dJ4_length_8abf5_4 rfl (Nat.le_of_ble_eq_true rfl) (Nat.le_refl _) (Nat.le_refl _) ⟨rfl, rfl⟩
theorem bJ5_charAt_5068e_0_15 {l : Launch} {E : XE} : Snd l E mJ5_charAt_5068e 0 15 (xs [x_aload 0, x_get 0 1, x_istore 2, x_aload 0, x_get 0 0, x_astore 3, x_aload 0, x_get 0 3, x_aload 3]) := Snd.cons (snd_aload_n (i := 0) dJ5_charAt_5068e_0 rfl) (Snd.cons (snd_get (ci := 0) (k := 1) dJ5_charAt_5068e_1 rfl inJ4 (by decide) tw_1319) (Snd.cons (snd_istore_n (i := 2) dJ5_charAt_5068e_4 rfl (by decide)) (Snd.cons (snd_aload_n (i := 0) dJ5_charAt_5068e_5 rfl) (Snd.cons (snd_get (ci := 0) (k := 0) dJ5_charAt_5068e_6 rfl inJ4 (by decide) tw_1318) (Snd.cons (snd_astore_n (i := 3) dJ5_charAt_5068e_9 rfl (by decide)) (Snd.cons (snd_aload_n (i := 0) dJ5_charAt_5068e_10 rfl) (Snd.cons (snd_get (ci := 0) (k := 3) dJ5_charAt_5068e_11 rfl inJ4 (by decide) tw_1320) (Snd.cons (snd_aload_n (i := 3) dJ5_charAt_5068e_14 rfl) Snd.nil))))))))
theorem bJ5_charAt_5068e_16_17 {l : Launch} {E : XE} : Snd l E mJ5_charAt_5068e 16 17 (xs [x_iload 2]) := Snd.cons (snd_iload_n (i := 2) dJ5_charAt_5068e_16 rfl) Snd.nil
theorem bJ5_charAt_5068e_21_26 {l : Launch} {E : XE} : Snd l E mJ5_charAt_5068e 21 26 (xs [x_istore 4, x_iload 1, x_iload 4]) := Snd.cons (snd_istore dJ5_charAt_5068e_21 (by decide)) (Snd.cons (snd_iload_n (i := 1) dJ5_charAt_5068e_23 rfl) (Snd.cons (snd_iload dJ5_charAt_5068e_24) Snd.nil))
theorem bJ5_charAt_5068e_29_30 {l : Launch} {E : XE} : Snd l E mJ5_charAt_5068e 29 30 (xs [x_iload 2]) := Snd.cons (snd_iload_n (i := 2) dJ5_charAt_5068e_29 rfl) Snd.nil
theorem bJ5_charAt_5068e_33_35 {l : Launch} {E : XE} : Snd l E mJ5_charAt_5068e 33 35 (xs [x_aload 3, x_iload 1]) := Snd.cons (snd_aload_n (i := 3) dJ5_charAt_5068e_33 rfl) (Snd.cons (snd_iload_n (i := 1) dJ5_charAt_5068e_34 rfl) Snd.nil)
theorem bJ5_charAt_5068e_36_40 {l : Launch} {E : XE} : Snd l E mJ5_charAt_5068e 36 40 (xs [x_push (.int (nI 255)), x_i2 (fun x y => x &&& y)]) := Snd.cons (snd_sipush (v := nI 255) dJ5_charAt_5068e_36 (by decide)) (Snd.cons (snd_iand dJ5_charAt_5068e_39) Snd.nil)
set_option maxHeartbeats 4000000 in
set_option maxRecDepth 100000 in
theorem m_J5_charAt_5068e {l : Launch} {E : XE} (s : SbN) (j x : Nat) (hj : j < s.n) (hn : s.n ≤ s.m) (h4 : s.m ≤ 4096) (hx : s.f j = sb_b x) (hx2 : x < 256) : MetE l E mJ5_charAt_5068e (2) 0 0 [.ref 0, .int (nI (j))] (sbW 0 s) (fun r w' => r = some (.int (nI (x))) ∧ w' = sbW 0 s) := by
  refine MetE.of (by decide +kernel) (Nat.le_of_ble_eq_true rfl) ?_
  have hch := chr_nar x hx2
  refine ev_eq (lv' := [(0, .ref 0), (1, .int (nI (j)))]) (st' := []) (w' := sbW 0 s) rfl rfl rfl ?_
  refine ev_b bJ5_charAt_5068e_0_15 (lv' := [(3, .ref 1), (2, .int (nI (0))), (0, .ref 0), (1, .int (nI (j)))]) (st' := [.ref 1, .int (nI (s.n))]) (w2 := sbW 0 s) rfl ?_
  refine ev_lenb dJ5_charAt_5068e_15 rfl ?_
  refine ev_b bJ5_charAt_5068e_16_17 (lv' := [(3, .ref 1), (2, .int (nI (0))), (0, .ref 0), (1, .int (nI (j)))]) (st' := [.int (nI (0)), .int (nI (s.m)), .int (nI (s.n))]) (w2 := sbW 0 s) rfl ?_
  refine ev_ishr_n (by omega) (by omega) dJ5_charAt_5068e_17 ?_
  refine ev_top (y := (nI (s.m))) (congrArg nI (show s.m >>> 0 = s.m from by exact Nat.shiftRight_zero)) ?_
  refine ev_min dJ5_charAt_5068e_18 tw_1447 tw_739 tw_15 tw_740 (by decide) (Nat.le_of_ble_eq_true rfl) (Nat.le_refl _) (Nat.le_refl _) ?_
  refine ev_top (n_min (by omega) (by omega)) ?_
  refine ev_top (y := (nI (s.n))) (congrArg nI (show min s.n s.m = s.n from by exact Nat.min_eq_left hn)) ?_
  refine ev_b bJ5_charAt_5068e_21_26 (lv' := [(4, .int (nI (s.n))), (3, .ref 1), (2, .int (nI (0))), (0, .ref 0), (1, .int (nI (j)))]) (st' := [.int (nI (s.n)), .int (nI (j))]) (w2 := sbW 0 s) rfl ?_
  refine ev_callS (Yc := mJ0_checkIndex_df160) [] dJ5_charAt_5068e_26 tw_1448 kJ0_checkIndex_df160 (m_J0_checkIndex_df160 j s.n hj (by omega)) rfl (st := []) rfl (by decide) rfl (by decide) (Nat.le_of_ble_eq_true rfl) (Nat.le_refl _) (Nat.le_refl _) (fun r w' h => by obtain ⟨-, rfl⟩ := h; exact Nat.le_of_ble_eq_true rfl) ?_
  rintro _ _ ⟨rfl, rfl⟩
  refine ev_eq (lv' := [(4, .int (nI (s.n))), (3, .ref 1), (2, .int (nI (0))), (0, .ref 0), (1, .int (nI (j)))]) (st' := []) (w' := sbW 0 s) rfl rfl rfl ?_
  refine ev_b bJ5_charAt_5068e_29_30 (lv' := [(4, .int (nI (s.n))), (3, .ref 1), (2, .int (nI (0))), (0, .ref 0), (1, .int (nI (j)))]) (st' := [.int (nI (0))]) (w2 := sbW 0 s) rfl ?_
  refine ev_if_ne_n (tgt := 42) (by decide) dJ5_charAt_5068e_30 (by decide) (fun h30 => (by exfalso; omega)) (fun h30 => ?_)
  refine ev_b bJ5_charAt_5068e_33_35 (lv' := [(4, .int (nI (s.n))), (3, .ref 1), (2, .int (nI (0))), (0, .ref 0), (1, .int (nI (j)))]) (st' := [.int (nI (j)), .ref 1]) (w2 := sbW 0 s) rfl ?_
  refine ev_bald dJ5_charAt_5068e_35 rfl (by show j < s.m; omega) (by show s.m ≤ 65536; omega) ?_
  refine ev_b bJ5_charAt_5068e_36_40 (lv' := [(4, .int (nI (s.n))), (3, .ref 1), (2, .int (nI (0))), (0, .ref 0), (1, .int (nI (j)))]) (st' := [.int ((s.f j) &&& (nI (255)))]) (w2 := sbW 0 s) rfl ?_
  refine ev_i2c (v := (nI (x))) dJ5_charAt_5068e_40 (by rw [hx]; exact hch.1) ?_
  exact ev_cret dJ5_charAt_5068e_41 rfl (by exact congrArg Value.int hch.2) (Nat.le_of_ble_eq_true rfl) (Nat.le_refl _) (Nat.le_refl _) ⟨rfl, rfl⟩
theorem bJ4_charAt_5068e_0_2 {l : Launch} {E : XE} : Snd l E mJ4_charAt_5068e 0 2 (xs [x_aload 0, x_iload 1]) := Snd.cons (snd_aload_n (i := 0) dJ4_charAt_5068e_0 rfl) (Snd.cons (snd_iload_n (i := 1) dJ4_charAt_5068e_1 rfl) Snd.nil)
set_option maxHeartbeats 4000000 in
set_option maxRecDepth 100000 in
theorem m_J4_charAt_5068e {l : Launch} {E : XE} (s : SbN) (j x : Nat) (hj : j < s.n) (hn : s.n ≤ s.m) (h4 : s.m ≤ 4096) (hx : s.f j = sb_b x) (hx2 : x < 256) : MetE l E mJ4_charAt_5068e (3) 0 0 [.ref 0, .int (nI (j))] (sbW 0 s) (fun r w' => r = some (.int (nI (x))) ∧ w' = sbW 0 s) := by
  refine MetE.of (by decide +kernel) (Nat.le_of_ble_eq_true rfl) ?_
  have hch := chr_nar x hx2
  refine ev_eq (lv' := [(0, .ref 0), (1, .int (nI (j)))]) (st' := []) (w' := sbW 0 s) rfl rfl rfl ?_
  refine ev_b bJ4_charAt_5068e_0_2 (lv' := [(0, .ref 0), (1, .int (nI (j)))]) (st' := [.int (nI (j)), .ref 0]) (w2 := sbW 0 s) rfl ?_
  refine ev_callSU (Yc := mJ5_charAt_5068e) [0, 1] dJ4_charAt_5068e_2 tw_1444 kJ5_charAt_5068e tw_1329 (by decide) (m_J5_charAt_5068e s j x hj hn h4 hx hx2) rfl (st := []) rfl rfl rfl (by decide) rfl (by decide) (Nat.le_of_ble_eq_true rfl) (Nat.le_refl _) (Nat.le_refl _) (fun r w' h => by obtain ⟨-, rfl⟩ := h; exact Nat.le_of_ble_eq_true rfl) ?_
  rintro _ _ ⟨rfl, rfl⟩
  refine ev_eq (lv' := [(0, .ref 0), (1, .int (nI (j)))]) (st' := [.int (nI (x))]) (w' := sbW 0 s) rfl rfl rfl ?_
  exact ev_cret dJ4_charAt_5068e_5 rfl (by exact congrArg Value.int hch.2) (Nat.le_of_ble_eq_true rfl) (Nat.le_refl _) (Nat.le_refl _) ⟨rfl, rfl⟩
