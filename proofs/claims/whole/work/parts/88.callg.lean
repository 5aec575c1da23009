/-! ===== calls that make cells, their cells some of the caller's; places named anew; calls of inherited and of super methods ===== -/
theorem xin5 {Y Yc : MI} {n : Nat} {a b c d e : Cond} (ha : a ∈ tbl) (hb : b ∈ tbl) (hc : c ∈ tbl) (hd : d ∈ tbl) (he : e ∈ tbl) (h : XM Yc n) : GoodIn (xWs Y) ([a, b, c, d, e] ++ xWs Yc) := by
  refine xgood (fun w h1 => ?_)
  rcases List.mem_append.mp h1 with h2 | h2
  · simp only [List.mem_cons, List.not_mem_nil, or_false] at h2
    rcases h2 with rfl | rfl | rfl | rfl | rfl
    · exact ha
    · exact hb
    · exact hc
    · exact hd
    · exact he
  · exact (List.mem_cons.mp h2).elim (fun q => by rw [q]; exact h.1) id
section CALLG
variable {l : Launch} {E : XE} {Y Yc : MI} {d mc ms : Nat} {w0 : AW} {Po Pc : Option Value → AW → Prop} {nc ns pc : Nat} {lv : AL} {st : List Value} {w wc : AW}
theorem xcallG {p : Program} {e : Env} {s : State} {m : MethodId} {args a : Array Value} {below : List Frame} {meth : Method} {c : Code} {ad0 ad : Nat → Nat} {H : Heap} {locs : List Loc} {ls : Array Slot} {is : List Nat} {st0 : List Value} {mcC msC : Nat} (C : XC E Y w0 p s m args meth c ad0) (ha : ∀ k, k < w0.length → ad k = ad0 k) (hP : va_P E.1 vwCl (xW E ad w) H) (hD : va_D (xA E ad0 w0 s.heap.size) (xW E ad w)) (hS : va_S (xA E ad0 w0 s.heap.size) s.heap H locs) (hl : lv_has ls Y.2.2.1 (xL E ad lv))
    (hnd : va_nd is = true) (hw : is.map (fun i => w[i]?) = wc.map (fun e => some (xr is w.length e))) (hlv : lv.all (fun q => xvk w.length q.2) = true) (hsv : st.all (xvk w.length) = true) (hwk : w.all (xek w.length) = true) (hlw : w0.length ≤ w.length) (h0 : 0 < mc)
    (hr : va_Run p l e (xR d mc ms) s m args below meth c H locs nc ns mcC msC (F0 m pc ls st0) (st.map (xV E ad)) (xPost E (fun j => ad (xsg is w.length j)) wc H.size mcC Pc a) (xA E (fun j => ad (xsg is w.length j)) wc H.size)) (hlen : ∀ r w', Pc r w' → wc.length ≤ w'.length)
    (kk : ∀ r w', Pc r w' → Ev l E Y d mc ms w0 Po (nc + mcC) (ns + msC) (pc + 3) lv ((r.map (xrV is w.length)).toList ++ st) (xput is w.length w is w' ++ (w'.drop wc.length).map (xr is w.length))) :
    W p l e (xR d mc ms) s m args below meth c H locs nc ns (MQ below (xPost E ad0 w0 s.heap.size mc Po) args s mc ms (xA E ad0 w0 s.heap.size)) (F0 m pc ls st0) := by
  obtain ⟨hx, hb, hrt, hml, hown, hts, hlk, hnm, hK, hXS, hXN⟩ := id C
  obtain ⟨hA, at', -⟩ := xpre_of hK hXS hXN hP hD hS hnd hw
  intro T hT X
  obtain ⟨v, st₀, t, T', L, h1, X', hL, e1, e2, ⟨⟨ad', r, w', hv, hp, hq0, hq1, hP1, hK1, hD1⟩, hz, hk⟩, st1⟩ := hr T hT X
  have hv : v = r.map (xV E ad') := by cases hv; rfl
  subst hv
  rw [h1] at hz hk
  have hwl : is.length = wc.length := by
    have h := congrArg List.length hw
    rw [List.length_map, List.length_map] at h
    exact h
  have hlw' := hlen r w' hp
  have hil : ∀ (j k : Nat), is[j]? = some k → k < w.length := by
    intro j k hj
    have hjl : j < wc.length := by rw [← hwl]; exact (List.getElem?_eq_some_iff.mp hj).1
    obtain ⟨i, h2, h3, -⟩ := at' j wc[j] (List.getElem?_eq_getElem hjl)
    rw [hj] at h2
    cases h2
    exact (List.getElem?_eq_some_iff.mp h3).1
  -- the places' addresses behind the call
  obtain ⟨ad2, had2⟩ : ∃ f : Nat → Nat, f = fun k => if k < w.length then ad k else ad' (k - w.length + wc.length) := ⟨_, rfl⟩
  have h2lo : ∀ k : Nat, k < w.length → ad2 k = ad k := fun k hk2 => by rw [had2]; exact if_pos hk2
  have hxs : ∀ j : Nat, wc.length ≤ j → xsg is w.length j = w.length + (j - wc.length) := fun j hj => by
    unfold xsg
    rw [List.getElem?_eq_none (by omega), hwl]
  have hfun : (fun j => ad2 (xsg is w.length j)) = ad' := by
    funext j
    by_cases hj : j < wc.length
    · have hj2 : is[j]? = some (is[j]'(by omega)) := List.getElem?_eq_getElem (by omega)
      have e3 : xsg is w.length j = is[j]'(by omega) := by
        unfold xsg
        rw [hj2]
      show ad2 (xsg is w.length j) = ad' j
      rw [hq1 j hj, h2lo _ (by rw [e3]; exact hil j _ hj2)]
    · show ad2 (xsg is w.length j) = ad' j
      rw [hxs j (by omega), had2]
      show (if w.length + (j - wc.length) < w.length then _ else _) = _
      rw [if_neg (by omega), show w.length + (j - wc.length) - w.length + wc.length = j by omega]
  obtain ⟨w2, hw2⟩ : ∃ q : AW, q = xput is w.length w is w' ++ (w'.drop wc.length).map (xr is w.length) := ⟨_, rfl⟩
  have hpl : (xput is w.length w is w').length = w.length := xput_len is w w'
  -- what stands at a place: the callee's, or what was there
  have hin : ∀ (k : Nat) (e' : va_E), w2[k]? = some e' → (∃ j e2, xsg is w.length j = k ∧ w'[j]? = some e2 ∧ e' = xr is w.length e2 ∧ (k < w.length → is[j]? = some k) ∧ (¬ k < w.length → wc.length ≤ j)) ∨ (k < w.length ∧ k ∉ is ∧ w[k]? = some e') := by
    intro k e' hk'
    rw [hw2] at hk'
    by_cases hkn : k < w.length
    · rw [List.getElem?_append_left (by rw [hpl]; exact hkn)] at hk'
      by_cases hki : k ∈ is
      · left
        obtain ⟨j, hj⟩ := List.getElem?_of_mem hki
        have hjl : j < is.length := (List.getElem?_eq_some_iff.mp hj).1
        have hjw : j < w'.length := by omega
        refine ⟨j, w'[j], ?_, List.getElem?_eq_getElem hjw, ?_, fun _ => hj, fun q => absurd hkn q⟩
        · unfold xsg
          rw [hj]
        · have h := xput_at (is0 := is) (n := w.length) is w w' j w'[j] hnd hj hkn (List.getElem?_eq_getElem hjw)
          rw [hk'] at h
          exact Option.some.inj h
      · right
        rw [xput_out is w w' hki] at hk'
        exact ⟨hkn, hki, hk'⟩
    · left
      rw [List.getElem?_append_right (by rw [hpl]; omega), hpl, List.getElem?_map, List.getElem?_drop] at hk'
      cases hq : w'[wc.length + (k - w.length)]? with
      | none => rw [hq] at hk'; cases hk'
      | some e2 =>
        rw [hq] at hk'
        refine ⟨wc.length + (k - w.length), e2, ?_, hq, (Option.some.inj hk').symm, fun q => absurd q hkn, fun _ => by omega⟩
        rw [hxs _ (by omega)]
        omega
  have hadj : ∀ j : Nat, ad' j = ad2 (xsg is w.length j) := fun j => (congrFun hfun j).symm
  have hxe : ∀ e2 : va_E, xE E ad2 (xr is w.length e2) = xE E ad' e2 := fun e2 => by rw [xE_r, hfun]
  have hold : ∀ (k : Nat) (e' : va_E), w[k]? = some e' → xE E ad2 e' = xE E ad e' := fun k e' h => xE_new h2lo (List.all_eq_true.mp hwk e' (List.mem_of_getElem? h))
  have hP2 : va_P E.1 vwCl (xW E ad2 w2) T'.heap := by
    intro k q hq
    obtain ⟨e', h2, rfl⟩ := xW_inv hq
    rcases hin k e' h2 with ⟨j, e2', h3, h4, rfl, -⟩ | ⟨h3, h4, h5⟩
    · have h := hP1 j _ (xW_at h4)
      rw [e1, hxe, ← h3, ← hadj]
      exact h
    · have h := hP k _ (xW_at h5)
      rw [h2lo k h3, hold k e' h5]
      refine h.kept ?_
      rw [e1]
      refine hk _ h.lt (fun hz2 => ?_)
      rcases hz2 with ⟨j, e3, h6⟩ | h6
      · obtain ⟨e4, h7, h8⟩ := xW_inv h6
        obtain ⟨i, h9, h10, h11⟩ := at' j e4 h7
        have h12 : ad k = ad i := by rw [h11]; exact (Prod.mk.inj h8).1
        have := hD.1 k i _ _ (xW_at h5) (xW_at h10) h12
        subst this
        exact h4 (List.mem_of_getElem? h9)
      · exact absurd h.lt (Nat.not_lt.mpr h6)
  have hnew : ∀ (j : Nat) (e2 : va_E), w'[j]? = some e2 → wc.length ≤ j → ∀ k e', k < w.length → w[k]? = some e' → ad' j ≠ ad k := by
    intro j e2 hj hjl k e' hkn hk' heq
    rcases hD1.2 j _ (xW_at hj) with ⟨i, e3, h6⟩ | h6
    · obtain ⟨e4, h7, h8⟩ := xW_inv h6
      have hi : i < wc.length := (List.getElem?_eq_some_iff.mp h7).1
      have h9 : ad' i = ad' j := by rw [hq1 i hi]; exact ((Prod.mk.inj h8).1).symm
      have h10 := hD1.1 i j _ _ (xW_at (List.getElem?_eq_getElem (show i < w'.length by omega))) (xW_at hj) h9
      omega
    · have h7 := (hP k _ (xW_at hk')).lt
      have h8 : ad k < H.size := h7
      have h9 : H.size ≤ ad' j := h6
      omega
  have hD2 : va_D (xA E ad0 w0 s.heap.size) (xW E ad2 w2) := by
    refine ⟨fun i k p q hi hk' hpq => ?_, fun k q hq => ?_⟩
    · obtain ⟨e3, h2, rfl⟩ := xW_inv hi
      obtain ⟨e4, h3, rfl⟩ := xW_inv hk'
      have hpq : ad2 i = ad2 k := hpq
      rcases hin i e3 h2 with ⟨j, e5, h4, h5, -, h6, h6b⟩ | ⟨h4, h5, h6⟩
      · rcases hin k e4 h3 with ⟨j', e7, h8, h9, -, h10, h10b⟩ | ⟨h8, h9, h10⟩
        · rw [← h4, ← h8, ← hadj, ← hadj] at hpq
          have := hD1.1 j j' _ _ (xW_at h5) (xW_at h9) hpq
          subst this
          exact h4.symm.trans h8
        · by_cases hi2 : i < w.length
          · rw [h2lo i hi2, h2lo k h8] at hpq
            obtain ⟨e9, h11⟩ : ∃ e9, w[i]? = some e9 := ⟨_, List.getElem?_eq_getElem hi2⟩
            exact hD.1 i k _ _ (xW_at h11) (xW_at h10) hpq
          · rw [← h4, ← hadj, h2lo k h8] at hpq
            exact absurd hpq (hnew j e5 h5 (h6b hi2) k e4 h8 h10)
      · rcases hin k e4 h3 with ⟨j', e7, h8, h9, -, h10, h10b⟩ | ⟨h8, h9, h10⟩
        · by_cases hk2 : k < w.length
          · rw [h2lo i h4, h2lo k hk2] at hpq
            obtain ⟨e9, h11⟩ : ∃ e9, w[k]? = some e9 := ⟨_, List.getElem?_eq_getElem hk2⟩
            exact hD.1 i k _ _ (xW_at h6) (xW_at h11) hpq
          · rw [← h8, ← hadj, h2lo i h4] at hpq
            exact absurd hpq.symm (hnew j' e7 h9 (h10b hk2) i e3 h4 h6)
        · rw [h2lo i h4, h2lo k h8] at hpq
          exact hD.1 i k _ _ (xW_at h6) (xW_at h10) hpq
    · obtain ⟨e3, h2, rfl⟩ := xW_inv hq
      rcases hin k e3 h2 with ⟨j, e5, h4, h5, -⟩ | ⟨h4, h5, h6⟩
      · show xA E ad0 w0 s.heap.size (ad2 k)
        rw [← h4, ← hadj]
        exact hA _ (hD1.2 j _ (xW_at h5))
      · show xA E ad0 w0 s.heap.size (ad2 k)
        rw [h2lo k h4]
        exact hD.2 k _ (xW_at h6)
  have hS2 : va_S (xA E ad0 w0 s.heap.size) s.heap T'.heap (locs ++ L) := ⟨Nat.le_trans hS.1 (by rw [e1]; exact hz), fun q h2 h3 => by rw [e1, hk q (Nat.lt_of_lt_of_le h2 hS.1) (fun z => h3 (hA q z))]; exact hS.2.1 q h2 h3, fun q hq => by
    rcases List.mem_append.mp hq with h | h
    · exact hS.2.2 q h
    · exact hA _ (hL q h)⟩
  have hst : (((r.map (xrV is w.length)).toList ++ st).map (xV E ad2)) = (r.map (xV E ad')).toList ++ st.map (xV E ad) := by
    rw [List.map_append, xM_new h2lo hsv]
    congr 1
    cases r with
    | none => rfl
    | some v => show [xV E ad2 (xrV is w.length v)] = [_]; rw [xV_r, hfun]
  have hkk := kk r w' hp
  rw [← hw2] at hkk
  have hkk := hkk p e s m args below meth c ad0 ad2 T'.heap (locs ++ L) ls C (fun z => absurd z (by omega)) (fun j hj => (h2lo j (by omega)).trans (ha j hj)) hP2 hD2 hS2 (by rw [xL_new h2lo hlv]; exact hl)
  rw [hst] at hkk
  obtain ⟨t2, a1, b1⟩ := hkk T' rfl X'
  exact ⟨t2, st1 t2 a1, b1⟩
theorem ev_callGV {idx n dc b ci N mcC msC : Nat} {fs : List Value} {T : u_T} {As : List Value} {stk : List Value} (is : List Nat) (hd : decode Y.2.1 pc = .ok (.invokevirtual idx, 3)) (hlk : (.methodLink Y.1.cls idx Yc.1 : Cond) ∈ tbl) (kM : XMv Yc n) (hM : MetE l E Yc dc mcC msC (.ref b :: As) wc Pc) (hn : As.length = n) (hst : stk = ((Value.ref b :: As).map (xrV is w.length)).reverse ++ st) (hrv : wc[b]? = some (.inr (ci, fs))) (hrc : vwCl[ci]? = some (Yc.1.cls, T, N)) (hnd : va_nd is = true) (hw : is.map (fun i => w[i]?) = wc.map (fun e => some (xr is w.length e))) (hlv : lv.all (fun q => xvk w.length q.2) = true) (hsv : st.all (xvk w.length) = true) (hwk : w.all (xek w.length) = true) (hlw : w0.length ≤ w.length) (hdc : dc + 1 ≤ d) (hcat : (st.map fun v => v.category).sum ≤ 8) (h0 : 0 < mc) (hnc : nc + mcC ≤ mc) (hns : ns + msC ≤ ms) (hlen : ∀ r w', Pc r w' → wc.length ≤ w'.length)
    (kk : ∀ r w', Pc r w' → Ev l E Y d mc ms w0 Po (nc + mcC) (ns + msC) (pc + 3) lv ((r.map (xrV is w.length)).toList ++ st) (xput is w.length w is w' ++ (w'.drop wc.length).map (xr is w.length))) : Ev l E Y d mc ms w0 Po nc ns pc lv stk w := by
  intro p e s m args below meth c ad0 ad H locs ls C ha0 ha hP hD hS hl
  obtain ⟨hx, hb, hrt, hml, hown, hts, hlk2, hnm, hK, hXS, hXN⟩ := id C
  obtain ⟨hA, at', hpre⟩ := xpre_of hK hXS hXN hP hD hS hnd hw
  obtain ⟨⟨k1, k2, k3, k4⟩, k5, k6⟩ := kM
  subst hst
  refine xcallG (a := (Value.ref (ad (xsg is w.length b)) :: As.map (xV E fun j => ad (xsg is w.length j))).toArray) C ha hP hD hS hl hnd hw hlv hsv hwk hlw h0 ?_ hlen kk
  have hrx : ∃ cell : Cell, H[ad (xsg is w.length b)]? = some cell ∧ cell.vm.isStatics = false ∧ s.vm.findClass Yc.1.cls = some cell.cls := by
    obtain ⟨i, h1, h2, h3⟩ := at' b _ hrv
    rw [← h3]
    exact va_recv (q := (Yc.1.cls, T, N)) hK hP hrc (xW_at h2)
  exact va_runV (As := (As.map (xV E fun j => ad (xsg is w.length j)))) (rest := st.map (xV E ad)) ⟨hx, hb, hml, hown, hts⟩ (hM (fun j => ad (xsg is w.length j)) H.size) (cwV n hts (xin4 hlk k5 k6 k2 ⟨k1, k2, k3, k4⟩) rfl rfl rfl ⟨rfl, k3⟩ ⟨hdc, by show 8 + (Yc.2.2.1 + 11) + 100 * dc ≤ 100 * d; omega⟩) ⟨xblind, hrx, fun U hU hW => ⟨by simp [xV], hpre U hU hW⟩⟩ rfl (by rw [List.length_map]; exact hn) hl.1 (by show List.map (xV E ad) (((Value.ref b :: As).map (xrV is w.length)).reverse ++ st) = _; rw [List.map_append, List.map_reverse, List.map_map, show (xV E ad ∘ xrV is w.length) = xV E (fun j => ad (xsg is w.length j)) from funext fun v => xV_r v]; simp [xV]) (lv_room (by rw [xCats]; exact hcat)) hd ⟨hnc, hns⟩
theorem ev_callGS {idx n dc mcC msC : Nat} {As : List Value} {stk : List Value} (is : List Nat) (hd : decode Y.2.1 pc = .ok (.invokestatic idx, 3)) (hlk : (.methodLink Y.1.cls idx Yc.1 : Cond) ∈ tbl) (kM : XMs Yc n) (hM : MetE l E Yc dc mcC msC As wc Pc) (hn : As.length = n) (hst : stk = (As.map (xrV is w.length)).reverse ++ st) (hnd : va_nd is = true) (hw : is.map (fun i => w[i]?) = wc.map (fun e => some (xr is w.length e))) (hlv : lv.all (fun q => xvk w.length q.2) = true) (hsv : st.all (xvk w.length) = true) (hwk : w.all (xek w.length) = true) (hlw : w0.length ≤ w.length) (hdc : dc + 1 ≤ d) (hcat : (st.map fun v => v.category).sum ≤ 8) (h0 : 0 < mc) (hnc : nc + mcC ≤ mc) (hns : ns + msC ≤ ms) (hlen : ∀ r w', Pc r w' → wc.length ≤ w'.length)
    (kk : ∀ r w', Pc r w' → Ev l E Y d mc ms w0 Po (nc + mcC) (ns + msC) (pc + 3) lv ((r.map (xrV is w.length)).toList ++ st) (xput is w.length w is w' ++ (w'.drop wc.length).map (xr is w.length))) : Ev l E Y d mc ms w0 Po nc ns pc lv stk w := by
  intro p e s m args below meth c ad0 ad H locs ls C ha0 ha hP hD hS hl
  obtain ⟨hx, hb, hrt, hml, hown, hts, hlk2, hnm, hK, hXS, hXN⟩ := id C
  obtain ⟨hA, at', hpre⟩ := xpre_of hK hXS hXN hP hD hS hnd hw
  obtain ⟨⟨k1, k2, k3, k4⟩, k5⟩ := kM
  subst hst
  refine xcallG (a := (As.map (xV E fun j => ad (xsg is w.length j))).toArray) C ha hP hD hS hl hnd hw hlv hsv hwk hlw h0 ?_ hlen kk
  exact va_runS (As := (As.map (xV E fun j => ad (xsg is w.length j)))) (rest := st.map (xV E ad)) ⟨hx, hb, hml, hown, hts⟩ (hM (fun j => ad (xsg is w.length j)) H.size) (va_cwS n hts (xin3 hlk k5 k2 ⟨k1, k2, k3, k4⟩) rfl rfl rfl k3 ⟨hdc, by show 8 + (Yc.2.2.1 + 11) + 100 * dc ≤ 100 * d; omega⟩) ⟨xblind, fun U hU hW => ⟨rfl, hpre U hU hW⟩⟩ rfl (by rw [List.length_map]; exact hn) hl.1 (by show List.map (xV E ad) ((As.map (xrV is w.length)).reverse ++ st) = _; rw [List.map_append, List.map_reverse, List.map_map, show (xV E ad ∘ xrV is w.length) = xV E (fun j => ad (xsg is w.length j)) from funext fun v => xV_r v]) (lv_room (by rw [xCats]; exact hcat)) hd ⟨hnc, hns⟩
/-- an inherited method, by a reference that names the class above -/
theorem ev_callU {idx n dc b ci N : Nat} {Cn : String} {fs : List Value} {T : u_T} {As : List Value} {stk : List Value} (is : List Nat) (hd : decode Y.2.1 pc = .ok (.invokevirtual idx, 3)) (hlk : (.methodLink Y.1.cls idx Yc.1 : Cond) ∈ tbl) (kM : XMu Yc n) (hsel : (.selects Cn Yc.1 Yc.1 : Cond) ∈ tbl) (hM : MetE l E Yc dc 0 0 (.ref b :: As) wc Pc) (hn : As.length = n) (hst : stk = ((Value.ref b :: As).map (xrV is w.length)).reverse ++ st) (hrv : wc[b]? = some (.inr (ci, fs))) (hrc : vwCl[ci]? = some (Cn, T, N)) (hnd : va_nd is = true) (hw : is.map (fun i => w[i]?) = wc.map (fun e => some (xr is w.length e))) (hdc : dc + 1 ≤ d) (hcat : (st.map fun v => v.category).sum ≤ 8) (hnc : nc ≤ mc) (hns : ns ≤ ms) (hlen : ∀ r w', Pc r w' → wc.length ≤ w'.length)
    (kk : ∀ r w', Pc r w' → Ev l E Y d mc ms w0 Po nc ns (pc + 3) lv ((r.map (xrV is w.length)).toList ++ st) (xput is w.length w is w')) : Ev l E Y d mc ms w0 Po nc ns pc lv stk w := by
  intro p e s m args below meth c ad0 ad H locs ls C ha0 ha hP hD hS hl
  obtain ⟨hx, hb, hrt, hml, hown, hts, hlk2, hnm, hK, hXS, hXN⟩ := id C
  obtain ⟨hA, at', hpre⟩ := xpre_of hK hXS hXN hP hD hS hnd hw
  obtain ⟨⟨k1, k2, k3, k4⟩, k5, k6⟩ := kM
  subst hst
  refine xcall0 (a := (Value.ref (ad (xsg is w.length b)) :: As.map (xV E fun j => ad (xsg is w.length j))).toArray) C ha0 ha hP hD hS hl hnd hw ?_ hlen kk
  have hrx : ∃ cell : Cell, H[ad (xsg is w.length b)]? = some cell ∧ cell.vm.isStatics = false ∧ s.vm.findClass Cn = some cell.cls := by
    obtain ⟨i, h1, h2, h3⟩ := at' b _ hrv
    rw [← h3]
    exact va_recv (q := (Cn, T, N)) hK hP hrc (xW_at h2)
  exact va_runU (x := Yc.1) (y := Yc.1) (owner := Yc.1.cls) (As := (As.map (xV E fun j => ad (xsg is w.length j)))) (rest := st.map (xV E ad)) ⟨hx, hb, hml, hown, hts⟩ (hM (fun j => ad (xsg is w.length j)) H.size) (va_cwU n hts (xin5 hlk k6 hsel k5 k2 ⟨k1, k2, k3, k4⟩) rfl rfl rfl rfl k3 ⟨hdc, by show 8 + (Yc.2.2.1 + 11) + 100 * dc ≤ 100 * d; omega⟩) ⟨xblind, hrx, fun U hU hW => ⟨by simp [xV], hpre U hU hW⟩⟩ rfl (by rw [List.length_map]; exact hn) hl.1 (by show List.map (xV E ad) (((Value.ref b :: As).map (xrV is w.length)).reverse ++ st) = _; rw [List.map_append, List.map_reverse, List.map_map, show (xV E ad ∘ xrV is w.length) = xV E (fun j => ad (xsg is w.length j)) from funext fun v => xV_r v]; simp [xV]) (lv_room (by rw [xCats]; exact hcat)) hd ⟨hnc, hns⟩
theorem ev_callGU {idx n dc b ci N mcC msC : Nat} {Cn : String} {fs : List Value} {T : u_T} {As : List Value} {stk : List Value} (is : List Nat) (hd : decode Y.2.1 pc = .ok (.invokevirtual idx, 3)) (hlk : (.methodLink Y.1.cls idx Yc.1 : Cond) ∈ tbl) (kM : XMu Yc n) (hsel : (.selects Cn Yc.1 Yc.1 : Cond) ∈ tbl) (hM : MetE l E Yc dc mcC msC (.ref b :: As) wc Pc) (hn : As.length = n) (hst : stk = ((Value.ref b :: As).map (xrV is w.length)).reverse ++ st) (hrv : wc[b]? = some (.inr (ci, fs))) (hrc : vwCl[ci]? = some (Cn, T, N)) (hnd : va_nd is = true) (hw : is.map (fun i => w[i]?) = wc.map (fun e => some (xr is w.length e))) (hlv : lv.all (fun q => xvk w.length q.2) = true) (hsv : st.all (xvk w.length) = true) (hwk : w.all (xek w.length) = true) (hlw : w0.length ≤ w.length) (hdc : dc + 1 ≤ d) (hcat : (st.map fun v => v.category).sum ≤ 8) (h0 : 0 < mc) (hnc : nc + mcC ≤ mc) (hns : ns + msC ≤ ms) (hlen : ∀ r w', Pc r w' → wc.length ≤ w'.length)
    (kk : ∀ r w', Pc r w' → Ev l E Y d mc ms w0 Po (nc + mcC) (ns + msC) (pc + 3) lv ((r.map (xrV is w.length)).toList ++ st) (xput is w.length w is w' ++ (w'.drop wc.length).map (xr is w.length))) : Ev l E Y d mc ms w0 Po nc ns pc lv stk w := by
  intro p e s m args below meth c ad0 ad H locs ls C ha0 ha hP hD hS hl
  obtain ⟨hx, hb, hrt, hml, hown, hts, hlk2, hnm, hK, hXS, hXN⟩ := id C
  obtain ⟨hA, at', hpre⟩ := xpre_of hK hXS hXN hP hD hS hnd hw
  obtain ⟨⟨k1, k2, k3, k4⟩, k5, k6⟩ := kM
  subst hst
  refine xcallG (a := (Value.ref (ad (xsg is w.length b)) :: As.map (xV E fun j => ad (xsg is w.length j))).toArray) C ha hP hD hS hl hnd hw hlv hsv hwk hlw h0 ?_ hlen kk
  have hrx : ∃ cell : Cell, H[ad (xsg is w.length b)]? = some cell ∧ cell.vm.isStatics = false ∧ s.vm.findClass Cn = some cell.cls := by
    obtain ⟨i, h1, h2, h3⟩ := at' b _ hrv
    rw [← h3]
    exact va_recv (q := (Cn, T, N)) hK hP hrc (xW_at h2)
  exact va_runU (x := Yc.1) (y := Yc.1) (owner := Yc.1.cls) (As := (As.map (xV E fun j => ad (xsg is w.length j)))) (rest := st.map (xV E ad)) ⟨hx, hb, hml, hown, hts⟩ (hM (fun j => ad (xsg is w.length j)) H.size) (va_cwU n hts (xin5 hlk k6 hsel k5 k2 ⟨k1, k2, k3, k4⟩) rfl rfl rfl rfl k3 ⟨hdc, by show 8 + (Yc.2.2.1 + 11) + 100 * dc ≤ 100 * d; omega⟩) ⟨xblind, hrx, fun U hU hW => ⟨by simp [xV], hpre U hU hW⟩⟩ rfl (by rw [List.length_map]; exact hn) hl.1 (by show List.map (xV E ad) (((Value.ref b :: As).map (xrV is w.length)).reverse ++ st) = _; rw [List.map_append, List.map_reverse, List.map_map, show (xV E ad ∘ xrV is w.length) = xV E (fun j => ad (xsg is w.length j)) from funext fun v => xV_r v]; simp [xV]) (lv_room (by rw [xCats]; exact hcat)) hd ⟨hnc, hns⟩
/-- super.method(..) -/
theorem ev_callSU {idx n dc b ci N : Nat} {Cn : String} {fs : List Value} {T : u_T} {As : List Value} {stk : List Value} (is : List Nat) (hd : decode Y.2.1 pc = .ok (.invokespecial idx, 3)) (hlk : (.methodLink Y.1.cls idx Yc.1 : Cond) ∈ tbl) (kM : XMu Yc n) (hsup : (.superclass Y.1.cls Yc.1.cls : Cond) ∈ tbl) (hni : Yc.1.name ≠ "<init>") (hM : MetE l E Yc dc 0 0 (.ref b :: As) wc Pc) (hn : As.length = n) (hst : stk = ((Value.ref b :: As).map (xrV is w.length)).reverse ++ st) (hrv : wc[b]? = some (.inr (ci, fs))) (hrc : vwCl[ci]? = some (Cn, T, N)) (hnd : va_nd is = true) (hw : is.map (fun i => w[i]?) = wc.map (fun e => some (xr is w.length e))) (hdc : dc + 1 ≤ d) (hcat : (st.map fun v => v.category).sum ≤ 8) (hnc : nc ≤ mc) (hns : ns ≤ ms) (hlen : ∀ r w', Pc r w' → wc.length ≤ w'.length)
    (kk : ∀ r w', Pc r w' → Ev l E Y d mc ms w0 Po nc ns (pc + 3) lv ((r.map (xrV is w.length)).toList ++ st) (xput is w.length w is w')) : Ev l E Y d mc ms w0 Po nc ns pc lv stk w := by
  intro p e s m args below meth c ad0 ad H locs ls C ha0 ha hP hD hS hl
  obtain ⟨hx, hb, hrt, hml, hown, hts, hlk2, hnm, hK, hXS, hXN⟩ := id C
  obtain ⟨hA, at', hpre⟩ := xpre_of hK hXS hXN hP hD hS hnd hw
  obtain ⟨⟨k1, k2, k3, k4⟩, k5, k6⟩ := kM
  subst hst
  refine xcall0 (a := (Value.ref (ad (xsg is w.length b)) :: As.map (xV E fun j => ad (xsg is w.length j))).toArray) C ha0 ha hP hD hS hl hnd hw ?_ hlen kk
  have hrx : ∃ cell : Cell, H[ad (xsg is w.length b)]? = some cell ∧ cell.vm.isStatics = false ∧ s.vm.findClass Cn = some cell.cls := by
    obtain ⟨i, h1, h2, h3⟩ := at' b _ hrv
    rw [← h3]
    exact va_recv (q := (Cn, T, N)) hK hP hrc (xW_at h2)
  exact va_runSU (hK.1 ci _ hrc).2 (As := (As.map (xV E fun j => ad (xsg is w.length j)))) (rest := st.map (xV E ad)) ⟨hx, hb, hml, hown, hts⟩ (hM (fun j => ad (xsg is w.length j)) H.size) (va_cwSU n hts (xin5 hlk k6 hsup k5 k2 ⟨k1, k2, k3, k4⟩) rfl rfl rfl ⟨hni, k3.2.2⟩ ⟨hdc, by show 8 + (Yc.2.2.1 + 11) + 100 * dc ≤ 100 * d; omega⟩) ⟨xblind, hrx, fun U hU hW => ⟨by simp [xV], hpre U hU hW⟩⟩ rfl (by rw [List.length_map]; exact hn) hl.1 (by show List.map (xV E ad) (((Value.ref b :: As).map (xrV is w.length)).reverse ++ st) = _; rw [List.map_append, List.map_reverse, List.map_map, show (xV E ad ∘ xrV is w.length) = xV E (fun j => ad (xsg is w.length j)) from funext fun v => xV_r v]; simp [xV]) (lv_room (by rw [xCats]; exact hcat)) hd ⟨hnc, hns⟩
theorem ev_callGSU {idx n dc b ci N mcC msC : Nat} {Cn : String} {fs : List Value} {T : u_T} {As : List Value} {stk : List Value} (is : List Nat) (hd : decode Y.2.1 pc = .ok (.invokespecial idx, 3)) (hlk : (.methodLink Y.1.cls idx Yc.1 : Cond) ∈ tbl) (kM : XMu Yc n) (hsup : (.superclass Y.1.cls Yc.1.cls : Cond) ∈ tbl) (hni : Yc.1.name ≠ "<init>") (hM : MetE l E Yc dc mcC msC (.ref b :: As) wc Pc) (hn : As.length = n) (hst : stk = ((Value.ref b :: As).map (xrV is w.length)).reverse ++ st) (hrv : wc[b]? = some (.inr (ci, fs))) (hrc : vwCl[ci]? = some (Cn, T, N)) (hnd : va_nd is = true) (hw : is.map (fun i => w[i]?) = wc.map (fun e => some (xr is w.length e))) (hlv : lv.all (fun q => xvk w.length q.2) = true) (hsv : st.all (xvk w.length) = true) (hwk : w.all (xek w.length) = true) (hlw : w0.length ≤ w.length) (hdc : dc + 1 ≤ d) (hcat : (st.map fun v => v.category).sum ≤ 8) (h0 : 0 < mc) (hnc : nc + mcC ≤ mc) (hns : ns + msC ≤ ms) (hlen : ∀ r w', Pc r w' → wc.length ≤ w'.length)
    (kk : ∀ r w', Pc r w' → Ev l E Y d mc ms w0 Po (nc + mcC) (ns + msC) (pc + 3) lv ((r.map (xrV is w.length)).toList ++ st) (xput is w.length w is w' ++ (w'.drop wc.length).map (xr is w.length))) : Ev l E Y d mc ms w0 Po nc ns pc lv stk w := by
  intro p e s m args below meth c ad0 ad H locs ls C ha0 ha hP hD hS hl
  obtain ⟨hx, hb, hrt, hml, hown, hts, hlk2, hnm, hK, hXS, hXN⟩ := id C
  obtain ⟨hA, at', hpre⟩ := xpre_of hK hXS hXN hP hD hS hnd hw
  obtain ⟨⟨k1, k2, k3, k4⟩, k5, k6⟩ := kM
  subst hst
  refine xcallG (a := (Value.ref (ad (xsg is w.length b)) :: As.map (xV E fun j => ad (xsg is w.length j))).toArray) C ha hP hD hS hl hnd hw hlv hsv hwk hlw h0 ?_ hlen kk
  have hrx : ∃ cell : Cell, H[ad (xsg is w.length b)]? = some cell ∧ cell.vm.isStatics = false ∧ s.vm.findClass Cn = some cell.cls := by
    obtain ⟨i, h1, h2, h3⟩ := at' b _ hrv
    rw [← h3]
    exact va_recv (q := (Cn, T, N)) hK hP hrc (xW_at h2)
  exact va_runSU (hK.1 ci _ hrc).2 (As := (As.map (xV E fun j => ad (xsg is w.length j)))) (rest := st.map (xV E ad)) ⟨hx, hb, hml, hown, hts⟩ (hM (fun j => ad (xsg is w.length j)) H.size) (va_cwSU n hts (xin5 hlk k6 hsup k5 k2 ⟨k1, k2, k3, k4⟩) rfl rfl rfl ⟨hni, k3.2.2⟩ ⟨hdc, by show 8 + (Yc.2.2.1 + 11) + 100 * dc ≤ 100 * d; omega⟩) ⟨xblind, hrx, fun U hU hW => ⟨by simp [xV], hpre U hU hW⟩⟩ rfl (by rw [List.length_map]; exact hn) hl.1 (by show List.map (xV E ad) (((Value.ref b :: As).map (xrV is w.length)).reverse ++ st) = _; rw [List.map_append, List.map_reverse, List.map_map, show (xV E ad ∘ xrV is w.length) = xV E (fun j => ad (xsg is w.length j)) from funext fun v => xV_r v]; simp [xV]) (lv_room (by rw [xCats]; exact hcat)) hd ⟨hnc, hns⟩
/-- a constructor: of a class by a plain link, of a nest mate's -/
theorem ev_callGI {idx n dc b mcC msC : Nat} {As : List Value} {stk : List Value} (is : List Nat) (hd : decode Y.2.1 pc = .ok (.invokespecial idx, 3)) (hlk : (.methodLink Y.1.cls idx Yc.1 : Cond) ∈ tbl) (kM : XMi Yc n) (hM : MetE l E Yc dc mcC msC (.ref b :: As) wc Pc) (hn : As.length = n) (hst : stk = ((Value.ref b :: As).map (xrV is w.length)).reverse ++ st) (hnd : va_nd is = true) (hw : is.map (fun i => w[i]?) = wc.map (fun e => some (xr is w.length e))) (hlv : lv.all (fun q => xvk w.length q.2) = true) (hsv : st.all (xvk w.length) = true) (hwk : w.all (xek w.length) = true) (hlw : w0.length ≤ w.length) (hdc : dc + 1 ≤ d) (hcat : (st.map fun v => v.category).sum ≤ 8) (h0 : 0 < mc) (hnc : nc + mcC ≤ mc) (hns : ns + msC ≤ ms) (hlen : ∀ r w', Pc r w' → wc.length ≤ w'.length)
    (kk : ∀ r w', Pc r w' → Ev l E Y d mc ms w0 Po (nc + mcC) (ns + msC) (pc + 3) lv ((r.map (xrV is w.length)).toList ++ st) (xput is w.length w is w' ++ (w'.drop wc.length).map (xr is w.length))) : Ev l E Y d mc ms w0 Po nc ns pc lv stk w := by
  intro p e s m args below meth c ad0 ad H locs ls C ha0 ha hP hD hS hl
  obtain ⟨hx, hb, hrt, hml, hown, hts, hlk2, hnm, hK, hXS, hXN⟩ := id C
  obtain ⟨hA, at', hpre⟩ := xpre_of hK hXS hXN hP hD hS hnd hw
  obtain ⟨⟨k1, k2, k3, k4⟩, k5, k6, k7⟩ := kM
  subst hst
  refine xcallG (a := (Value.ref (ad (xsg is w.length b)) :: As.map (xV E fun j => ad (xsg is w.length j))).toArray) C ha hP hD hS hl hnd hw hlv hsv hwk hlw h0 ?_ hlen kk
  exact va_runI (As := (As.map (xV E fun j => ad (xsg is w.length j)))) (rest := st.map (xV E ad)) ⟨hx, hb, hml, hown, hts⟩ (hM (fun j => ad (xsg is w.length j)) H.size) (cwI n hts (xgood (xws_in ⟨k1, k2, k3, k4⟩)) (by rw [← k7]) rfl rfl (hts _ (List.mem_cons_of_mem _ k2)) (hts _ (List.mem_cons_of_mem _ hlk)) (hts _ (List.mem_cons_of_mem _ k6)) k5 k3 ⟨hdc, by show 8 + (Yc.2.2.1 + 11) + 100 * dc ≤ 100 * d; omega⟩) ⟨xblind, fun U hU hW => ⟨by simp [xV], hpre U hU hW⟩⟩ rfl (by rw [List.length_map]; exact hn) hl.1 (by show List.map (xV E ad) (((Value.ref b :: As).map (xrV is w.length)).reverse ++ st) = _; rw [List.map_append, List.map_reverse, List.map_map, show (xV E ad ∘ xrV is w.length) = xV E (fun j => ad (xsg is w.length j)) from funext fun v => xV_r v]; simp [xV]) (lv_room (by rw [xCats]; exact hcat)) hd ⟨hnc, hns⟩
theorem ev_callGIN {idx n dc b mcC msC : Nat} {host : String} {As : List Value} {stk : List Value} (is : List Nat) (hd : decode Y.2.1 pc = .ok (.invokespecial idx, 3)) (hlk : (.methodLinkNest Y.1.cls idx Yc.1 host : Cond) ∈ tbn) (kM : XMi Yc n) (hM : MetE l E Yc dc mcC msC (.ref b :: As) wc Pc) (hn : As.length = n) (hst : stk = ((Value.ref b :: As).map (xrV is w.length)).reverse ++ st) (hnd : va_nd is = true) (hw : is.map (fun i => w[i]?) = wc.map (fun e => some (xr is w.length e))) (hlv : lv.all (fun q => xvk w.length q.2) = true) (hsv : st.all (xvk w.length) = true) (hwk : w.all (xek w.length) = true) (hlw : w0.length ≤ w.length) (hdc : dc + 1 ≤ d) (hcat : (st.map fun v => v.category).sum ≤ 8) (h0 : 0 < mc) (hnc : nc + mcC ≤ mc) (hns : ns + msC ≤ ms) (hlen : ∀ r w', Pc r w' → wc.length ≤ w'.length)
    (kk : ∀ r w', Pc r w' → Ev l E Y d mc ms w0 Po (nc + mcC) (ns + msC) (pc + 3) lv ((r.map (xrV is w.length)).toList ++ st) (xput is w.length w is w' ++ (w'.drop wc.length).map (xr is w.length))) : Ev l E Y d mc ms w0 Po nc ns pc lv stk w := by
  intro p e s m args below meth c ad0 ad H locs ls C ha0 ha hP hD hS hl
  obtain ⟨hx, hb, hrt, hml, hown, hts, hlk2, hnm, hK, hXS, hXN⟩ := id C
  obtain ⟨hA, at', hpre⟩ := xpre_of hK hXS hXN hP hD hS hnd hw
  obtain ⟨⟨k1, k2, k3, k4⟩, k5, k6, k7⟩ := kM
  subst hst
  refine xcallG (a := (Value.ref (ad (xsg is w.length b)) :: As.map (xV E fun j => ad (xsg is w.length j))).toArray) C ha hP hD hS hl hnd hw hlv hsv hwk hlw h0 ?_ hlen kk
  exact va_runIN (As := (As.map (xV E fun j => ad (xsg is w.length j)))) (rest := st.map (xV E ad)) ⟨hx, hb, hml, hown, hts⟩ (hM (fun j => ad (xsg is w.length j)) H.size) ⟨va_cnB n hts (xgood (xws_in ⟨k1, k2, k3, k4⟩)) (by rw [← k7]) rfl rfl (hXN _ hlk) (hts _ (List.mem_cons_of_mem _ k2)) k3 ⟨hdc, by show 8 + (Yc.2.2.1 + 11) + 100 * dc ≤ 100 * d; omega⟩, k5, hts _ (List.mem_cons_of_mem _ k6)⟩ ⟨xblind, fun U hU hW => ⟨by simp [xV], hpre U hU hW⟩⟩ rfl (by rw [List.length_map]; exact hn) hl.1 (by show List.map (xV E ad) (((Value.ref b :: As).map (xrV is w.length)).reverse ++ st) = _; rw [List.map_append, List.map_reverse, List.map_map, show (xV E ad ∘ xrV is w.length) = xV E (fun j => ad (xsg is w.length j)) from funext fun v => xV_r v]; simp [xV]) (lv_room (by rw [xCats]; exact hcat)) hd ⟨hnc, hns⟩
/-- places named anew, some left out -/
theorem ev_ren {lv' : AL} {st' : List Value} {w' : AW} (is : List Nat) (hnd : va_nd is = true) (hw : is.map (fun i => w[i]?) = w'.map (fun e => some (xr is w.length e))) (hlv : lv = lv'.map (fun q => (q.1, xrV is w.length q.2))) (hst : st = st'.map (xrV is w.length)) (h0 : ∀ k, k < w0.length → is[k]? = some k) (hmc : 0 < mc) (k : Ev l E Y d mc ms w0 Po nc ns pc lv' st' w') : Ev l E Y d mc ms w0 Po nc ns pc lv st w := by
  intro p e s m args below meth c ad0 ad H locs ls C ha0 ha hP hD hS hl
  have at' : ∀ j e, w'[j]? = some e → ∃ i, is[j]? = some i ∧ w[i]? = some (xr is w.length e) ∧ ad i = ad (xsg is w.length j) := by
    intro j e hj
    have h1 : (is.map (fun i => w[i]?))[j]? = some (some (xr is w.length e)) := by rw [hw, List.getElem?_map, hj]; rfl
    rw [List.getElem?_map] at h1
    cases hi : is[j]? with
    | none => rw [hi] at h1; cases h1
    | some i =>
      rw [hi] at h1
      refine ⟨i, rfl, Option.some.inj h1, ?_⟩
      unfold xsg
      rw [hi]
  have hsub : ∀ (j : Nat) (q : Nat × va_E), (xW E (fun j => ad (xsg is w.length j)) w')[j]? = some q → ∃ i, is[j]? = some i ∧ (xW E ad w)[i]? = some q := by
    intro j q hq
    obtain ⟨e, h1, rfl⟩ := xW_inv hq
    obtain ⟨i, h2, h3, h4⟩ := at' j e h1
    exact ⟨i, h2, by rw [xW_at h3, h4, xE_r]⟩
  have e1 : st.map (xV E ad) = st'.map (xV E (fun j => ad (xsg is w.length j))) := by
    rw [hst, List.map_map, show (xV E ad ∘ xrV is w.length) = xV E (fun j => ad (xsg is w.length j)) from funext fun v => xV_r v]
  have e2 : xL E ad lv = xL E (fun j => ad (xsg is w.length j)) lv' := by
    rw [hlv]
    unfold xL
    rw [List.map_map]
    exact List.map_congr_left (fun q _ => by show (q.1, xV E ad (xrV is w.length q.2)) = _; rw [xV_r])
  rw [e1]
  refine k p e s m args below meth c ad0 (fun j => ad (xsg is w.length j)) H locs ls C (fun z => absurd z (by omega)) (fun j hj => ?_) (fun j q hq => ?_) ⟨fun i j p q hi hj hpq => ?_, fun j q hq => ?_⟩ hS (by rw [← e2]; exact hl)
  · show ad (xsg is w.length j) = ad0 j
    rw [show xsg is w.length j = j from by unfold xsg; rw [h0 j hj]]
    exact ha j hj
  · obtain ⟨i, -, h2⟩ := hsub j q hq
    exact hP i q h2
  · obtain ⟨a, h1, h2⟩ := hsub i p hi
    obtain ⟨b, h3, h4⟩ := hsub j q hj
    have hab := hD.1 a b p q h2 h4 hpq
    subst hab
    exact va_nd_inj is hnd i j a h1 h3
  · obtain ⟨i, -, h2⟩ := hsub j q hq
    exact hD.2 i q h2
/-- more room may be spent -/
theorem ev_more {nc' ns' : Nat} (h1 : nc ≤ nc') (h2 : ns ≤ ns') (k : Ev l E Y d mc ms w0 Po nc' ns' pc lv st w) : Ev l E Y d mc ms w0 Po nc ns pc lv st w := by
  intro p e s m args below meth c ad0 ad H locs ls C ha0 ha hP hD hS hl
  exact W.widen h1 h2 (k p e s m args below meth c ad0 ad H locs ls C ha0 ha hP hD hS hl)
end CALLG

