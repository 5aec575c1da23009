/-! ===== calls whose cells come first among the caller's; calls that make cells; places named anew ===== -/
section EVK
variable {l : Launch} {E : XE} {Y Yc : MI} {d mc ms : Nat} {w0 : AW} {Po Pc : Option Value → AW → Prop} {nc ns pc : Nat} {lv : AL} {st : List Value} {w A R : AW}
theorem xsg_pre {n N j : Nat} (h : j < n) : xsg (rng 0 n) N j = j := by
  unfold xsg
  rw [rng_get, if_pos h]
  show 0 + j = j
  omega
theorem xrV_pre {n N : Nat} {v : Value} (h : xvk n v = true) : xrV (rng 0 n) N v = v := by
  cases v <;> first | rfl | (rename_i a; exact congrArg Value.ref (xsg_pre (of_decide_eq_true h)))
theorem xr_pre {n N : Nat} {e : va_E} (h : xek n e = true) : xr (rng 0 n) N e = e := by
  rcases e with x | ⟨ci, fs⟩
  · rfl
  · show Sum.inr _ = Sum.inr _
    rw [List.map_congr_left (fun v hm => xrV_pre (List.all_eq_true.mp h v hm)), List.map_id']
theorem pre_hw (h : A.all (xek A.length) = true) : (rng 0 A.length).map (fun i => (A ++ R)[i]?) = A.map (fun e => some (xr (rng 0 A.length) (A ++ R).length e)) := by
  apply List.ext_getElem?
  intro i
  rw [List.getElem?_map, List.getElem?_map, rng_get]
  by_cases hi : i < A.length
  · rw [if_pos hi, List.getElem?_eq_getElem hi]
    show some ((A ++ R)[0 + i]?) = some (some (xr (rng 0 A.length) (A ++ R).length A[i]))
    rw [Nat.zero_add, List.getElem?_append_left hi, List.getElem?_eq_getElem hi, xr_pre (List.all_eq_true.mp h _ (List.getElem_mem hi))]
  · rw [if_neg hi, List.getElem?_eq_none (by omega)]
    rfl
theorem ev_callP {idx n dc b ci N : Nat} {fs : List Value} {T : u_T} {As : List Value} {stk : List Value} (hd : decode Y.2.1 pc = .ok (.invokevirtual idx, 3)) (hlk : (.methodLink Y.1.cls idx Yc.1 : Cond) ∈ tbl) (kM : XMv Yc n) (hM : MetE l E Yc dc 0 0 (.ref b :: As) A Pc) (hn : As.length = n) (hst : stk = (Value.ref b :: As).reverse ++ st) (hA : (Value.ref b :: As).all (xvk A.length) = true) (hxa : A.all (xek A.length) = true) (hrv : A[b]? = some (.inr (ci, fs))) (hrc : vwCl[ci]? = some (Yc.1.cls, T, N)) (hdc : dc + 1 ≤ d) (hcat : (st.map fun v => v.category).sum ≤ 8) (hnc : nc ≤ mc) (hns : ns ≤ ms) (hlen : ∀ r w', Pc r w' → w'.length = A.length ∧ w'.all (xek A.length) = true ∧ r.toList.all (xvk A.length) = true)
    (kk : ∀ r w', Pc r w' → Ev l E Y d mc ms w0 Po nc ns (pc + 3) lv (r.toList ++ st) (w' ++ R)) : Ev l E Y d mc ms w0 Po nc ns pc lv stk (A ++ R) := by
  refine ev_callV (rng 0 A.length) hd hlk kM hM hn (hst.trans ?_) hrv hrc (rng_nd 0 _) (pre_hw hxa) hdc hcat hnc hns (fun r w' h => Nat.le_of_eq (hlen r w' h).1.symm) (fun r w' h => ?_)
  · rw [List.map_congr_left (fun v hm => xrV_pre (List.all_eq_true.mp hA v hm)), List.map_id']
  · obtain ⟨h1, h2, h3⟩ := hlen r w' h
    have h4 : r.map (xrV (rng 0 A.length) (A ++ R).length) = r := by
      cases r with
      | none => rfl
      | some v => exact congrArg some (xrV_pre (List.all_eq_true.mp h3 v List.mem_cons_self))
    rw [h4, xput_blk0 A w' R h1, List.map_congr_left (fun e hm => xr_pre (List.all_eq_true.mp h2 e hm)), List.map_id']
    exact kk r w' h
theorem mod_xek {S S' : SaleN} {X X' : ModN} {K : Option (Nat → Nat)} : (modW 0 S X K).all (xek (modW 0 S' X' K).length) = true := by
  cases K <;> rfl
/-- a call that makes cells: its cells are the caller's, and behind it those that it made -/
theorem ev_callMA {idx n dc b ci N mcC msC : Nat} {fs : List Value} {T : u_T} {As : List Value} {stk : List Value} (hd : decode Y.2.1 pc = .ok (.invokevirtual idx, 3)) (hlk : (.methodLink Y.1.cls idx Yc.1 : Cond) ∈ tbl) (kM : XMv Yc n) (hM : MetE l E Yc dc mcC msC (.ref b :: As) w Pc) (hn : As.length = n) (hst : stk = (Value.ref b :: As).reverse ++ st) (hrv : w[b]? = some (.inr (ci, fs))) (hrc : vwCl[ci]? = some (Yc.1.cls, T, N)) (hlv : lv.all (fun q => xvk w.length q.2) = true) (hsv : st.all (xvk w.length) = true) (hlw : w0.length ≤ w.length) (hdc : dc + 1 ≤ d) (hcat : (st.map fun v => v.category).sum ≤ 8) (h0 : 0 < mc) (hnc : nc + mcC ≤ mc) (hns : ns + msC ≤ ms)
    (kk : ∀ r w', Pc r w' → Ev l E Y d mc ms w0 Po (nc + mcC) (ns + msC) (pc + 3) lv (r.toList ++ st) w') : Ev l E Y d mc ms w0 Po nc ns pc lv stk w := by
  intro p e s m args below meth c ad0 ad H locs ls C ha0 ha hP hD hS hl
  obtain ⟨hx, hb, hrt, hml, hown, hts, hlk2, hnm, hK, hXS, hXN⟩ := id C
  have hf : (fun j => ad (xsg (rng 0 w.length) w.length j)) = ad := funext fun j => by rw [xsg_id]
  obtain ⟨hA, at', hpre⟩ := xpre_of hK hXS hXN hP hD hS (rng_nd 0 _) (same_hw w)
  rw [hf] at hA hpre
  obtain ⟨⟨k1, k2, k3, k4⟩, k5, k6⟩ := kM
  subst hst
  have hrx : ∃ cell : Cell, H[ad b]? = some cell ∧ cell.vm.isStatics = false ∧ s.vm.findClass Yc.1.cls = some cell.cls := va_recv (q := (Yc.1.cls, T, N)) hK hP hrc (xW_at hrv)
  have hr : va_Run p l e (xR d mc ms) s m args below meth c H locs nc ns mcC msC (F0 m pc ls (((Value.ref b :: As).reverse ++ st).map (xV E ad))) (st.map (xV E ad)) (xPost E ad w H.size mcC Pc (Value.ref (ad b) :: As.map (xV E ad)).toArray) (xA E ad w H.size) :=
    va_runV (As := As.map (xV E ad)) (rest := st.map (xV E ad)) ⟨hx, hb, hml, hown, hts⟩ (hM ad H.size) (cwV n hts (xin4 hlk k5 k6 k2 ⟨k1, k2, k3, k4⟩) rfl rfl rfl ⟨rfl, k3⟩ ⟨hdc, by show 8 + (Yc.2.2.1 + 11) + 100 * dc ≤ 100 * d; omega⟩) ⟨xblind, hrx, fun U hU hW => ⟨by simp [xV], hpre U hU hW⟩⟩ rfl (by rw [List.length_map]; exact hn) hl.1 (by show List.map (xV E ad) ((Value.ref b :: As).reverse ++ st) = _; rw [List.map_append, List.map_reverse]; simp [xV]) (lv_room (by rw [xCats]; exact hcat)) hd ⟨hnc, hns⟩
  intro T0 hT X
  obtain ⟨v, st₀, t, T', L, h1, X', hL, e1, e2, ⟨⟨ad', r, w', hv, hp, hq0, hq1, hP1, hK1, hD1⟩, hz, hk⟩, st1⟩ := hr T0 hT X
  have hv : v = r.map (xV E ad') := by cases hv; rfl
  subst hv
  rw [h1] at hz hk
  have hS2 : va_S (xA E ad0 w0 s.heap.size) s.heap T'.heap (locs ++ L) := ⟨Nat.le_trans hS.1 (by rw [e1]; exact hz), fun q h2 h3 => by rw [e1, hk q (Nat.lt_of_lt_of_le h2 hS.1) (fun z => h3 (hA q z))]; exact hS.2.1 q h2 h3, fun q hq => by
    rcases List.mem_append.mp hq with h | h
    · exact hS.2.2 q h
    · exact hA _ (hL q h)⟩
  have hkk := kk r w' hp p e s m args below meth c ad0 ad' T'.heap (locs ++ L) ls C (fun z => absurd z (by omega)) (fun j hj => (hq1 j (by omega)).trans (ha j hj)) (by rw [e1]; exact hP1) ⟨hD1.1, fun j q hq => hA _ (hD1.2 j q hq)⟩ hS2 (by rw [xL_new hq1 hlv]; exact hl)
  have hst : ((r.toList ++ st).map (xV E ad')) = (r.map (xV E ad')).toList ++ st.map (xV E ad) := by
    rw [List.map_append, xM_new hq1 hsv]
    congr 1
    cases r with
    | none => rfl
    | some v => rfl
  rw [hst] at hkk
  obtain ⟨t2, a1, b1⟩ := hkk T' rfl X'
  exact ⟨t2, st1 t2 a1, b1⟩
end EVK

