/-! ===== the law: its script, its calls ===== -/
abbrev mL_law : MI := (x, cL_law, 4, some .boolean)
theorem blk_hw0 {Z : AW} : ∀ (X : AW), (rng 0 X.length).map (fun i => (X ++ Z)[i]?) = X.map some := by
  intro X
  apply List.ext_getElem?
  intro i
  rw [List.getElem?_map, List.getElem?_map, rng_get]
  by_cases hi : i < X.length
  · rw [if_pos hi, List.getElem?_eq_getElem hi]
    show some ((X ++ Z)[0 + i]?) = some (some X[i])
    rw [Nat.zero_add, List.getElem?_append_left hi, List.getElem?_eq_getElem hi]
  · rw [if_neg hi, List.getElem?_eq_none (by omega)]
    rfl
theorem blk_hw (A : AW) {X : AW} {is : List Nat} : (is.map (fun i => A.length + i)).map (fun i => (A ++ X)[i]?) = is.map (fun i => X[i]?) := by
  rw [List.map_map]
  refine List.map_congr_left (fun i _ => ?_)
  show (A ++ X)[A.length + i]? = X[i]?
  rw [List.getElem?_append_right (by omega), show A.length + i - A.length = i by omega]
theorem xput_take {is0 : List Nat} {n : Nat} : ∀ (is : List Nat) (w W : AW), xput is0 n w is W = xput is0 n w is (W.take is.length)
  | [], w, W => by
    cases W <;> rfl
  | i :: is, w, [] => rfl
  | i :: is, w, e :: W => xput_take is (w.set i (xr is0 n e)) W
theorem xput_long {is0 : List Nat} {n : Nat} (A X W : AW) (h : X.length ≤ W.length) : xput is0 n (A ++ X) (rng A.length X.length) W ++ (W.drop X.length).map (xr is0 n) = A ++ W.map (xr is0 n) := by
  have h1 := xput_blk (is0 := is0) (n := n) A X [] (W.take X.length) (by rw [List.length_take]; omega)
  rw [List.append_nil, List.append_nil] at h1
  rw [xput_take, rng_len, h1, List.append_assoc, ← List.map_append, List.take_append_drop]
theorem mod_up (S : SaleN) (X : ModN) (K : Option (Nat → Nat)) : modW 49 S X K = (modW 0 S X K).map (xr (rng 49 (modW 0 S X K).length) (49 + (modW 0 S X K).length)) := by
  cases K <;> rfl
theorem mod_up2 (S S' : SaleN) (X X' : ModN) (K K' : Option (Nat → Nat)) (h : K'.isSome = K.isSome ∨ K = none) : (modW 0 S' X' K').map (xr (rng 49 (modW 0 S X K).length) (49 + (modW 0 S X K).length)) = modW 49 S' X' K' := by
  cases K <;> cases K' <;> first | rfl | (exfalso; rcases h with h | h <;> cases h)
theorem mod_49 (S : SaleN) (X : ModN) (K : Option (Nat → Nat)) : (modW 49 S X K).length = (modW 0 S X K).length := by rw [mod_len, mod_len]
section LAWR
variable {l : Launch} {E : XE} {Y Yc : MI} {d mc ms : Nat} {w0 : AW} {Po : Option Value → AW → Prop} {nc ns pc : Nat} {lv : AL} {st : List Value} {w : AW}
theorem ev_llen (hd : decode Y.2.1 pc = .ok (.arraylength, 1)) (k : Ev l E Y d mc ms w0 Po nc ns (pc + 1) lv (.int (nI (E.2.2.2 41)) :: st) w) : Ev l E Y d mc ms w0 Po nc ns pc lv (.float 40 :: st) w := by
  intro p e s m args below meth c ad0 ad H locs ls C ha0 ha hP hD hS hl
  obtain ⟨hx, hb, hrt, hml, hown, hts, hlk2, hnm, hK, hXS, hXN⟩ := id C
  exact va_tlen hx hb hXS.1.2.2.2.2.2.2 hS rfl hd (k p e s m args below meth c ad0 ad H locs ls C ha0 ha hP hD hS hl)
theorem ev_lald {i : Nat} (hd : decode Y.2.1 pc = .ok (.iaload, 1)) (hi : i < E.2.2.2 41) (hL : E.2.2.2 41 ≤ 65536) (k : Ev l E Y d mc ms w0 Po nc ns (pc + 1) lv (.int (nI (E.2.2.2 (1000 + i))) :: st) w) : Ev l E Y d mc ms w0 Po nc ns pc lv (.int (nI i) :: .float 40 :: st) w := by
  intro p e s m args below meth c ad0 ad H locs ls C ha0 ha hP hD hS hl
  obtain ⟨hx, hb, hrt, hml, hown, hts, hlk2, hnm, hK, hXS, hXN⟩ := id C
  refine va_ti hx hb hXS.1.2.2.2.2.2.2 hS (xin hi hL) rfl hd ?_
  rw [xto (by omega)]
  exact k p e s m args below meth c ad0 ad H locs ls C ha0 ha hP hD hS hl
/-- values that are no references -/
def nref : List Value → Prop
  | [] => True
  | .ref _ :: _ => False
  | _ :: vs => nref vs
theorem nref_map {is : List Nat} {n : Nat} : ∀ {vs : List Value}, nref vs → vs.map (xrV is n) = vs
  | [], _ => rfl
  | v :: vs, h => by
    cases v with
    | ref a => exact h.elim
    | _ => exact congrArg (_ :: ·) (nref_map (vs := vs) h)
theorem nref_xvk {n : Nat} : ∀ {vs : List Value}, nref vs → vs.all (xvk n) = true
  | [], _ => rfl
  | v :: vs, h => by
    cases v with
    | ref a => exact h.elim
    | _ => exact nref_xvk (vs := vs) h
variable {T : TopN} {S P U : SaleN} {O : OutN} {B : BillN} {Q : SeaN} {C : ScrN} {R : PrtN} {tl rf : Nat → Nat} {X : ModN} {K : Option (Nat → Nat)}
theorem comp_xek {T' : TopN} {S' P' U' : SaleN} {O' : OutN} {B' : BillN} {Q' : SeaN} {C' : ScrN} {R' : PrtN} {tl' rf' : Nat → Nat} : (compW T' S' P' U' O' B' Q' C' R' tl' rf').all (xek (compW T S P U O B Q C R tl rf).length) = true := by
  rw [comp_len]
  rfl
theorem law_xek : (compW T S P U O B Q C R tl rf ++ modW 49 S X K).all (xek (compW T S P U O B Q C R tl rf ++ modW 49 S X K).length) = true := by
  cases K <;> rfl
/-- the component called -/
theorem ev_lawX {idx n dc : Nat} {stk av : List Value} {v : Value} {T' : TopN} {S' P' : SaleN} {lt' : Nat → Nat} {sz' : Nat} {tl' rf' : Nat → Nat} {Z : AW} (hM : MetE l E Yc dc 0 0 (.ref 0 :: av) (compW T S P U O B Q C R tl rf) (CP T' S' P' lt' sz' tl' rf' (some v))) (hd : decode Y.2.1 pc = .ok (.invokevirtual idx, 3)) (hlk : (.methodLink Y.1.cls idx Yc.1 : Cond) ∈ tbl) (kM : XMv Yc n) (hcl : vwCl[7]? = some (Yc.1.cls, TX6, 12)) (hn : av.length = n) (hav : nref av) (hv : nref [v]) (hst : stk = av.reverse ++ .ref 0 :: st) (hdc : dc + 1 ≤ d) (hcat : (st.map fun v => v.category).sum ≤ 8) (hnc : nc ≤ mc) (hns : ns ≤ ms)
    (kk : ∀ (U : SaleN) (O : OutN) (B : BillN) (Q : SeaN) (C : ScrN) (R : PrtN), Q.fd < 2147483648 → C.lt = lt' → C.sz = sz' → Ev l E Y d mc ms w0 Po nc ns (pc + 3) lv (v :: st) (compW T' S' P' U O B Q C R tl' rf' ++ Z)) : Ev l E Y d mc ms w0 Po nc ns pc lv stk (compW T S P U O B Q C R tl rf ++ Z) := by
  refine ev_callP (st := st) hd hlk kM hM hn (hst.trans ?_) (by rw [List.all_cons, nref_xvk hav]; rfl) comp_xek rfl hcl hdc hcat hnc hns (fun r w' h => ?_) (fun r w' h => ?_)
  · rw [List.reverse_cons, List.append_assoc]
    rfl
  · obtain ⟨rfl, U', O', B', Q', C', R', rfl, h1, h2, h3⟩ := h
    exact ⟨rfl, comp_xek, nref_xvk (vs := [v]) hv⟩
  · obtain ⟨rfl, U', O', B', Q', C', R', rfl, h1, h2, h3⟩ := h
    exact kk U' O' B' Q' C' R' h1 h2 h3
/-- the kept cell of old is left out -/
theorem law_ren {S' : SaleN} {X' : ModN} {kf kg : Nat → Nat} (hmc : 0 < mc) (hlv : lv = lv.map (fun q => (q.1, xrV (rng 0 68 ++ [69]) 70 q.2))) (hst : nref st) (k : Ev l E Y d mc ms [] Po nc ns pc lv st (compW T S P U O B Q C R tl rf ++ modW 49 S' X' (some kg))) : Ev l E Y d mc ms [] Po nc ns pc lv st (compW T S P U O B Q C R tl rf ++ (modV S' X' kf kg).map (xr (rng 49 20) 69)) := by
  have hlen : (compW T S P U O B Q C R tl rf ++ (modV S' X' kf kg).map (xr (rng 49 20) 69)).length = 70 := rfl
  refine ev_ren (rng 0 68 ++ [69]) (by decide +kernel) ?_ (by rw [hlen]; exact hlv) (by rw [nref_map hst]) (fun k hk => absurd hk (Nat.not_lt_zero k)) hmc k
  rw [hlen]
  have e1 : (rng 0 68 ++ [69] : List Nat) = rng 0 (compW T S P U O B Q C R tl rf).length ++ (rng 0 19 ++ [20]).map (fun i => (compW T S P U O B Q C R tl rf).length + i) := by
    rw [comp_len]
    decide +kernel
  have e2 : (compW T S P U O B Q C R tl rf).map (fun e => some (xr (rng 0 68 ++ [69]) 70 e)) = (compW T S P U O B Q C R tl rf).map some := rfl
  have e3 : ((rng 0 19 ++ [20] : List Nat)).map (fun i => ((modV S' X' kf kg).map (xr (rng 49 20) 69))[i]?) = (modW 49 S' X' (some kg)).map (fun e => some (xr (rng 0 68 ++ [69]) 70 e)) := rfl
  conv => lhs; rw [e1]
  rw [List.map_append, blk_hw0, blk_hw, e3, ← e2]
  exact List.map_append.symm
/-- the reference called -/
theorem ev_lawM {idx n dc mcC msC : Nat} {stk av : List Value} {v : Value} {S' : SaleN} {lt' : Nat → Nat} {sz' : Nat} {tl' rf' : Nat → Nat} {tc' : Nat} {K' : Option (Nat → Nat)} {T2 : TopN} {S2 P2 : SaleN} (hM : MetE l E Yc dc mcC msC (.ref 0 :: av) (modW 0 S X K) (MPx K S' lt' sz' tl' tc' rf' K' v)) (hd : decode Y.2.1 pc = .ok (.invokevirtual idx, 3)) (hlk : (.methodLink Y.1.cls idx Yc.1 : Cond) ∈ tbl) (kM : XMv Yc n) (hcl : vwCl[8]? = some (Yc.1.cls, TX7, 31)) (hn : av.length = n) (hav : nref av) (hv : nref (v :: st)) (hst : stk = av.reverse ++ .ref 49 :: st)
    (hlv : lv.all (fun q => xvk 50 q.2) = true) (hlv2 : lv = lv.map (fun q => (q.1, xrV (rng 0 68 ++ [69]) 70 q.2))) (hdc : dc + 1 ≤ d) (hcat : (st.map fun v => v.category).sum ≤ 8) (b1 : mcC ≤ 4) (b2 : msC ≤ 124) (hnc : nc + 4 ≤ mc) (hns : ns + 124 ≤ ms)
    (kk : ∀ X' : ModN, MOK S' X' → X'.lt = lt' → X'.ty = sz' → X'.rr = tl' → X'.rn = tc' → X'.rf = rf' → Ev l E Y d mc ms [] Po (nc + 4) (ns + 124) (pc + 3) lv (v :: st) (compW T2 S2 P2 U O B Q C R tl rf ++ modW 49 S' X' K')) : Ev l E Y d mc ms [] Po nc ns pc lv stk (compW T2 S2 P2 U O B Q C R tl rf ++ modW 49 S X K) := by
  have hAl : (compW T2 S2 P2 U O B Q C R tl rf ++ modW 49 S X K).length = 49 + (modW 0 S X K).length := by rw [List.length_append, mod_49]; rfl
  have hml : 19 ≤ (modW 0 S X K).length := by rw [mod_len]; omega
  have hst0 : nref st := by cases v <;> first | exact hv | exact hv.elim
  have hv0 : nref [v] := by cases v <;> first | trivial | exact hv.elim
  refine ev_callGV (st := st) (rng 49 (modW 0 S X K).length) hd hlk kM hM hn ?_ rfl hcl (rng_nd 49 _) ?_ ?_ (nref_xvk hst0) (by cases K <;> rfl) (Nat.zero_le _) hdc hcat (by omega) (by omega) (by omega) (fun r w' h => ?_) (fun r w' h => ?_)
  · rw [hst, List.map_cons, nref_map hav, List.reverse_cons, List.append_assoc, hAl]
    cases K <;> rfl
  · rw [hAl]
    have h1 : (rng 49 (modW 0 S X K).length : List Nat) = (rng 0 (modW 0 S X K).length).map (fun i => (compW T2 S2 P2 U O B Q C R tl rf).length + i) := by
      rw [comp_len]
      cases K <;> rfl
    conv => lhs; rw [h1]
    rw [blk_hw, ← mod_49 S X K]
    have h2 := blk_hw0 (Z := []) (modW 49 S X K)
    rw [List.append_nil] at h2
    rw [h2, mod_49, mod_up, List.map_map]
    rfl
  · refine List.all_eq_true.mpr (fun q hq => ?_)
    have h1 := List.all_eq_true.mp hlv q hq
    rw [hAl]
    obtain ⟨i, u⟩ := q
    cases u with
    | ref a =>
      have h2 : a < 50 := of_decide_eq_true h1
      exact decide_eq_true (Nat.lt_of_lt_of_le h2 (show 50 ≤ 49 + (modW 0 S X K).length by omega))
    | _ => rfl
  · obtain ⟨rfl, X', h1, h2, h3, h4, h5, h6, ⟨rfl, h7⟩ | ⟨kf, kg, rfl, rfl, rfl⟩⟩ := h
    · rcases h7 with h7 | rfl
      · cases K <;> cases K' <;> first | exact Nat.le_of_ble_eq_true rfl | cases h7
      · cases K' <;> exact Nat.le_of_ble_eq_true rfl
    · exact Nat.le_of_ble_eq_true rfl
  · have hx : (r.map (xrV (rng 49 (modW 0 S X K).length) (compW T2 S2 P2 U O B Q C R tl rf ++ modW 49 S X K).length)).toList = [v] := by
      obtain ⟨rfl, -⟩ := h
      exact nref_map (vs := [v]) hv0
    rw [hx]
    have hlw : (modW 0 S X K).length ≤ w'.length := by
      obtain ⟨-, X', h1, h2, h3, h4, h5, h6, ⟨rfl, h7⟩ | ⟨kf, kg, rfl, rfl, rfl⟩⟩ := h
      · rcases h7 with h7 | rfl
        · cases K <;> cases K' <;> first | exact Nat.le_of_ble_eq_true rfl | cases h7
        · cases K' <;> exact Nat.le_of_ble_eq_true rfl
      · exact Nat.le_of_ble_eq_true rfl
    have hxl := xput_long (is0 := rng 49 (modW 0 S X K).length) (n := 49 + (modW 0 S X K).length) (compW T2 S2 P2 U O B Q C R tl rf) (modW 49 S X K) w' (by rw [mod_49]; exact hlw)
    rw [mod_49, comp_len] at hxl
    rw [hAl, hxl]
    refine ev_more (nc' := nc + 4) (ns' := ns + 124) (by omega) (by omega) ?_
    obtain ⟨-, X', h1, h2, h3, h4, h5, h6, ⟨rfl, h7⟩ | ⟨kf, kg, rfl, rfl, rfl⟩⟩ := h
    · rw [mod_up2 _ _ _ _ _ _ h7]
      exact kk X' h1 h2 h3 h4 h5 h6
    · exact law_ren (by omega) hlv2 hv (kk X' h1 h2 h3 h4 h5 h6)
end LAWR

