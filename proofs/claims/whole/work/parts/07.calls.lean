/-! ===== calls: the callee's cells are some of the caller's, by their places ===== -/
/-- where a callee's place is among the caller's: 'is' the places that it was given, n the caller's cells -/
def xsg (is : List Nat) (n : Nat) (j : Nat) : Nat := match is[j]? with
  | some i => i
  | none => n + (j - is.length)
def xrV (is : List Nat) (n : Nat) : Value → Value
  | .ref a => .ref (xsg is n a)
  | v => v
def xr (is : List Nat) (n : Nat) : va_E → va_E
  | .inl x => .inl x
  | .inr (ci, fs) => .inr (ci, fs.map (xrV is n))
/-- the caller's cells behind the call -/
def xput (is0 : List Nat) (n : Nat) : AW → List Nat → AW → AW
  | w, i :: is, e :: w' => xput is0 n (w.set i (xr is0 n e)) is w'
  | w, _, _ => w
theorem xV_r {E : XE} {ad : Nat → Nat} {is : List Nat} {n : Nat} (v : Value) : xV E ad (xrV is n v) = xV E (fun j => ad (xsg is n j)) v := by cases v <;> rfl
theorem xE_r {E : XE} {ad : Nat → Nat} {is : List Nat} {n : Nat} (e : va_E) : xE E ad (xr is n e) = xE E (fun j => ad (xsg is n j)) e := by
  rcases e with ⟨k, x⟩ | ⟨ci, fs⟩
  · obtain ⟨m, f | x⟩ := x <;> rfl
  · show Sum.inr _ = Sum.inr _
    rw [List.map_map]
    congr 2
    apply List.map_congr_left
    intro v _
    exact xV_r v
theorem xput_len {is0 : List Nat} {n : Nat} : ∀ (is : List Nat) (w w' : AW), (xput is0 n w is w').length = w.length
  | [], w, w' => by cases w' <;> rfl
  | i :: is, w, [] => rfl
  | i :: is, w, e :: w' => by
    show (xput is0 n (w.set i (xr is0 n e)) is w').length = w.length
    rw [xput_len is, List.length_set]
theorem xput_out {is0 : List Nat} {n k : Nat} : ∀ (is : List Nat) (w w' : AW), k ∉ is → (xput is0 n w is w')[k]? = w[k]?
  | [], w, w', _ => by cases w' <;> rfl
  | i :: is, w, [], _ => rfl
  | i :: is, w, e :: w', h => by
    show (xput is0 n (w.set i (xr is0 n e)) is w')[k]? = w[k]?
    rw [xput_out is _ _ (fun q => h (List.mem_cons_of_mem _ q)), List.getElem?_set_ne (fun q => h (by rw [q]; exact List.mem_cons_self))]
theorem xput_at {is0 : List Nat} {n k : Nat} : ∀ (is : List Nat) (w w' : AW) (j : Nat) (e : va_E), va_nd is = true → is[j]? = some k → k < w.length → w'[j]? = some e → (xput is0 n w is w')[k]? = some (xr is0 n e)
  | [], w, w', j, e, _, h, _, _ => by simp at h
  | i :: is, w, [], j, e, _, _, _, h => by simp at h
  | i :: is, w, e0 :: w', 0, e, hn, h, hk, he => by
    rw [List.getElem?_cons_zero] at h he
    have h1 : i = k := Option.some.inj h
    have h2 : e0 = e := Option.some.inj he
    subst h1
    subst h2
    simp only [va_nd, Bool.and_eq_true, decide_eq_true_eq] at hn
    show (xput is0 n (w.set i (xr is0 n e0)) is w')[i]? = _
    rw [xput_out is _ _ hn.1, List.getElem?_set_self hk]
  | i :: is, w, e0 :: w', j + 1, e, hn, h, hk, he => by
    rw [List.getElem?_cons_succ] at h he
    simp only [va_nd, Bool.and_eq_true, decide_eq_true_eq] at hn
    show (xput is0 n (w.set i (xr is0 n e0)) is w')[k]? = _
    exact xput_at is _ w' j e hn.2 h (by rw [List.length_set]; exact hk) he
theorem xgood {Y : MI} {ws : List Cond} (h : ∀ w ∈ ws, w ∈ tbl) : GoodIn (xWs Y) ws := fun w hw => ⟨List.mem_cons_of_mem _ (h w hw), good_of_word (tb_good w (h w hw))⟩
/-- what the tables say of a method: its code, its class made ready, how many arguments, small -/
def XM (Y : MI) (n : Nat) : Prop := (.code Y.1 Y.2.1 Y.2.2.1 Y.2.2.2 : Cond) ∈ tbl ∧ (.initialized Y.1.cls : Cond) ∈ tbl ∧ (Y.1.cls ≠ "java/lang/invoke/MethodHandle" ∧ Y.1.cls ≠ "java/lang/invoke/VarHandle" ∧ (parseMethodDescriptor Y.1.desc).map (fun d => d.parameters.length) = some n) ∧ Y.2.2.1 ≤ 80
def XMv (Y : MI) (n : Nat) : Prop := XM Y n ∧ (.instanceMethod Y.1 : Cond) ∈ tbl ∧ (.selects Y.1.cls Y.1 Y.1 : Cond) ∈ tbl
def XMs (Y : MI) (n : Nat) : Prop := XM Y n ∧ (.static Y.1 : Cond) ∈ tbl
def XMi (Y : MI) (n : Nat) : Prop := XM Y n ∧ Y.1.name = "<init>" ∧ (.instanceMethod Y.1 : Cond) ∈ tbl ∧ Y.2.2.2 = none
theorem xin3 {Y Yc : MI} {n : Nat} {a b c : Cond} (ha : a ∈ tbl) (hb : b ∈ tbl) (hc : c ∈ tbl) (h : XM Yc n) : GoodIn (xWs Y) ([a, b, c] ++ xWs Yc) := by
  refine xgood (fun w h1 => ?_)
  rcases List.mem_append.mp h1 with h2 | h2
  · simp only [List.mem_cons, List.not_mem_nil, or_false] at h2
    rcases h2 with rfl | rfl | rfl
    · exact ha
    · exact hb
    · exact hc
  · exact (List.mem_cons.mp h2).elim (fun e => by rw [e]; exact h.1) id
theorem xin4 {Y Yc : MI} {n : Nat} {a b c d : Cond} (ha : a ∈ tbl) (hb : b ∈ tbl) (hc : c ∈ tbl) (hd : d ∈ tbl) (h : XM Yc n) : GoodIn (xWs Y) ([a, b, c, d] ++ xWs Yc) := by
  refine xgood (fun w h1 => ?_)
  rcases List.mem_append.mp h1 with h2 | h2
  · simp only [List.mem_cons, List.not_mem_nil, or_false] at h2
    rcases h2 with rfl | rfl | rfl | rfl
    · exact ha
    · exact hb
    · exact hc
    · exact hd
  · exact (List.mem_cons.mp h2).elim (fun e => by rw [e]; exact h.1) id
theorem xws_in {Y : MI} {n : Nat} (h : XM Y n) : ∀ w ∈ xWs Y, w ∈ tbl := fun w hw => (List.mem_cons.mp hw).elim (fun e => by rw [e]; exact h.1) id
section CALL
variable {l : Launch} {E : XE} {Y Yc : MI} {d mc ms : Nat} {w0 : AW} {Po Pc : Option Value → AW → Prop} {nc ns pc : Nat} {lv : AL} {st : List Value} {w wc : AW}
/-- the callee's start, out of the caller's state -/
theorem xpre_of {s : State} {ad0 ad : Nat → Nat} {H : Heap} {locs : List Loc} {is : List Nat} (hK : va_K E.1 vwCl (xT E) s) (hXS : xS E (xA E ad0 w0 s.heap.size) s) (hXN : xN s) (hP : va_P E.1 vwCl (xW E ad w) H) (hD : va_D (xA E ad0 w0 s.heap.size) (xW E ad w)) (hS : va_S (xA E ad0 w0 s.heap.size) s.heap H locs) (hnd : va_nd is = true) (hw : is.map (fun i => w[i]?) = wc.map (fun e => some (xr is w.length e))) :
    (∀ q, xA E (fun j => ad (xsg is w.length j)) wc H.size q → xA E ad0 w0 s.heap.size q) ∧ (∀ j e, wc[j]? = some e → ∃ i, is[j]? = some i ∧ w[i]? = some (xr is w.length e) ∧ ad i = ad (xsg is w.length j)) ∧ (∀ U : State, U.heap = H → s.WarmedH U.vm → xPre E (fun j => ad (xsg is w.length j)) wc H.size U) := by
  have at' : ∀ j e, wc[j]? = some e → ∃ i, is[j]? = some i ∧ w[i]? = some (xr is w.length e) ∧ ad i = ad (xsg is w.length j) := by
    intro j e hj
    have h1 : (is.map (fun i => w[i]?))[j]? = some (some (xr is w.length e)) := by rw [hw, List.getElem?_map, hj]; rfl
    rw [List.getElem?_map] at h1
    cases hi : is[j]? with
    | none => rw [hi] at h1; cases h1
    | some i =>
      rw [hi] at h1
      refine ⟨i, rfl, Option.some.inj h1, ?_⟩
      unfold xsg
      rw [hi]
  have hsub : ∀ (j : Nat) (q : Nat × va_E), (xW E (fun j => ad (xsg is w.length j)) wc)[j]? = some q → ∃ i, is[j]? = some i ∧ (xW E ad w)[i]? = some q := by
    intro j q hq
    obtain ⟨e, h1, rfl⟩ := xW_inv hq
    obtain ⟨i, h2, h3, h4⟩ := at' j e h1
    exact ⟨i, h2, by rw [xW_at h3, h4, xE_r]⟩
  have hA : ∀ q, xA E (fun j => ad (xsg is w.length j)) wc H.size q → xA E ad0 w0 s.heap.size q := by
    intro q h
    rcases h with ⟨j, e, h⟩ | h
    · obtain ⟨i, -, h2⟩ := hsub j (q, e) h
      exact hD.2 i (q, e) h2
    · exact Or.inr (Nat.le_trans hS.1 h)
  refine ⟨hA, at', fun U hU hW => ⟨by rw [hU], ?_, hK.moved hW.alike, ⟨fun i j p q hi hj hpq => ?_, fun _ _ _ => trivial⟩, hXS.into hW (by rw [hU]; exact hS) hA, hXN.warm hW⟩⟩
  · rw [hU]
    intro j q hq
    obtain ⟨i, -, h2⟩ := hsub j q hq
    exact hP i q h2
  · obtain ⟨a, h1, h2⟩ := hsub i p hi
    obtain ⟨b, h3, h4⟩ := hsub j q hj
    have hab := hD.1 a b p q h2 h4 hpq
    subst hab
    exact va_nd_inj is hnd i j a h1 h3
theorem xblind {ad : Nat → Nat} {av : List Value} {sz : Nat} : FrameBlind (va_Pc av (xPre E ad w sz)) := by
  intro a U g mk q
  obtain ⟨q0, q1, q2, q3, q4, q5, q6⟩ := q
  exact ⟨q0, q1, q2, va_K.moved (u := U) (U := U.calling g mk a) (Vm.Alike.refl U.vm) q3, q4, q5.same (u := U) (U := U.calling g mk a) rfl rfl, q6.same (u := U) (U := U.calling g mk a) rfl⟩
/-- behind a call that makes no cells -/
theorem xcall0 {p : Program} {e : Env} {s : State} {m : MethodId} {args a : Array Value} {below : List Frame} {meth : Method} {c : Code} {ad0 ad : Nat → Nat} {H : Heap} {locs : List Loc} {ls : Array Slot} {is : List Nat} {st0 : List Value} (C : XC E Y w0 p s m args meth c ad0) (ha0 : mc = 0 → ad = ad0) (ha : ∀ k, k < w0.length → ad k = ad0 k) (hP : va_P E.1 vwCl (xW E ad w) H) (hD : va_D (xA E ad0 w0 s.heap.size) (xW E ad w)) (hS : va_S (xA E ad0 w0 s.heap.size) s.heap H locs) (hl : lv_has ls Y.2.2.1 (xL E ad lv))
    (hnd : va_nd is = true) (hw : is.map (fun i => w[i]?) = wc.map (fun e => some (xr is w.length e)))
    (hr : va_Run p l e (xR d mc ms) s m args below meth c H locs nc ns 0 0 (F0 m pc ls st0) (st.map (xV E ad)) (xPost E (fun j => ad (xsg is w.length j)) wc H.size 0 Pc a) (xA E (fun j => ad (xsg is w.length j)) wc H.size)) (hlen : ∀ r w', Pc r w' → wc.length ≤ w'.length)
    (kk : ∀ r w', Pc r w' → Ev l E Y d mc ms w0 Po nc ns (pc + 3) lv ((r.map (xrV is w.length)).toList ++ st) (xput is w.length w is w')) :
    W p l e (xR d mc ms) s m args below meth c H locs nc ns (MQ below (xPost E ad0 w0 s.heap.size mc Po) args s mc ms (xA E ad0 w0 s.heap.size)) (F0 m pc ls st0) := by
  obtain ⟨hx, hb, hrt, hml, hown, hts, hlk, hnm, hK, hXS, hXN⟩ := id C
  obtain ⟨hA, at', -⟩ := xpre_of hK hXS hXN hP hD hS hnd hw
  intro T hT X
  obtain ⟨v, st₀, t, T', L, h0, X', hL, e1, e2, ⟨⟨ad', r, w', hv, hp, hq0, hq1, hP1, hK1, hD1⟩, hz, hk⟩, st1⟩ := hr T hT X
  have hv : v = r.map (xV E ad') := by cases hv; rfl
  subst hv
  rw [h0] at hz hk
  have had := hq0 rfl
  subst had
  have hwl : is.length = wc.length := by
    have h := congrArg List.length hw
    rw [List.length_map, List.length_map] at h
    exact h
  have hin : ∀ (k : Nat) (e' : va_E), (xput is w.length w is w')[k]? = some e' → (k ∈ is ∧ ∃ j e2, is[j]? = some k ∧ w'[j]? = some e2 ∧ e' = xr is w.length e2 ∧ ad k = ad (xsg is w.length j)) ∨ (k ∉ is ∧ w[k]? = some e') := by
    intro k e' hk'
    by_cases hki : k ∈ is
    · left
      obtain ⟨j, hj⟩ := List.getElem?_of_mem hki
      have hjl : j < is.length := (List.getElem?_eq_some_iff.mp hj).1
      have hjw : j < w'.length := Nat.lt_of_lt_of_le (by omega) (hlen r w' hp)
      have hkl : k < w.length := by
        obtain ⟨i, h2, h3, -⟩ := at' j wc[j] (List.getElem?_eq_getElem (by omega))
        rw [hj] at h2
        cases h2
        exact (List.getElem?_eq_some_iff.mp h3).1
      refine ⟨hki, j, w'[j], hj, List.getElem?_eq_getElem hjw, ?_, ?_⟩
      · have h := xput_at (is0 := is) (n := w.length) is w w' j w'[j] hnd hj hkl (List.getElem?_eq_getElem hjw)
        rw [hk'] at h
        exact Option.some.inj h
      · unfold xsg
        rw [hj]
    · right
      rw [xput_out is w w' hki] at hk'
      exact ⟨hki, hk'⟩
  have hP2 : va_P E.1 vwCl (xW E ad (xput is w.length w is w')) T'.heap := by
    intro k q hq
    obtain ⟨e', h1, rfl⟩ := xW_inv hq
    rcases hin k e' h1 with ⟨-, j, e2', h2, h3, rfl, h4⟩ | ⟨h2, h3⟩
    · have h := hP1 j _ (xW_at h3)
      rw [e1, h4, xE_r]
      exact h
    · have h := hP k _ (xW_at h3)
      refine h.kept ?_
      rw [e1]
      refine hk _ h.lt (fun hz2 => ?_)
      rcases hz2 with ⟨j, e3, h5⟩ | h5
      · obtain ⟨e4, h6, h7⟩ := xW_inv h5
        obtain ⟨i, h8, h9, h10⟩ := at' j e4 h6
        have h11 : ad k = ad i := by rw [h10]; exact (Prod.mk.inj h7).1
        have := hD.1 k i _ _ (xW_at h3) (xW_at h9) h11
        subst this
        exact h2 (List.mem_of_getElem? h8)
      · exact absurd h.lt (Nat.not_lt.mpr h5)
  have hD2 : va_D (xA E ad0 w0 s.heap.size) (xW E ad (xput is w.length w is w')) := by
    have hex : ∀ (k : Nat) (q : Nat × va_E), (xW E ad (xput is w.length w is w'))[k]? = some q → ∃ q0, (xW E ad w)[k]? = some q0 ∧ q0.1 = q.1 := by
      intro k q hq
      obtain ⟨e', h1, rfl⟩ := xW_inv hq
      have hkl := (List.getElem?_eq_some_iff.mp h1).1
      rw [xput_len] at hkl
      exact ⟨_, xW_at (List.getElem?_eq_getElem hkl), rfl⟩
    refine ⟨fun i j p q hi hj hpq => ?_, fun k q hq => ?_⟩
    · obtain ⟨p0, h1, h2⟩ := hex i p hi
      obtain ⟨q0, h3, h4⟩ := hex j q hj
      exact hD.1 i j p0 q0 h1 h3 (h2.trans (hpq.trans h4.symm))
    · obtain ⟨q0, h1, h2⟩ := hex k q hq
      rw [← h2]
      exact hD.2 k q0 h1
  have hS2 : va_S (xA E ad0 w0 s.heap.size) s.heap T'.heap (locs ++ L) := ⟨Nat.le_trans hS.1 (by rw [e1]; exact hz), fun q h1 h2 => by rw [e1, hk q (Nat.lt_of_lt_of_le h1 hS.1) (fun z => h2 (hA q z))]; exact hS.2.1 q h1 h2, fun q hq => by
    rcases List.mem_append.mp hq with h | h
    · exact hS.2.2 q h
    · exact hA _ (hL q h)⟩
  have hst : (((r.map (xrV is w.length)).toList ++ st).map (xV E ad)) = (r.map (xV E fun j => ad (xsg is w.length j))).toList ++ st.map (xV E ad) := by
    rw [List.map_append]
    congr 1
    cases r with
    | none => rfl
    | some v => show [xV E ad (xrV is w.length v)] = [_]; rw [xV_r]
  have hkk := kk r w' hp p e s m args below meth c ad0 ad T'.heap (locs ++ L) ls C ha0 ha hP2 hD2 hS2 hl
  rw [hst] at hkk
  obtain ⟨t2, a1, b1⟩ := hkk T' rfl X'
  exact ⟨t2, st1 t2 a1, b1⟩

theorem ev_callV {idx n dc b ci N : Nat} {fs : List Value} {T : u_T} {As : List Value} {stk : List Value} (is : List Nat) (hd : decode Y.2.1 pc = .ok (.invokevirtual idx, 3)) (hlk : (.methodLink Y.1.cls idx Yc.1 : Cond) ∈ tbl) (kM : XMv Yc n) (hM : MetE l E Yc dc 0 0 (.ref b :: As) wc Pc) (hn : As.length = n) (hst : stk = ((Value.ref b :: As).map (xrV is w.length)).reverse ++ st) (hrv : wc[b]? = some (.inr (ci, fs))) (hrc : vwCl[ci]? = some (Yc.1.cls, T, N)) (hnd : va_nd is = true) (hw : is.map (fun i => w[i]?) = wc.map (fun e => some (xr is w.length e))) (hdc : dc + 1 ≤ d) (hcat : (st.map fun v => v.category).sum ≤ 8) (hnc : nc ≤ mc) (hns : ns ≤ ms) (hlen : ∀ r w', Pc r w' → wc.length ≤ w'.length)
    (kk : ∀ r w', Pc r w' → Ev l E Y d mc ms w0 Po nc ns (pc + 3) lv ((r.map (xrV is w.length)).toList ++ st) (xput is w.length w is w')) : Ev l E Y d mc ms w0 Po nc ns pc lv stk w := by
  intro p e s m args below meth c ad0 ad H locs ls C ha0 ha hP hD hS hl
  obtain ⟨hx, hb, hrt, hml, hown, hts, hlk2, hnm, hK, hXS, hXN⟩ := id C
  obtain ⟨hA, at', hpre⟩ := xpre_of hK hXS hXN hP hD hS hnd hw
  obtain ⟨⟨k1, k2, k3, k4⟩, k5, k6⟩ := kM
  subst hst
  refine xcall0 (a := (Value.ref (ad (xsg is w.length b)) :: As.map (xV E fun j => ad (xsg is w.length j))).toArray) C ha0 ha hP hD hS hl hnd hw ?_ hlen kk
  have hrx : ∃ cell : Cell, H[ad (xsg is w.length b)]? = some cell ∧ cell.vm.isStatics = false ∧ s.vm.findClass Yc.1.cls = some cell.cls := by
    obtain ⟨i, h1, h2, h3⟩ := at' b _ hrv
    rw [← h3]
    exact va_recv (q := (Yc.1.cls, T, N)) hK hP hrc (xW_at h2)
  exact va_runV (As := (As.map (xV E fun j => ad (xsg is w.length j)))) (rest := st.map (xV E ad)) ⟨hx, hb, hml, hown, hts⟩ (hM (fun j => ad (xsg is w.length j)) H.size) (cwV n hts (xin4 hlk k5 k6 k2 ⟨k1, k2, k3, k4⟩) rfl rfl rfl ⟨rfl, k3⟩ ⟨hdc, by show 8 + (Yc.2.2.1 + 11) + 100 * dc ≤ 100 * d; omega⟩) ⟨xblind, hrx, fun U hU hW => ⟨by simp [xV], hpre U hU hW⟩⟩ rfl (by rw [List.length_map]; exact hn) hl.1 (by show List.map (xV E ad) (((Value.ref b :: As).map (xrV is w.length)).reverse ++ st) = _; rw [List.map_append, List.map_reverse, List.map_map, show (xV E ad ∘ xrV is w.length) = xV E (fun j => ad (xsg is w.length j)) from funext fun v => xV_r v]; simp [xV]) (lv_room (by rw [xCats]; exact hcat)) hd ⟨hnc, hns⟩
theorem ev_callS {idx n dc : Nat} {As : List Value} {stk : List Value} (is : List Nat) (hd : decode Y.2.1 pc = .ok (.invokestatic idx, 3)) (hlk : (.methodLink Y.1.cls idx Yc.1 : Cond) ∈ tbl) (kM : XMs Yc n) (hM : MetE l E Yc dc 0 0 As wc Pc) (hn : As.length = n) (hst : stk = (As.map (xrV is w.length)).reverse ++ st) (hnd : va_nd is = true) (hw : is.map (fun i => w[i]?) = wc.map (fun e => some (xr is w.length e))) (hdc : dc + 1 ≤ d) (hcat : (st.map fun v => v.category).sum ≤ 8) (hnc : nc ≤ mc) (hns : ns ≤ ms) (hlen : ∀ r w', Pc r w' → wc.length ≤ w'.length)
    (kk : ∀ r w', Pc r w' → Ev l E Y d mc ms w0 Po nc ns (pc + 3) lv ((r.map (xrV is w.length)).toList ++ st) (xput is w.length w is w')) : Ev l E Y d mc ms w0 Po nc ns pc lv stk w := by
  intro p e s m args below meth c ad0 ad H locs ls C ha0 ha hP hD hS hl
  obtain ⟨hx, hb, hrt, hml, hown, hts, hlk2, hnm, hK, hXS, hXN⟩ := id C
  obtain ⟨hA, at', hpre⟩ := xpre_of hK hXS hXN hP hD hS hnd hw
  obtain ⟨⟨k1, k2, k3, k4⟩, k5⟩ := kM
  subst hst
  refine xcall0 (a := (As.map (xV E fun j => ad (xsg is w.length j))).toArray) C ha0 ha hP hD hS hl hnd hw ?_ hlen kk
  exact va_runS (As := (As.map (xV E fun j => ad (xsg is w.length j)))) (rest := st.map (xV E ad)) ⟨hx, hb, hml, hown, hts⟩ (hM (fun j => ad (xsg is w.length j)) H.size) (va_cwS n hts (xin3 hlk k5 k2 ⟨k1, k2, k3, k4⟩) rfl rfl rfl k3 ⟨hdc, by show 8 + (Yc.2.2.1 + 11) + 100 * dc ≤ 100 * d; omega⟩) ⟨xblind, fun U hU hW => ⟨rfl, hpre U hU hW⟩⟩ rfl (by rw [List.length_map]; exact hn) hl.1 (by show List.map (xV E ad) ((As.map (xrV is w.length)).reverse ++ st) = _; rw [List.map_append, List.map_reverse, List.map_map, show (xV E ad ∘ xrV is w.length) = xV E (fun j => ad (xsg is w.length j)) from funext fun v => xV_r v]) (lv_room (by rw [xCats]; exact hcat)) hd ⟨hnc, hns⟩
theorem ev_callVN {host : String} {idx n dc b ci N : Nat} {fs : List Value} {T : u_T} {As : List Value} {stk : List Value} (is : List Nat) (hd : decode Y.2.1 pc = .ok (.invokevirtual idx, 3)) (hlk : (.methodLinkNest Y.1.cls idx Yc.1 host : Cond) ∈ tbn) (kM : XMv Yc n) (hM : MetE l E Yc dc 0 0 (.ref b :: As) wc Pc) (hn : As.length = n) (hst : stk = ((Value.ref b :: As).map (xrV is w.length)).reverse ++ st) (hrv : wc[b]? = some (.inr (ci, fs))) (hrc : vwCl[ci]? = some (Yc.1.cls, T, N)) (hnd : va_nd is = true) (hw : is.map (fun i => w[i]?) = wc.map (fun e => some (xr is w.length e))) (hdc : dc + 1 ≤ d) (hcat : (st.map fun v => v.category).sum ≤ 8) (hnc : nc ≤ mc) (hns : ns ≤ ms) (hlen : ∀ r w', Pc r w' → wc.length ≤ w'.length)
    (kk : ∀ r w', Pc r w' → Ev l E Y d mc ms w0 Po nc ns (pc + 3) lv ((r.map (xrV is w.length)).toList ++ st) (xput is w.length w is w')) : Ev l E Y d mc ms w0 Po nc ns pc lv stk w := by
  intro p e s m args below meth c ad0 ad H locs ls C ha0 ha hP hD hS hl
  obtain ⟨hx, hb, hrt, hml, hown, hts, hlk2, hnm, hK, hXS, hXN⟩ := id C
  obtain ⟨hA, at', hpre⟩ := xpre_of hK hXS hXN hP hD hS hnd hw
  obtain ⟨⟨k1, k2, k3, k4⟩, k5, k6⟩ := kM
  subst hst
  refine xcall0 (a := (Value.ref (ad (xsg is w.length b)) :: As.map (xV E fun j => ad (xsg is w.length j))).toArray) C ha0 ha hP hD hS hl hnd hw ?_ hlen kk
  have hrx : ∃ cell : Cell, H[ad (xsg is w.length b)]? = some cell ∧ cell.vm.isStatics = false ∧ s.vm.findClass Yc.1.cls = some cell.cls := by
    obtain ⟨i, h1, h2, h3⟩ := at' b _ hrv
    rw [← h3]
    exact va_recv (q := (Yc.1.cls, T, N)) hK hP hrc (xW_at h2)
  exact va_runVN (As := (As.map (xV E fun j => ad (xsg is w.length j)))) (rest := st.map (xV E ad)) ⟨hx, hb, hml, hown, hts⟩ (hM (fun j => ad (xsg is w.length j)) H.size) ⟨va_cnB n hts (xgood (xws_in ⟨k1, k2, k3, k4⟩)) rfl rfl rfl (hXN _ hlk) (hts _ (List.mem_cons_of_mem _ k2)) k3 ⟨hdc, by show 8 + (Yc.2.2.1 + 11) + 100 * dc ≤ 100 * d; omega⟩, hts _ (List.mem_cons_of_mem _ k5), hts _ (List.mem_cons_of_mem _ k6)⟩ ⟨xblind, hrx, fun U hU hW => ⟨by simp [xV], hpre U hU hW⟩⟩ rfl (by rw [List.length_map]; exact hn) hl.1 (by show List.map (xV E ad) (((Value.ref b :: As).map (xrV is w.length)).reverse ++ st) = _; rw [List.map_append, List.map_reverse, List.map_map, show (xV E ad ∘ xrV is w.length) = xV E (fun j => ad (xsg is w.length j)) from funext fun v => xV_r v]; simp [xV]) (lv_room (by rw [xCats]; exact hcat)) hd ⟨hnc, hns⟩
theorem ev_callSN {host : String} {idx n dc : Nat} {As : List Value} {stk : List Value} (is : List Nat) (hd : decode Y.2.1 pc = .ok (.invokestatic idx, 3)) (hlk : (.methodLinkNest Y.1.cls idx Yc.1 host : Cond) ∈ tbn) (kM : XMs Yc n) (hM : MetE l E Yc dc 0 0 As wc Pc) (hn : As.length = n) (hst : stk = (As.map (xrV is w.length)).reverse ++ st) (hnd : va_nd is = true) (hw : is.map (fun i => w[i]?) = wc.map (fun e => some (xr is w.length e))) (hdc : dc + 1 ≤ d) (hcat : (st.map fun v => v.category).sum ≤ 8) (hnc : nc ≤ mc) (hns : ns ≤ ms) (hlen : ∀ r w', Pc r w' → wc.length ≤ w'.length)
    (kk : ∀ r w', Pc r w' → Ev l E Y d mc ms w0 Po nc ns (pc + 3) lv ((r.map (xrV is w.length)).toList ++ st) (xput is w.length w is w')) : Ev l E Y d mc ms w0 Po nc ns pc lv stk w := by
  intro p e s m args below meth c ad0 ad H locs ls C ha0 ha hP hD hS hl
  obtain ⟨hx, hb, hrt, hml, hown, hts, hlk2, hnm, hK, hXS, hXN⟩ := id C
  obtain ⟨hA, at', hpre⟩ := xpre_of hK hXS hXN hP hD hS hnd hw
  obtain ⟨⟨k1, k2, k3, k4⟩, k5⟩ := kM
  subst hst
  refine xcall0 (a := (As.map (xV E fun j => ad (xsg is w.length j))).toArray) C ha0 ha hP hD hS hl hnd hw ?_ hlen kk
  exact va_runSN (As := (As.map (xV E fun j => ad (xsg is w.length j)))) (rest := st.map (xV E ad)) ⟨hx, hb, hml, hown, hts⟩ (hM (fun j => ad (xsg is w.length j)) H.size) ⟨va_cnB n hts (xgood (xws_in ⟨k1, k2, k3, k4⟩)) rfl rfl rfl (hXN _ hlk) (hts _ (List.mem_cons_of_mem _ k2)) k3 ⟨hdc, by show 8 + (Yc.2.2.1 + 11) + 100 * dc ≤ 100 * d; omega⟩, hts _ (List.mem_cons_of_mem _ k5), trivial⟩ ⟨xblind, fun U hU hW => ⟨rfl, hpre U hU hW⟩⟩ rfl (by rw [List.length_map]; exact hn) hl.1 (by show List.map (xV E ad) ((As.map (xrV is w.length)).reverse ++ st) = _; rw [List.map_append, List.map_reverse, List.map_map, show (xV E ad ∘ xrV is w.length) = xV E (fun j => ad (xsg is w.length j)) from funext fun v => xV_r v]) (lv_room (by rw [xCats]; exact hcat)) hd ⟨hnc, hns⟩
end CALL
