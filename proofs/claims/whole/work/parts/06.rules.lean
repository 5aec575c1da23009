/-! ===== branches, arrays, ends ===== -/
section EVR
variable {l : Launch} {E : XE} {Y : MI} {d mc ms : Nat} {w0 : AW} {Po : Option Value → AW → Prop} {nc ns pc : Nat} {lv : AL} {st : List Value} {w : AW}
theorem ev_if_eq {x : Int32} {off : Int} {tgt : Nat} (hd : decode Y.2.1 pc = .ok (.ifCond .eq off, 3)) (ht : (pc : Int) + off = (tgt : Int)) (kt : x = 0 → Ev l E Y d mc ms w0 Po nc ns tgt lv st w) (kf : ¬ x = 0 → Ev l E Y d mc ms w0 Po nc ns (pc + 3) lv st w) : Ev l E Y d mc ms w0 Po nc ns pc lv (.int x :: st) w := by
  intro p e s m args below meth c ad0 ad H locs ls C ha0 ha hP hD hS hl
  exact lv_if_eq C.1 C.2.1 hd ht (fun q => kt q p e s m args below meth c ad0 ad H locs ls C ha0 ha hP hD hS hl) (fun q => kf q p e s m args below meth c ad0 ad H locs ls C ha0 ha hP hD hS hl)
theorem ev_icmp_eq {x y : Int32} {off : Int} {tgt : Nat} (hd : decode Y.2.1 pc = .ok (.if_icmp .eq off, 3)) (ht : (pc : Int) + off = (tgt : Int)) (kt : x = y → Ev l E Y d mc ms w0 Po nc ns tgt lv st w) (kf : ¬ x = y → Ev l E Y d mc ms w0 Po nc ns (pc + 3) lv st w) : Ev l E Y d mc ms w0 Po nc ns pc lv (.int y :: .int x :: st) w := by
  intro p e s m args below meth c ad0 ad H locs ls C ha0 ha hP hD hS hl
  exact lv_icmp_eq C.1 C.2.1 hd ht (fun q => kt q p e s m args below meth c ad0 ad H locs ls C ha0 ha hP hD hS hl) (fun q => kf q p e s m args below meth c ad0 ad H locs ls C ha0 ha hP hD hS hl)
theorem ev_if_ne {x : Int32} {off : Int} {tgt : Nat} (hd : decode Y.2.1 pc = .ok (.ifCond .ne off, 3)) (ht : (pc : Int) + off = (tgt : Int)) (kt : ¬ x = 0 → Ev l E Y d mc ms w0 Po nc ns tgt lv st w) (kf : x = 0 → Ev l E Y d mc ms w0 Po nc ns (pc + 3) lv st w) : Ev l E Y d mc ms w0 Po nc ns pc lv (.int x :: st) w := by
  intro p e s m args below meth c ad0 ad H locs ls C ha0 ha hP hD hS hl
  exact lv_if_ne C.1 C.2.1 hd ht (fun q => kt q p e s m args below meth c ad0 ad H locs ls C ha0 ha hP hD hS hl) (fun q => kf q p e s m args below meth c ad0 ad H locs ls C ha0 ha hP hD hS hl)
theorem ev_icmp_ne {x y : Int32} {off : Int} {tgt : Nat} (hd : decode Y.2.1 pc = .ok (.if_icmp .ne off, 3)) (ht : (pc : Int) + off = (tgt : Int)) (kt : ¬ x = y → Ev l E Y d mc ms w0 Po nc ns tgt lv st w) (kf : x = y → Ev l E Y d mc ms w0 Po nc ns (pc + 3) lv st w) : Ev l E Y d mc ms w0 Po nc ns pc lv (.int y :: .int x :: st) w := by
  intro p e s m args below meth c ad0 ad H locs ls C ha0 ha hP hD hS hl
  exact lv_icmp_ne C.1 C.2.1 hd ht (fun q => kt q p e s m args below meth c ad0 ad H locs ls C ha0 ha hP hD hS hl) (fun q => kf q p e s m args below meth c ad0 ad H locs ls C ha0 ha hP hD hS hl)
theorem ev_if_lt {x : Int32} {off : Int} {tgt : Nat} (hd : decode Y.2.1 pc = .ok (.ifCond .lt off, 3)) (ht : (pc : Int) + off = (tgt : Int)) (kt : x < 0 → Ev l E Y d mc ms w0 Po nc ns tgt lv st w) (kf : ¬ x < 0 → Ev l E Y d mc ms w0 Po nc ns (pc + 3) lv st w) : Ev l E Y d mc ms w0 Po nc ns pc lv (.int x :: st) w := by
  intro p e s m args below meth c ad0 ad H locs ls C ha0 ha hP hD hS hl
  exact lv_if_lt C.1 C.2.1 hd ht (fun q => kt q p e s m args below meth c ad0 ad H locs ls C ha0 ha hP hD hS hl) (fun q => kf q p e s m args below meth c ad0 ad H locs ls C ha0 ha hP hD hS hl)
theorem ev_icmp_lt {x y : Int32} {off : Int} {tgt : Nat} (hd : decode Y.2.1 pc = .ok (.if_icmp .lt off, 3)) (ht : (pc : Int) + off = (tgt : Int)) (kt : x < y → Ev l E Y d mc ms w0 Po nc ns tgt lv st w) (kf : ¬ x < y → Ev l E Y d mc ms w0 Po nc ns (pc + 3) lv st w) : Ev l E Y d mc ms w0 Po nc ns pc lv (.int y :: .int x :: st) w := by
  intro p e s m args below meth c ad0 ad H locs ls C ha0 ha hP hD hS hl
  exact lv_icmp_lt C.1 C.2.1 hd ht (fun q => kt q p e s m args below meth c ad0 ad H locs ls C ha0 ha hP hD hS hl) (fun q => kf q p e s m args below meth c ad0 ad H locs ls C ha0 ha hP hD hS hl)
theorem ev_if_ge {x : Int32} {off : Int} {tgt : Nat} (hd : decode Y.2.1 pc = .ok (.ifCond .ge off, 3)) (ht : (pc : Int) + off = (tgt : Int)) (kt : 0 ≤ x → Ev l E Y d mc ms w0 Po nc ns tgt lv st w) (kf : ¬ 0 ≤ x → Ev l E Y d mc ms w0 Po nc ns (pc + 3) lv st w) : Ev l E Y d mc ms w0 Po nc ns pc lv (.int x :: st) w := by
  intro p e s m args below meth c ad0 ad H locs ls C ha0 ha hP hD hS hl
  exact lv_if_ge C.1 C.2.1 hd ht (fun q => kt q p e s m args below meth c ad0 ad H locs ls C ha0 ha hP hD hS hl) (fun q => kf q p e s m args below meth c ad0 ad H locs ls C ha0 ha hP hD hS hl)
theorem ev_icmp_ge {x y : Int32} {off : Int} {tgt : Nat} (hd : decode Y.2.1 pc = .ok (.if_icmp .ge off, 3)) (ht : (pc : Int) + off = (tgt : Int)) (kt : y ≤ x → Ev l E Y d mc ms w0 Po nc ns tgt lv st w) (kf : ¬ y ≤ x → Ev l E Y d mc ms w0 Po nc ns (pc + 3) lv st w) : Ev l E Y d mc ms w0 Po nc ns pc lv (.int y :: .int x :: st) w := by
  intro p e s m args below meth c ad0 ad H locs ls C ha0 ha hP hD hS hl
  exact lv_icmp_ge C.1 C.2.1 hd ht (fun q => kt q p e s m args below meth c ad0 ad H locs ls C ha0 ha hP hD hS hl) (fun q => kf q p e s m args below meth c ad0 ad H locs ls C ha0 ha hP hD hS hl)
theorem ev_if_gt {x : Int32} {off : Int} {tgt : Nat} (hd : decode Y.2.1 pc = .ok (.ifCond .gt off, 3)) (ht : (pc : Int) + off = (tgt : Int)) (kt : 0 < x → Ev l E Y d mc ms w0 Po nc ns tgt lv st w) (kf : ¬ 0 < x → Ev l E Y d mc ms w0 Po nc ns (pc + 3) lv st w) : Ev l E Y d mc ms w0 Po nc ns pc lv (.int x :: st) w := by
  intro p e s m args below meth c ad0 ad H locs ls C ha0 ha hP hD hS hl
  exact lv_if_gt C.1 C.2.1 hd ht (fun q => kt q p e s m args below meth c ad0 ad H locs ls C ha0 ha hP hD hS hl) (fun q => kf q p e s m args below meth c ad0 ad H locs ls C ha0 ha hP hD hS hl)
theorem ev_icmp_gt {x y : Int32} {off : Int} {tgt : Nat} (hd : decode Y.2.1 pc = .ok (.if_icmp .gt off, 3)) (ht : (pc : Int) + off = (tgt : Int)) (kt : y < x → Ev l E Y d mc ms w0 Po nc ns tgt lv st w) (kf : ¬ y < x → Ev l E Y d mc ms w0 Po nc ns (pc + 3) lv st w) : Ev l E Y d mc ms w0 Po nc ns pc lv (.int y :: .int x :: st) w := by
  intro p e s m args below meth c ad0 ad H locs ls C ha0 ha hP hD hS hl
  exact lv_icmp_gt C.1 C.2.1 hd ht (fun q => kt q p e s m args below meth c ad0 ad H locs ls C ha0 ha hP hD hS hl) (fun q => kf q p e s m args below meth c ad0 ad H locs ls C ha0 ha hP hD hS hl)
theorem ev_if_le {x : Int32} {off : Int} {tgt : Nat} (hd : decode Y.2.1 pc = .ok (.ifCond .le off, 3)) (ht : (pc : Int) + off = (tgt : Int)) (kt : x ≤ 0 → Ev l E Y d mc ms w0 Po nc ns tgt lv st w) (kf : ¬ x ≤ 0 → Ev l E Y d mc ms w0 Po nc ns (pc + 3) lv st w) : Ev l E Y d mc ms w0 Po nc ns pc lv (.int x :: st) w := by
  intro p e s m args below meth c ad0 ad H locs ls C ha0 ha hP hD hS hl
  exact lv_if_le C.1 C.2.1 hd ht (fun q => kt q p e s m args below meth c ad0 ad H locs ls C ha0 ha hP hD hS hl) (fun q => kf q p e s m args below meth c ad0 ad H locs ls C ha0 ha hP hD hS hl)
theorem ev_icmp_le {x y : Int32} {off : Int} {tgt : Nat} (hd : decode Y.2.1 pc = .ok (.if_icmp .le off, 3)) (ht : (pc : Int) + off = (tgt : Int)) (kt : x ≤ y → Ev l E Y d mc ms w0 Po nc ns tgt lv st w) (kf : ¬ x ≤ y → Ev l E Y d mc ms w0 Po nc ns (pc + 3) lv st w) : Ev l E Y d mc ms w0 Po nc ns pc lv (.int y :: .int x :: st) w := by
  intro p e s m args below meth c ad0 ad H locs ls C ha0 ha hP hD hS hl
  exact lv_icmp_le C.1 C.2.1 hd ht (fun q => kt q p e s m args below meth c ad0 ad H locs ls C ha0 ha hP hD hS hl) (fun q => kf q p e s m args below meth c ad0 ad H locs ls C ha0 ha hP hD hS hl)
theorem ev_ifnonnull {a : Nat} {off : Int} {tgt : Nat} (hd : decode Y.2.1 pc = .ok (.ifnonnull off, 3)) (ht : (pc : Int) + off = (tgt : Int)) (k : Ev l E Y d mc ms w0 Po nc ns tgt lv st w) : Ev l E Y d mc ms w0 Po nc ns pc lv (.ref a :: st) w := by
  intro p e s m args below meth c ad0 ad H locs ls C ha0 ha hP hD hS hl
  exact lv_ifnonnull C.1 C.2.1 hd ht (k p e s m args below meth c ad0 ad H locs ls C ha0 ha hP hD hS hl)
theorem ev_ifnonnullN {off : Int} (hd : decode Y.2.1 pc = .ok (.ifnonnull off, 3)) (k : Ev l E Y d mc ms w0 Po nc ns (pc + 3) lv st w) : Ev l E Y d mc ms w0 Po nc ns pc lv (.null :: st) w := by
  intro p e s m args below meth c ad0 ad H locs ls C ha0 ha hP hD hS hl
  exact lv_ifnonnullN C.1 C.2.1 hd (k p e s m args below meth c ad0 ad H locs ls C ha0 ha hP hD hS hl)
theorem ev_tableOut {dflt lo hi : Int} {offs : Array Int} {len : Nat} {x : Int32} {tgt : Nat} (hd : decode Y.2.1 pc = .ok (.tableswitch dflt lo hi offs, len)) (h : x.toInt < lo ∨ hi < x.toInt) (ht : (pc : Int) + dflt = (tgt : Int)) (k : Ev l E Y d mc ms w0 Po nc ns tgt lv st w) : Ev l E Y d mc ms w0 Po nc ns pc lv (.int x :: st) w := by
  intro p e s m args below meth c ad0 ad H locs ls C ha0 ha hP hD hS hl
  exact lv_tableOut C.1 C.2.1 hd h ht (k p e s m args below meth c ad0 ad H locs ls C ha0 ha hP hD hS hl)
theorem ev_tableIn {dflt lo hi : Int} {offs : Array Int} {len : Nat} {x : Int32} {off : Int} {tgt : Nat} (hd : decode Y.2.1 pc = .ok (.tableswitch dflt lo hi offs, len)) (h1 : ¬ x.toInt < lo) (h2 : ¬ hi < x.toInt) (ho : offs[(x.toInt - lo).toNat]? = some off) (ht : (pc : Int) + off = (tgt : Int)) (k : Ev l E Y d mc ms w0 Po nc ns tgt lv st w) : Ev l E Y d mc ms w0 Po nc ns pc lv (.int x :: st) w := by
  intro p e s m args below meth c ad0 ad H locs ls C ha0 ha hP hD hS hl
  exact lv_tableIn C.1 C.2.1 hd h1 h2 ho ht (k p e s m args below meth c ad0 ad H locs ls C ha0 ha hP hD hS hl)
theorem ev_lookup {dflt : Int} {ps : Array (Int × Int)} {len : Nat} {x : Int32} {off : Int} {tgt : Nat} (hd : decode Y.2.1 pc = .ok (.lookupswitch dflt ps, len)) (hp : (ps.toList.zip (ps.toList.drop 1)).all (fun (a, next) => a.1 < next.1) = true) (ho : Op.lookupswitch.offset ps.toList dflt x.toInt = off) (ht : (pc : Int) + off = (tgt : Int)) (k : Ev l E Y d mc ms w0 Po nc ns tgt lv st w) : Ev l E Y d mc ms w0 Po nc ns pc lv (.int x :: st) w := by
  intro p e s m args below meth c ad0 ad H locs ls C ha0 ha hP hD hS hl
  exact lv_lookup C.1 C.2.1 hd hp ho ht (k p e s m args below meth c ad0 ad H locs ls C ha0 ha hP hD hS hl)
/-- an index: a number below the length -/
theorem xin {i n : Nat} (h : i < n) (hn : n ≤ 65536) : vp_in (nI i) n := vp_in_nI h (by omega)
theorem xto {i : Nat} (h : i ≤ 65536) : (nI i).toNatClampNeg = i := by
  have h1 : (nI i).toInt = (i : Int) := nI_toInt (by omega)
  rw [Int32.toNatClampNeg, h1]
  exact Int.toNat_natCast i
theorem ev_iald {a i n : Nat} {f : Nat → Int32} (hd : decode Y.2.1 pc = .ok (.iaload, 1)) (hw : w[a]? = some (.inl (0, n, .inl f))) (hi : i < n) (hn : n ≤ 65536) (k : Ev l E Y d mc ms w0 Po nc ns (pc + 1) lv (.int (f i) :: st) w) : Ev l E Y d mc ms w0 Po nc ns pc lv (.int (nI i) :: .ref a :: st) w := by
  intro p e s m args below meth c ad0 ad H locs ls C ha0 ha hP hD hS hl
  obtain ⟨hx, hb, hr, hml, hown, hts, hlk, hnm, hK, hXS, hXN⟩ := id C
  refine va_iald hx hb hK hP a 0 (xW_at hw) rfl (xin hi hn) hd ?_
  rw [xto (by omega)]
  exact k p e s m args below meth c ad0 ad H locs ls C ha0 ha hP hD hS hl
theorem ev_iast {a i n : Nat} {f : Nat → Int32} {x : Int32} (hd : decode Y.2.1 pc = .ok (.iastore, 1)) (hw : w[a]? = some (.inl (0, n, .inl f))) (hi : i < n) (hn : n ≤ 65536) (k : Ev l E Y d mc ms w0 Po nc ns (pc + 1) lv st (w.set a (.inl (0, n, .inl (upd f i x))))) : Ev l E Y d mc ms w0 Po nc ns pc lv (.int x :: .int (nI i) :: .ref a :: st) w := by
  intro p e s m args below meth c ad0 ad H locs ls C ha0 ha hP hD hS hl
  obtain ⟨hx, hb, hr, hml, hown, hts, hlk, hnm, hK, hXS, hXN⟩ := id C
  refine va_iast hx hb hK hP hD hS a 0 (xW_at hw) rfl (xin hi hn) hd (fun H1 locs1 hP1 hD1 hS1 => ?_)
  rw [xto (by omega)] at hP1 hD1
  have he : (xW E ad w).set a (ad a, Sum.inl (E.2.1, n, Sum.inl (upd f i x))) = xW E ad (w.set a (.inl (0, n, .inl (upd f i x)))) := xW_set (e := .inl (0, n, .inl (upd f i x)))
  rw [he] at hP1 hD1
  exact k p e s m args below meth c ad0 ad H1 locs1 ls C ha0 ha hP1 hD1 hS1 hl
/-- a string out of an array of them -/
theorem ev_sald {a i n : Nat} {f : Nat → Int32} {b : UInt32} (hd : decode Y.2.1 pc = .ok (.aaload, 1)) (hw : w[a]? = some (.inl (1, n, .inl f))) (hi : i < n) (hn : n ≤ 65536) (hf : (f i).toNatClampNeg = b.toNat) (k : Ev l E Y d mc ms w0 Po nc ns (pc + 1) lv (.float b :: st) w) : Ev l E Y d mc ms w0 Po nc ns pc lv (.int (nI i) :: .ref a :: st) w := by
  intro p e s m args below meth c ad0 ad H locs ls C ha0 ha hP hD hS hl
  obtain ⟨hx, hb, hr, hml, hown, hts, hlk, hnm, hK, hXS, hXN⟩ := id C
  refine va_aldq hx hb hK hP a 1 (xW_at hw) rfl (xin hi hn) hd ?_
  rw [xto (by omega)]
  have h := k p e s m args below meth c ad0 ad H locs ls C ha0 ha hP hD hS hl
  rw [hf]
  exact h
theorem ev_idiv {x y : Int32} (hd : decode Y.2.1 pc = .ok (.idiv, 1)) (hy : ¬ y = 0) (k : Ev l E Y d mc ms w0 Po nc ns (pc + 1) lv (.int (x / y) :: st) w) : Ev l E Y d mc ms w0 Po nc ns pc lv (.int y :: .int x :: st) w := by
  intro p e s m args below meth c ad0 ad H locs ls C ha0 ha hP hD hS hl
  exact lv_idiv C.1 C.2.1 hd hy (k p e s m args below meth c ad0 ad H locs ls C ha0 ha hP hD hS hl)
theorem ev_irem {x y : Int32} (hd : decode Y.2.1 pc = .ok (.irem, 1)) (hy : ¬ y = 0) (k : Ev l E Y d mc ms w0 Po nc ns (pc + 1) lv (.int (x - x / y * y) :: st) w) : Ev l E Y d mc ms w0 Po nc ns pc lv (.int y :: .int x :: st) w := by
  intro p e s m args below meth c ad0 ad H locs ls C ha0 ha hP hD hS hl
  exact lv_irem C.1 C.2.1 hd hy (k p e s m args below meth c ad0 ad H locs ls C ha0 ha hP hD hS hl)
theorem ev_ldiv {x y : Int64} (hd : decode Y.2.1 pc = .ok (.ldiv, 1)) (hy : ¬ y = 0) (k : Ev l E Y d mc ms w0 Po nc ns (pc + 1) lv (.long (x / y) :: st) w) : Ev l E Y d mc ms w0 Po nc ns pc lv (.long y :: .long x :: st) w := by
  intro p e s m args below meth c ad0 ad H locs ls C ha0 ha hP hD hS hl
  exact lv_ldiv C.1 C.2.1 hd hy (k p e s m args below meth c ad0 ad H locs ls C ha0 ha hP hD hS hl)
theorem ev_lrem {x y : Int64} (hd : decode Y.2.1 pc = .ok (.lrem, 1)) (hy : ¬ y = 0) (k : Ev l E Y d mc ms w0 Po nc ns (pc + 1) lv (.long (x - x / y * y) :: st) w) : Ev l E Y d mc ms w0 Po nc ns pc lv (.long y :: .long x :: st) w := by
  intro p e s m args below meth c ad0 ad H locs ls C ha0 ha hP hD hS hl
  exact lv_lrem C.1 C.2.1 hd hy (k p e s m args below meth c ad0 ad H locs ls C ha0 ha hP hD hS hl)
/-- the same state, written otherwise -/
theorem ev_eq {lv' : AL} {st' : List Value} {w' : AW} (h1 : lv = lv') (h2 : st = st') (h3 : w = w') (k : Ev l E Y d mc ms w0 Po nc ns pc lv' st' w') : Ev l E Y d mc ms w0 Po nc ns pc lv st w := by
  subst h1; subst h2; subst h3; exact k
/-- fewer locals, in any order -/
theorem ev_loc {lv' : AL} (h : ∀ q ∈ lv', xG lv q.1 = some q.2) (k : Ev l E Y d mc ms w0 Po nc ns pc lv' st w) : Ev l E Y d mc ms w0 Po nc ns pc lv st w := by
  intro p e s m args below meth c ad0 ad H locs ls C ha0 ha hP hD hS hl
  refine k p e s m args below meth c ad0 ad H locs ls C ha0 ha hP hD hS ⟨hl.1, hl.2.1, fun q hq => ?_⟩
  obtain ⟨q0, h0, rfl⟩ := List.mem_map.mp hq
  exact xG_at hl (h q0 h0)
/-- the last cells, forgotten -/
theorem ev_drop {w2 : AW} (k : Ev l E Y d mc ms w0 Po nc ns pc lv st w) : Ev l E Y d mc ms w0 Po nc ns pc lv st (w ++ w2) := by
  intro p e s m args below meth c ad0 ad H locs ls C ha0 ha hP hD hS hl
  have hk : ∀ (k : Nat) (q : Nat × va_E), (xW E ad w)[k]? = some q → (xW E ad (w ++ w2))[k]? = some q := by
    intro k q h
    obtain ⟨e0, h1, rfl⟩ := xW_inv h
    exact xW_at (by rw [List.getElem?_append_left (List.getElem?_eq_some_iff.mp h1).1]; exact h1)
  exact k p e s m args below meth c ad0 ad H locs ls C ha0 ha (fun k q h => hP k q (hk k q h)) ⟨fun i j x y hi hj hxy => hD.1 i j x y (hk _ _ hi) (hk _ _ hj) hxy, fun k q h => hD.2 k q (hk _ _ h)⟩ hS hl

theorem ev_iret {v : Int32} (hd : decode Y.2.1 pc = .ok (.ireturn, 1)) (hr : Y.2.2.2 = some .int) (hlen : w0.length ≤ w.length) (hnc : nc ≤ mc) (hns : ns ≤ ms) (hp : Po (some (.int v)) w) : Ev l E Y d mc ms w0 Po nc ns pc lv ([.int v]) w := by
  intro p e s m args below meth c ad0 ad H locs ls C ha0 ha hP hD hS hl
  obtain ⟨hx, hb, hrt, hml, hown, hts, hlk, hnm, hK, hXS, hXN⟩ := id C
  refine W.widen hnc hns ?_
  exact W.iret (v := v) hx hb (hrt.trans hr) (fun t ht hW => ⟨⟨ad, some (.int v), w, rfl, hp, ha0, ha, by rw [ht]; exact hP, va_K.moved hW.alike hK, hD⟩, hS.F ht⟩) hS.2.2 hd hlk

theorem ev_zret {v : Int32} (hd : decode Y.2.1 pc = .ok (.ireturn, 1)) (hr : Y.2.2.2 = some .boolean) (hz : narrow .boolean (.int v) = .int v) (hlen : w0.length ≤ w.length) (hnc : nc ≤ mc) (hns : ns ≤ ms) (hp : Po (some (.int v)) w) : Ev l E Y d mc ms w0 Po nc ns pc lv ([.int v]) w := by
  intro p e s m args below meth c ad0 ad H locs ls C ha0 ha hP hD hS hl
  obtain ⟨hx, hb, hrt, hml, hown, hts, hlk, hnm, hK, hXS, hXN⟩ := id C
  refine W.widen hnc hns ?_
  exact W.zret (v := v) (ty := .boolean) hx hb (hrt.trans hr) hz (fun t ht hW => ⟨⟨ad, some (.int v), w, rfl, hp, ha0, ha, by rw [ht]; exact hP, va_K.moved hW.alike hK, hD⟩, hS.F ht⟩) hS.2.2 hd hlk

theorem ev_lret {v : Int64} (hd : decode Y.2.1 pc = .ok (.lreturn, 1)) (hr : Y.2.2.2 = some .long) (hlen : w0.length ≤ w.length) (hnc : nc ≤ mc) (hns : ns ≤ ms) (hp : Po (some (.long v)) w) : Ev l E Y d mc ms w0 Po nc ns pc lv ([.long v]) w := by
  intro p e s m args below meth c ad0 ad H locs ls C ha0 ha hP hD hS hl
  obtain ⟨hx, hb, hrt, hml, hown, hts, hlk, hnm, hK, hXS, hXN⟩ := id C
  refine W.widen hnc hns ?_
  exact W.lret (v := v) hx hb (hrt.trans hr) (fun t ht hW => ⟨⟨ad, some (.long v), w, rfl, hp, ha0, ha, by rw [ht]; exact hP, va_K.moved hW.alike hK, hD⟩, hS.F ht⟩) hS.2.2 hd hlk

theorem ev_aret {v : Nat} (hd : decode Y.2.1 pc = .ok (.areturn, 1)) (hr : Y.2.2.2 = some (.array .int)) (hlen : w0.length ≤ w.length) (hnc : nc ≤ mc) (hns : ns ≤ ms) (hp : Po (some (.ref v)) w) : Ev l E Y d mc ms w0 Po nc ns pc lv ([.ref v]) w := by
  intro p e s m args below meth c ad0 ad H locs ls C ha0 ha hP hD hS hl
  obtain ⟨hx, hb, hrt, hml, hown, hts, hlk, hnm, hK, hXS, hXN⟩ := id C
  refine W.widen hnc hns ?_
  exact W.aret (v := .ref (ad v)) hx hb (hrt.trans hr) (Or.inr ⟨_, rfl⟩) (Or.inr ⟨_, rfl⟩) (fun t ht hW => ⟨⟨ad, some (.ref v), w, rfl, hp, ha0, ha, by rw [ht]; exact hP, va_K.moved hW.alike hK, hD⟩, hS.F ht⟩) hS.2.2 hd hlk

theorem ev_vret (hd : decode Y.2.1 pc = .ok (.return_, 1)) (hr : Y.2.2.2 = none) (hlen : w0.length ≤ w.length) (hnc : nc ≤ mc) (hns : ns ≤ ms) (hp : Po none w) : Ev l E Y d mc ms w0 Po nc ns pc lv ([]) w := by
  intro p e s m args below meth c ad0 ad H locs ls C ha0 ha hP hD hS hl
  obtain ⟨hx, hb, hrt, hml, hown, hts, hlk, hnm, hK, hXS, hXN⟩ := id C
  refine W.widen hnc hns ?_
  exact W.vret hx hb (hrt.trans hr) (fun t ht hW => ⟨⟨ad, none, w, rfl, hp, ha0, ha, by rw [ht]; exact hP, va_K.moved hW.alike hK, hD⟩, hS.F ht⟩) hS.2.2 hd hlk

end EVR
