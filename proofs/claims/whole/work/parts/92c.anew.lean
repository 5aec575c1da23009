/-! ===== arrays of strings: made, filled, told as full ===== -/
section ANEW
variable {l : Launch} {E : XE} {Y : MI} {d mc ms : Nat} {w0 : AW} {Po : Option Value → AW → Prop} {nc ns pc : Nat} {lv : AL} {st : List Value} {w : AW}
theorem ev_newq {idx n : Nat} (hd : decode Y.2.1 pc = .ok (.anewarray idx, 3)) (hcl : (.classLink Y.1.cls idx "java/lang/String" : Cond) ∈ tbl) (hn : n ≤ 65536) (hlv : lv.all (fun q => xvk w.length q.2) = true) (hst : st.all (xvk w.length) = true) (hwv : w.all (xek w.length) = true) (hlw : w0.length ≤ w.length) (hmc : nc + 1 ≤ mc) (hms : ns + n ≤ ms) (k : Ev l E Y d mc ms w0 Po (nc + 1) (ns + n) (pc + 3) lv (.ref w.length :: st) (w ++ [.inl (3, n, .inl (fun _ => -1))])) : Ev l E Y d mc ms w0 Po nc ns pc lv (.int (nI n) :: st) w := by
  intro p e s m args below meth c ad0 ad H locs ls C ha0 ha hP hD hS hl
  obtain ⟨hx, hb, hrt, hml, hown, hts, hlk2, hnm, hK, hXS, hXN⟩ := id C
  refine va_newq hx hb hown (hts _ (List.mem_cons_of_mem _ hcl)) hXS.1.2.2.2.2.2.1 hK hP hD hS (fun q hq => Or.inr hq) (nI_pos (by omega)) (xto hn) (by omega) hmc hms hd (fun q cA H1 hK1 hP1 hD1 hS1 => ?_)
  have hcA : cA = E.2.2.1 := by
    obtain ⟨kA, comp, h1, h2, h3, h4⟩ := (hK.2 1 (E.2.2.1, .object "java/lang/String") rfl).2
    obtain ⟨kA', comp', g1, g2, g3, g4⟩ := (hK1.2 3 (cA, .object "java/lang/String") rfl).2
    exact Option.some.inj (g4.symm.trans h4)
  subst hcA
  have had : ∀ j, j < w.length → (fun j => if j = w.length then q else ad j) j = ad j := fun j hj => if_neg (by omega)
  have hX : xW E (fun j => if j = w.length then q else ad j) (w ++ [.inl (3, n, .inl (fun _ => -1))]) = xW E ad w ++ [(q, .inl (E.2.2.1, n, .inr (.inr (.inr (.inr (fun _ => none))))))] := by
    rw [xW_push, xW_new had hwv, if_pos rfl]
    rfl
  have hkk := k p e s m args below meth c ad0 _ H1 locs ls C (fun z => absurd z (by omega)) (fun j hj => (had j (by omega)).trans (ha j hj)) (by rw [hX]; exact hP1) (by rw [hX]; exact hD1) hS1 (by rw [xL_new had hlv]; exact hl)
  have e1 : (Value.ref w.length :: st).map (xV E (fun j => if j = w.length then q else ad j)) = .ref q :: st.map (xV E ad) := by
    show xV E _ (.ref w.length) :: st.map _ = _
    rw [xM_new had hst]
    congr 1
    exact congrArg Value.ref (if_pos rfl)
  rw [e1] at hkk
  exact hkk
theorem ev_astq {a i n : Nat} {f : Nat → Int32} {b : UInt32} (hd : decode Y.2.1 pc = .ok (.aastore, 1)) (hw : w[a]? = some (.inl (3, n, .inl f))) (hi : i < n) (hn : n ≤ 65536) (hb10 : b.toNat < 10) (k : Ev l E Y d mc ms w0 Po nc ns (pc + 1) lv st (w.set a (.inl (3, n, .inl (upd f i (nI b.toNat)))))) : Ev l E Y d mc ms w0 Po nc ns pc lv (.float b :: .int (nI i) :: .ref a :: st) w := by
  intro p e s m args below meth c ad0 ad H locs ls C ha0 ha hP hD hS hl
  obtain ⟨hx, hb, hrt, hml, hown, hts, hlk2, hnm, hK, hXS, hXN⟩ := id C
  have hAny : va_Any "java/lang/String" s H (E.2.2.2 b.toNat) := by
    obtain ⟨cell, h1, h2, h3, h4⟩ := (hXS.1.1.1 b.toNat hb10).1
    obtain ⟨kC, hkC, -⟩ := Vm.findClass_spec h3
    exact ⟨cell, (hS.2.1 _ (Array.getElem?_eq_some_iff.mp h1).1 h4).trans h1, h2, ⟨kC, hkC⟩, fun comp h => vb_asgS (C := "java/lang/String") comp cell.cls h h3⟩
  refine va_astqM hx hb hK hP hD hS a 1 (xW_at hw) rfl hAny (xin hi hn) hd (fun H1 locs1 hP1 hD1 hS1 => ?_)
  rw [xto (by omega)] at hP1 hD1
  have hf : va_up (fun j => if f j < 0 then none else some (E.2.2.2 (f j).toNatClampNeg)) i (some (E.2.2.2 b.toNat)) = fun j => if upd f i (nI b.toNat) j < 0 then none else some (E.2.2.2 (upd f i (nI b.toNat) j).toNatClampNeg) := by
    funext j
    unfold va_up upd
    by_cases hj : j = i
    · rw [if_pos hj, if_pos hj, if_neg (nI_pos (by omega)), xto (by omega)]
    · rw [if_neg hj, if_neg hj]
  rw [hf] at hP1 hD1
  have he : (xW E ad w).set a (ad a, Sum.inl (E.2.2.1, n, Sum.inr (Sum.inr (Sum.inr (Sum.inr (fun j => if upd f i (nI b.toNat) j < 0 then none else some (E.2.2.2 (upd f i (nI b.toNat) j).toNatClampNeg))))))) = xW E ad (w.set a (.inl (3, n, .inl (upd f i (nI b.toNat))))) := xW_set (e := .inl (3, n, .inl (upd f i (nI b.toNat))))
  rw [he] at hP1 hD1
  exact k p e s m args below meth c ad0 ad H1 locs1 ls C ha0 ha hP1 hD1 hS1 hl
theorem ev_full {a n : Nat} {f g : Nat → Int32} (hw : w[a]? = some (.inl (3, n, .inl f))) (h : ∀ j, j < n → ¬ f j < 0 ∧ f j = g j) (k : Ev l E Y d mc ms w0 Po nc ns pc lv st (w.set a (.inl (1, n, .inl g)))) : Ev l E Y d mc ms w0 Po nc ns pc lv st w := by
  intro p e s m args below meth c ad0 ad H locs ls C ha0 ha hP hD hS hl
  have hd := hD.set (e := xE E ad (.inl (1, n, .inl g))) (xW_at hw)
  rw [xW_set] at hd
  refine k p e s m args below meth c ad0 ad H locs ls C ha0 ha ?_ hd hS hl
  rw [← xW_set]
  refine hP.set hD (xW_at hw) ?_ (fun _ _ => rfl)
  have h1 := hP a _ (xW_at hw)
  show H[ad a]? = some (vp_cell E.2.2.1 (n, .inr (.inr (.inr (.inr (fun j => some (E.2.2.2 (g j).toNatClampNeg)))))))
  refine (show H[ad a]? = some (vp_cell E.2.2.1 (n, .inr (.inr (.inr (.inr (fun j => if f j < 0 then none else some (E.2.2.2 (f j).toNatClampNeg))))))) from h1).trans ?_
  rw [vp_cell_q, vp_cell_q]
  unfold arrV
  congr 2
  congr 1
  funext j
  obtain ⟨h2, h3⟩ := h j.val j.isLt
  show va_rf (if f j.val < 0 then none else _) = _
  rw [if_neg h2, h3]
end ANEW

