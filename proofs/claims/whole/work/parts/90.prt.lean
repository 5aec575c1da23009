/-! ===== a builder among the Model's cells: append, in a form that keeps two cells ===== -/
def SbM (s : SbN) : Prop := s.m = 16 ∨ s.m = 34 ∨ s.m = 70
def ncF (m : Nat) : Nat := if m = 16 then 2 else if m = 34 then 3 else 4
def nsF (m : Nat) : Nat := if m = 16 then 20 else if m = 34 then 54 else 124
theorem ncF_le (m : Nat) : ncF m ≤ 4 := by unfold ncF; split <;> (try split) <;> omega
theorem nsF_le (m : Nat) : nsF m ≤ 124 := by unfold nsF; split <;> (try split) <;> omega
theorem grow_le {s : SbN} (h : SbM s) (hm : s.m < 70) : ncF s.m + 1 ≤ 4 ∧ nsF s.m + (2 * s.m + 2) ≤ 124 ∧ ncF s.m + 1 = ncF (2 * s.m + 2) ∧ nsF s.m + (2 * s.m + 2) = nsF (2 * s.m + 2) ∧ (2 * s.m + 2 = 34 ∨ 2 * s.m + 2 = 70) := by
  rcases h with h | h | h
  · rw [h]; decide
  · rw [h]; decide
  · omega
theorem upd_comm {f : Nat → Int32} {i j : Nat} {x y : Int32} (h : i ≠ j) : upd (upd f i x) j y = upd (upd f j y) i x := by
  funext k
  unfold upd
  by_cases h1 : k = j
  · rw [if_pos h1, if_neg (by omega), if_pos h1]
  · by_cases h2 : k = i
    · rw [if_neg h1, if_pos h2, if_pos h2]
    · rw [if_neg h1, if_neg h2, if_neg h2, if_neg h1]
theorem sbL_put2 {L : List Nat} {s : SbN} {x y : Nat} (h : SbL L s) (hm : s.n + 2 ≤ s.m) (hx : x < 256) (hy : y < 256) : SbL (L ++ [x, y]) ((upd (upd s.f (s.n + 1) (sb_b y)) s.n (sb_b x), s.m, s.n + 2) : SbN) := by
  have h1 := sbL_put (sbL_put h (by omega) hx) (show s.n + 1 < s.m by omega) hy
  rw [List.append_assoc] at h1
  rw [upd_comm (by omega)]
  exact h1
theorem sbL_put3 {L : List Nat} {s : SbN} {x y z : Nat} (h : SbL L s) (hm : s.n + 3 ≤ s.m) (hx : x < 256) (hy : y < 256) (hz : z < 256) : SbL (L ++ [x, y, z]) ((upd (upd (upd s.f (s.n + 2) (sb_b z)) (s.n + 1) (sb_b y)) s.n (sb_b x), s.m, s.n + 3) : SbN) := by
  have h1 := sbL_put (sbL_put2 h (by omega) hx hy) (show s.n + 2 < s.m by omega) hz
  rw [List.append_assoc] at h1
  rw [upd_comm (i := s.n + 2) (by omega), upd_comm (i := s.n + 2) (by omega)]
  exact h1
theorem num_1 {v : Nat} (h : v < 10) : numL v = [48 + v % 10] := by
  unfold numL
  rw [if_neg (by omega), if_neg (by omega)]
  rfl
theorem num_2 {v : Nat} (h : 10 ≤ v ∧ v < 100) : numL v = [48 + v / 10, 48 + v % 10] := by
  unfold numL
  rw [if_neg (by omega), if_pos (by omega), show v / 10 % 10 = v / 10 by omega]
  rfl
theorem num_3 {v : Nat} (h : 100 ≤ v ∧ v < 1000) : numL v = [48 + v / 100 % 10, 48 + v % 100 / 10, 48 + v % 100 % 10] := by
  unfold numL
  rw [if_pos (by omega), if_pos (by omega), show v / 100 % 10 = v / 100 by omega, show v % 100 / 10 = v / 10 % 10 by omega, show v % 100 % 10 = v % 10 by omega]
  rfl
theorem sbL_0 : SbL [] ((fun _ => 0, 16, 0) : SbN) := ⟨rfl, by decide, by show 16 ≤ 4096; omega, sb_fit0, fun j x h => by cases h⟩
/-- a letter of the text that it holds -/
theorem sbL_at {L : List Nat} {s : SbN} {j x : Nat} (h : SbL L s) (hx : L[j]? = some x) : j < s.n ∧ s.n ≤ s.m ∧ s.f j = sb_b x ∧ x < 256 := by
  have h1 := (List.getElem?_eq_some_iff.mp hx).1
  have h2 := h.2.2.2.2 j x hx
  exact ⟨by rw [h.1]; exact h1, by rw [h.1]; exact h.2.1, h2.2, h2.1⟩
theorem rng_len : ∀ (n b : Nat), (rng b n).length = n
  | 0, _ => rfl
  | n + 1, b => by
    show (rng (b + 1) n).length + 1 = n + 1
    rw [rng_len n (b + 1)]
theorem xrV_id2 {n N q : Nat} {v : Value} (h : xvk n v = true) : xrV (rng 0 n ++ [q]) N v = v := by
  cases v <;> first
    | rfl
    | (rename_i a
       have ha : a < n := of_decide_eq_true h
       have e : (rng 0 n ++ [q])[a]? = some a := by
         rw [List.getElem?_append_left (by rw [rng_len]; exact ha), rng_get, if_pos ha]
         show some (0 + a) = some a
         rw [Nat.zero_add]
       show Value.ref (xsg (rng 0 n ++ [q]) N a) = Value.ref a
       unfold xsg
       rw [e])
theorem xrL_id2 {n N q : Nat} {lv : AL} (h : lv.all (fun p => xvk n p.2) = true) : lv = lv.map (fun p => (p.1, xrV (rng 0 n ++ [q]) N p.2)) := by
  have h1 : lv.map (fun p => (p.1, xrV (rng 0 n ++ [q]) N p.2)) = lv.map id := List.map_congr_left (fun p hm => by rw [xrV_id2 (List.all_eq_true.mp h p hm)]; rfl)
  rw [h1, List.map_id]
theorem xrS_id2 {n N q : Nat} {st : List Value} (h : st.all (xvk n) = true) : st = st.map (xrV (rng 0 n ++ [q]) N) := by
  have h1 : st.map (xrV (rng 0 n ++ [q]) N) = st.map id := List.map_congr_left (fun v hm => by rw [xrV_id2 (List.all_eq_true.mp h v hm)]; rfl)
  rw [h1, List.map_id]
theorem xvk_mono {a b : Nat} (h : a ≤ b) {v : Value} (hv : xvk a v = true) : xvk b v = true := by
  cases v <;> first
    | rfl
    | (rename_i q
       have h1 : q < a := of_decide_eq_true hv
       have h2 : q < b := Nat.lt_of_lt_of_le h1 h
       show decide (q < b) = true
       exact decide_eq_true h2)
theorem xvL_mono {a b : Nat} (h : a ≤ b) {lv : AL} (hv : lv.all (fun q => xvk a q.2) = true) : lv.all (fun q => xvk b q.2) = true := List.all_eq_true.mpr (fun q hq => xvk_mono h (List.all_eq_true.mp hv q hq))
theorem xvS_mono {a b : Nat} (h : a ≤ b) {st : List Value} (hv : st.all (xvk a) = true) : st.all (xvk b) = true := List.all_eq_true.mpr (fun q hq => xvk_mono h (List.all_eq_true.mp hv q hq))

section PRTn
variable {l : Launch} {E : XE} {Y : MI} {d : Nat} {w0 : AW} {Po : Option Value → AW → Prop} {pc idx : Nat} {lv : AL} {st : List Value} {S : SaleN} {X : ModN}
/-- behind a growth: the old bytes go -/
theorem ev_gone_n {nc ns nc' ns' : Nat} {o s : SbN} (hlv : lv.all (fun q => xvk 20 q.2) = true) (hsv : st.all (xvk 20) = true) (hlw : w0.length ≤ 19) (h1 : nc ≤ nc') (h2 : ns ≤ ns') (k : Ev l E Y d 4 124 w0 Po nc' ns' pc lv st (modW 0 S X none ++ sbW 19 s)) : Ev l E Y d 4 124 w0 Po nc ns pc lv st (modW 0 S X none ++ sbV 19 o s) := by
  refine ev_more h1 h2 ?_
  refine ev_ren (lv' := lv) (st' := st) (w' := modW 0 S X none ++ sbW 19 s) (rng 0 20 ++ [21]) (by decide) rfl (xrL_id2 hlv) (xrS_id2 hsv) (fun j hj => ?_) (by decide) k
  rw [List.getElem?_append_left (by rw [rng_len]; omega), rng_get, if_pos (by omega), Nat.zero_add]
theorem ev_appC_n {s : SbN} {L : List Nat} {x : Nat} (hd : decode Y.2.1 pc = .ok (.invokevirtual idx, 3)) (hlk : (.methodLink Y.1.cls idx mJ4_append_cf468.1 : Cond) ∈ tbl) (hlv : lv.all (fun q => xvk 20 q.2) = true) (hsv : st.all (xvk 20) = true) (hlw : w0.length ≤ 19) (hd6 : 6 ≤ d) (hcat : (st.map fun v => v.category).sum ≤ 7) (h : SbL L s) (hm : SbM s) (hl : L.length < 70) (hx : x < 256)
    (k : ∀ s', SbL (L ++ [x]) s' → SbM s' → Ev l E Y d 4 124 w0 Po (ncF s'.m) (nsF s'.m) (pc + 3) lv (.ref 19 :: st) (modW 0 S X none ++ sbW 19 s')) : Ev l E Y d 4 124 w0 Po (ncF s.m) (nsF s.m) pc lv (.int (nI x) :: .ref 19 :: st) (modW 0 S X none ++ sbW 19 s) := by
  have h4 := h.2.2.1
  have hn := h.1
  have hlm := h.2.1
  by_cases hf : s.n < s.m
  · refine ev_callV (Yc := mJ4_append_cf468) [19, 20] hd hlk kJ4_append_cf468 (m_J4_appC_n s x hx h4 hf) rfl (st := st) rfl rfl rfl (by decide) rfl (by omega) (by omega) (ncF_le _) (nsF_le _) (fun r w' q => by obtain ⟨-, rfl⟩ := q; exact Nat.le_of_ble_eq_true rfl) ?_
    rintro _ _ ⟨rfl, rfl⟩
    refine ev_eq (lv' := lv) (st' := .ref 19 :: st) (w' := modW 0 S X none ++ sbW 19 ((upd s.f s.n (sb_b x), s.m, s.n + 1) : SbN)) rfl rfl rfl ?_
    exact k _ (sbL_put h hf hx) hm
  · have hg := grow_le hm (by rcases hm with q | q | q <;> omega)
    refine ev_callGV (Yc := mJ4_append_cf468) (st := st) [19, 20] hd hlk kJ4_append_cf468 (m_J4_appC_g s x hx h4 (by omega) h.2.2.2.1) rfl rfl rfl rfl (by decide) rfl (xvL_mono (Nat.le_of_ble_eq_true rfl) hlv) (xvS_mono (Nat.le_of_ble_eq_true rfl) hsv) rfl (by show w0.length ≤ 21; omega) (by omega) (by omega) (by decide) hg.1 hg.2.1 (fun r w' q => by obtain ⟨-, rfl⟩ := q; exact Nat.le_of_ble_eq_true rfl) ?_
    rintro _ _ ⟨rfl, rfl⟩
    refine ev_eq (lv' := lv) (st' := .ref 19 :: st) (w' := modW 0 S X none ++ sbV 19 s ((upd (va_cpy s.f (fun _ => 0) 0 0 s.m) s.n (sb_b x), 2 * s.m + 2, s.n + 1) : SbN)) rfl rfl rfl ?_
    refine ev_gone_n hlv (by show (xvk 20 (.ref 19) && st.all (xvk 20)) = true; rw [hsv]; rfl) hlw (Nat.le_of_eq hg.2.2.1) (Nat.le_of_eq hg.2.2.2.1) ?_
    exact k _ (sbL_put (s := ((va_cpy s.f (fun _ => 0) 0 0 s.m, 2 * s.m + 2, s.n) : SbN)) (sbL_grow h (by omega) (by omega)) (by show s.n < 2 * s.m + 2; omega) hx) (Or.inr hg.2.2.2.2)
theorem ev_appI_n {s : SbN} {L : List Nat} {v : Nat} (hd : decode Y.2.1 pc = .ok (.invokevirtual idx, 3)) (hlk : (.methodLink Y.1.cls idx mJ4_append_bf812.1 : Cond) ∈ tbl) (hlv : lv.all (fun q => xvk 20 q.2) = true) (hsv : st.all (xvk 20) = true) (hlw : w0.length ≤ 19) (hd6 : 6 ≤ d) (hcat : (st.map fun v => v.category).sum ≤ 7) (h : SbL L s) (hm : SbM s) (hl : L.length + 3 ≤ 70) (hx : v < 1000)
    (k : ∀ s', SbL (L ++ numL v) s' → SbM s' → Ev l E Y d 4 124 w0 Po (ncF s'.m) (nsF s'.m) (pc + 3) lv (.ref 19 :: st) (modW 0 S X none ++ sbW 19 s')) : Ev l E Y d 4 124 w0 Po (ncF s.m) (nsF s.m) pc lv (.int (nI v) :: .ref 19 :: st) (modW 0 S X none ++ sbW 19 s) := by
  have h4 := h.2.2.1
  have hn := h.1
  have hlm := h.2.1
  rcases (show v < 10 ∨ (10 ≤ v ∧ v < 100) ∨ (100 ≤ v ∧ v < 1000) from by omega) with hv | hv | hv
  · rw [num_1 hv] at k
    by_cases hf : s.n + 1 ≤ s.m
    · refine ev_callV (Yc := mJ4_append_bf812) [19, 20] hd hlk kJ4_append_bf812 (m_J4_appI1_n s v hv h4 hf) rfl (st := st) rfl rfl rfl (by decide) rfl (by omega) (by omega) (ncF_le _) (nsF_le _) (fun r w' q => by obtain ⟨-, rfl⟩ := q; exact Nat.le_of_ble_eq_true rfl) ?_
      rintro _ _ ⟨rfl, rfl⟩
      refine ev_eq (lv' := lv) (st' := .ref 19 :: st) (w' := modW 0 S X none ++ sbW 19 ((upd (s.f) s.n (sb_b (48 + v % 10)), s.m, s.n + 1) : SbN)) rfl rfl rfl ?_
      exact k _ (sbL_put h (by omega) (by omega)) hm
    · have hg := grow_le hm (by rcases hm with q | q | q <;> omega)
      refine ev_callGV (Yc := mJ4_append_bf812) (st := st) [19, 20] hd hlk kJ4_append_bf812 (m_J4_appI1_g s v hv h4 ⟨by omega, by omega, by omega⟩ h.2.2.2.1) rfl rfl rfl rfl (by decide) rfl (xvL_mono (Nat.le_of_ble_eq_true rfl) hlv) (xvS_mono (Nat.le_of_ble_eq_true rfl) hsv) rfl (by show w0.length ≤ 21; omega) (by omega) (by omega) (by decide) hg.1 hg.2.1 (fun r w' q => by obtain ⟨-, rfl⟩ := q; exact Nat.le_of_ble_eq_true rfl) ?_
      rintro _ _ ⟨rfl, rfl⟩
      refine ev_eq (lv' := lv) (st' := .ref 19 :: st) (w' := modW 0 S X none ++ sbV 19 s ((upd (va_cpy s.f (fun _ => 0) 0 0 s.m) s.n (sb_b (48 + v % 10)), 2 * s.m + 2, s.n + 1) : SbN)) rfl rfl rfl ?_
      refine ev_gone_n hlv (by show (xvk 20 (.ref 19) && st.all (xvk 20)) = true; rw [hsv]; rfl) hlw (Nat.le_of_eq hg.2.2.1) (Nat.le_of_eq hg.2.2.2.1) ?_
      exact k _ (sbL_put (s := ((va_cpy s.f (fun _ => 0) 0 0 s.m, 2 * s.m + 2, s.n) : SbN)) (sbL_grow h (by omega) (by omega)) (by show s.n < 2 * s.m + 2; omega) (by omega)) (Or.inr hg.2.2.2.2)
  · rw [num_2 hv] at k
    by_cases hf : s.n + 2 ≤ s.m
    · refine ev_callV (Yc := mJ4_append_bf812) [19, 20] hd hlk kJ4_append_bf812 (m_J4_appI2_n s v hv h4 hf) rfl (st := st) rfl rfl rfl (by decide) rfl (by omega) (by omega) (ncF_le _) (nsF_le _) (fun r w' q => by obtain ⟨-, rfl⟩ := q; exact Nat.le_of_ble_eq_true rfl) ?_
      rintro _ _ ⟨rfl, rfl⟩
      refine ev_eq (lv' := lv) (st' := .ref 19 :: st) (w' := modW 0 S X none ++ sbW 19 ((upd (upd (s.f) (s.n + 1) (sb_b (48 + v % 10))) s.n (sb_b (48 + v / 10)), s.m, s.n + 2) : SbN)) rfl rfl rfl ?_
      exact k _ (sbL_put2 h (by omega) (by omega) (by omega)) hm
    · have hg := grow_le hm (by rcases hm with q | q | q <;> omega)
      refine ev_callGV (Yc := mJ4_append_bf812) (st := st) [19, 20] hd hlk kJ4_append_bf812 (m_J4_appI2_g s v hv h4 ⟨by omega, by omega, by omega⟩ h.2.2.2.1) rfl rfl rfl rfl (by decide) rfl (xvL_mono (Nat.le_of_ble_eq_true rfl) hlv) (xvS_mono (Nat.le_of_ble_eq_true rfl) hsv) rfl (by show w0.length ≤ 21; omega) (by omega) (by omega) (by decide) hg.1 hg.2.1 (fun r w' q => by obtain ⟨-, rfl⟩ := q; exact Nat.le_of_ble_eq_true rfl) ?_
      rintro _ _ ⟨rfl, rfl⟩
      refine ev_eq (lv' := lv) (st' := .ref 19 :: st) (w' := modW 0 S X none ++ sbV 19 s ((upd (upd (va_cpy s.f (fun _ => 0) 0 0 s.m) (s.n + 1) (sb_b (48 + v % 10))) s.n (sb_b (48 + v / 10)), 2 * s.m + 2, s.n + 2) : SbN)) rfl rfl rfl ?_
      refine ev_gone_n hlv (by show (xvk 20 (.ref 19) && st.all (xvk 20)) = true; rw [hsv]; rfl) hlw (Nat.le_of_eq hg.2.2.1) (Nat.le_of_eq hg.2.2.2.1) ?_
      exact k _ (sbL_put2 (s := ((va_cpy s.f (fun _ => 0) 0 0 s.m, 2 * s.m + 2, s.n) : SbN)) (sbL_grow h (by omega) (by omega)) (by show s.n + 2 ≤ 2 * s.m + 2; omega) (by omega) (by omega)) (Or.inr hg.2.2.2.2)
  · rw [num_3 hv] at k
    by_cases hf : s.n + 3 ≤ s.m
    · refine ev_callV (Yc := mJ4_append_bf812) [19, 20] hd hlk kJ4_append_bf812 (m_J4_appI3_n s v hv h4 hf) rfl (st := st) rfl rfl rfl (by decide) rfl (by omega) (by omega) (ncF_le _) (nsF_le _) (fun r w' q => by obtain ⟨-, rfl⟩ := q; exact Nat.le_of_ble_eq_true rfl) ?_
      rintro _ _ ⟨rfl, rfl⟩
      refine ev_eq (lv' := lv) (st' := .ref 19 :: st) (w' := modW 0 S X none ++ sbW 19 ((upd (upd (upd (s.f) (s.n + 2) (sb_b (48 + v % 100 % 10))) (s.n + 1) (sb_b (48 + v % 100 / 10))) s.n (sb_b (48 + v / 100 % 10)), s.m, s.n + 3) : SbN)) rfl rfl rfl ?_
      exact k _ (sbL_put3 h (by omega) (by omega) (by omega) (by omega)) hm
    · have hg := grow_le hm (by rcases hm with q | q | q <;> omega)
      refine ev_callGV (Yc := mJ4_append_bf812) (st := st) [19, 20] hd hlk kJ4_append_bf812 (m_J4_appI3_g s v hv h4 ⟨by omega, by omega, by omega⟩ h.2.2.2.1) rfl rfl rfl rfl (by decide) rfl (xvL_mono (Nat.le_of_ble_eq_true rfl) hlv) (xvS_mono (Nat.le_of_ble_eq_true rfl) hsv) rfl (by show w0.length ≤ 21; omega) (by omega) (by omega) (by decide) hg.1 hg.2.1 (fun r w' q => by obtain ⟨-, rfl⟩ := q; exact Nat.le_of_ble_eq_true rfl) ?_
      rintro _ _ ⟨rfl, rfl⟩
      refine ev_eq (lv' := lv) (st' := .ref 19 :: st) (w' := modW 0 S X none ++ sbV 19 s ((upd (upd (upd (va_cpy s.f (fun _ => 0) 0 0 s.m) (s.n + 2) (sb_b (48 + v % 100 % 10))) (s.n + 1) (sb_b (48 + v % 100 / 10))) s.n (sb_b (48 + v / 100 % 10)), 2 * s.m + 2, s.n + 3) : SbN)) rfl rfl rfl ?_
      refine ev_gone_n hlv (by show (xvk 20 (.ref 19) && st.all (xvk 20)) = true; rw [hsv]; rfl) hlw (Nat.le_of_eq hg.2.2.1) (Nat.le_of_eq hg.2.2.2.1) ?_
      exact k _ (sbL_put3 (s := ((va_cpy s.f (fun _ => 0) 0 0 s.m, 2 * s.m + 2, s.n) : SbN)) (sbL_grow h (by omega) (by omega)) (by show s.n + 3 ≤ 2 * s.m + 2; omega) (by omega) (by omega) (by omega)) (Or.inr hg.2.2.2.2)
end PRTn

section PRTs
variable {l : Launch} {E : XE} {Y : MI} {d : Nat} {w0 : AW} {Po : Option Value → AW → Prop} {pc idx : Nat} {lv : AL} {st : List Value} {S : SaleN} {X : ModN} {kf : Nat → Nat}
/-- behind a growth: the old bytes go -/
theorem ev_gone_s {nc ns nc' ns' : Nat} {o s : SbN} (hlv : lv.all (fun q => xvk 21 q.2) = true) (hsv : st.all (xvk 21) = true) (hlw : w0.length ≤ 20) (h1 : nc ≤ nc') (h2 : ns ≤ ns') (k : Ev l E Y d 4 124 w0 Po nc' ns' pc lv st (modW 0 S X (some kf) ++ sbW 20 s)) : Ev l E Y d 4 124 w0 Po nc ns pc lv st (modW 0 S X (some kf) ++ sbV 20 o s) := by
  refine ev_more h1 h2 ?_
  refine ev_ren (lv' := lv) (st' := st) (w' := modW 0 S X (some kf) ++ sbW 20 s) (rng 0 21 ++ [22]) (by decide) rfl (xrL_id2 hlv) (xrS_id2 hsv) (fun j hj => ?_) (by decide) k
  rw [List.getElem?_append_left (by rw [rng_len]; omega), rng_get, if_pos (by omega), Nat.zero_add]
theorem ev_appC_s {s : SbN} {L : List Nat} {x : Nat} (hd : decode Y.2.1 pc = .ok (.invokevirtual idx, 3)) (hlk : (.methodLink Y.1.cls idx mJ4_append_cf468.1 : Cond) ∈ tbl) (hlv : lv.all (fun q => xvk 21 q.2) = true) (hsv : st.all (xvk 21) = true) (hlw : w0.length ≤ 20) (hd6 : 6 ≤ d) (hcat : (st.map fun v => v.category).sum ≤ 7) (h : SbL L s) (hm : SbM s) (hl : L.length < 70) (hx : x < 256)
    (k : ∀ s', SbL (L ++ [x]) s' → SbM s' → Ev l E Y d 4 124 w0 Po (ncF s'.m) (nsF s'.m) (pc + 3) lv (.ref 20 :: st) (modW 0 S X (some kf) ++ sbW 20 s')) : Ev l E Y d 4 124 w0 Po (ncF s.m) (nsF s.m) pc lv (.int (nI x) :: .ref 20 :: st) (modW 0 S X (some kf) ++ sbW 20 s) := by
  have h4 := h.2.2.1
  have hn := h.1
  have hlm := h.2.1
  by_cases hf : s.n < s.m
  · refine ev_callV (Yc := mJ4_append_cf468) [20, 21] hd hlk kJ4_append_cf468 (m_J4_appC_n s x hx h4 hf) rfl (st := st) rfl rfl rfl (by decide) rfl (by omega) (by omega) (ncF_le _) (nsF_le _) (fun r w' q => by obtain ⟨-, rfl⟩ := q; exact Nat.le_of_ble_eq_true rfl) ?_
    rintro _ _ ⟨rfl, rfl⟩
    refine ev_eq (lv' := lv) (st' := .ref 20 :: st) (w' := modW 0 S X (some kf) ++ sbW 20 ((upd s.f s.n (sb_b x), s.m, s.n + 1) : SbN)) rfl rfl rfl ?_
    exact k _ (sbL_put h hf hx) hm
  · have hg := grow_le hm (by rcases hm with q | q | q <;> omega)
    refine ev_callGV (Yc := mJ4_append_cf468) (st := st) [20, 21] hd hlk kJ4_append_cf468 (m_J4_appC_g s x hx h4 (by omega) h.2.2.2.1) rfl rfl rfl rfl (by decide) rfl (xvL_mono (Nat.le_of_ble_eq_true rfl) hlv) (xvS_mono (Nat.le_of_ble_eq_true rfl) hsv) rfl (by show w0.length ≤ 22; omega) (by omega) (by omega) (by decide) hg.1 hg.2.1 (fun r w' q => by obtain ⟨-, rfl⟩ := q; exact Nat.le_of_ble_eq_true rfl) ?_
    rintro _ _ ⟨rfl, rfl⟩
    refine ev_eq (lv' := lv) (st' := .ref 20 :: st) (w' := modW 0 S X (some kf) ++ sbV 20 s ((upd (va_cpy s.f (fun _ => 0) 0 0 s.m) s.n (sb_b x), 2 * s.m + 2, s.n + 1) : SbN)) rfl rfl rfl ?_
    refine ev_gone_s hlv (by show (xvk 21 (.ref 20) && st.all (xvk 21)) = true; rw [hsv]; rfl) hlw (Nat.le_of_eq hg.2.2.1) (Nat.le_of_eq hg.2.2.2.1) ?_
    exact k _ (sbL_put (s := ((va_cpy s.f (fun _ => 0) 0 0 s.m, 2 * s.m + 2, s.n) : SbN)) (sbL_grow h (by omega) (by omega)) (by show s.n < 2 * s.m + 2; omega) hx) (Or.inr hg.2.2.2.2)
theorem ev_appI_s {s : SbN} {L : List Nat} {v : Nat} (hd : decode Y.2.1 pc = .ok (.invokevirtual idx, 3)) (hlk : (.methodLink Y.1.cls idx mJ4_append_bf812.1 : Cond) ∈ tbl) (hlv : lv.all (fun q => xvk 21 q.2) = true) (hsv : st.all (xvk 21) = true) (hlw : w0.length ≤ 20) (hd6 : 6 ≤ d) (hcat : (st.map fun v => v.category).sum ≤ 7) (h : SbL L s) (hm : SbM s) (hl : L.length + 3 ≤ 70) (hx : v < 1000)
    (k : ∀ s', SbL (L ++ numL v) s' → SbM s' → Ev l E Y d 4 124 w0 Po (ncF s'.m) (nsF s'.m) (pc + 3) lv (.ref 20 :: st) (modW 0 S X (some kf) ++ sbW 20 s')) : Ev l E Y d 4 124 w0 Po (ncF s.m) (nsF s.m) pc lv (.int (nI v) :: .ref 20 :: st) (modW 0 S X (some kf) ++ sbW 20 s) := by
  have h4 := h.2.2.1
  have hn := h.1
  have hlm := h.2.1
  rcases (show v < 10 ∨ (10 ≤ v ∧ v < 100) ∨ (100 ≤ v ∧ v < 1000) from by omega) with hv | hv | hv
  · rw [num_1 hv] at k
    by_cases hf : s.n + 1 ≤ s.m
    · refine ev_callV (Yc := mJ4_append_bf812) [20, 21] hd hlk kJ4_append_bf812 (m_J4_appI1_n s v hv h4 hf) rfl (st := st) rfl rfl rfl (by decide) rfl (by omega) (by omega) (ncF_le _) (nsF_le _) (fun r w' q => by obtain ⟨-, rfl⟩ := q; exact Nat.le_of_ble_eq_true rfl) ?_
      rintro _ _ ⟨rfl, rfl⟩
      refine ev_eq (lv' := lv) (st' := .ref 20 :: st) (w' := modW 0 S X (some kf) ++ sbW 20 ((upd (s.f) s.n (sb_b (48 + v % 10)), s.m, s.n + 1) : SbN)) rfl rfl rfl ?_
      exact k _ (sbL_put h (by omega) (by omega)) hm
    · have hg := grow_le hm (by rcases hm with q | q | q <;> omega)
      refine ev_callGV (Yc := mJ4_append_bf812) (st := st) [20, 21] hd hlk kJ4_append_bf812 (m_J4_appI1_g s v hv h4 ⟨by omega, by omega, by omega⟩ h.2.2.2.1) rfl rfl rfl rfl (by decide) rfl (xvL_mono (Nat.le_of_ble_eq_true rfl) hlv) (xvS_mono (Nat.le_of_ble_eq_true rfl) hsv) rfl (by show w0.length ≤ 22; omega) (by omega) (by omega) (by decide) hg.1 hg.2.1 (fun r w' q => by obtain ⟨-, rfl⟩ := q; exact Nat.le_of_ble_eq_true rfl) ?_
      rintro _ _ ⟨rfl, rfl⟩
      refine ev_eq (lv' := lv) (st' := .ref 20 :: st) (w' := modW 0 S X (some kf) ++ sbV 20 s ((upd (va_cpy s.f (fun _ => 0) 0 0 s.m) s.n (sb_b (48 + v % 10)), 2 * s.m + 2, s.n + 1) : SbN)) rfl rfl rfl ?_
      refine ev_gone_s hlv (by show (xvk 21 (.ref 20) && st.all (xvk 21)) = true; rw [hsv]; rfl) hlw (Nat.le_of_eq hg.2.2.1) (Nat.le_of_eq hg.2.2.2.1) ?_
      exact k _ (sbL_put (s := ((va_cpy s.f (fun _ => 0) 0 0 s.m, 2 * s.m + 2, s.n) : SbN)) (sbL_grow h (by omega) (by omega)) (by show s.n < 2 * s.m + 2; omega) (by omega)) (Or.inr hg.2.2.2.2)
  · rw [num_2 hv] at k
    by_cases hf : s.n + 2 ≤ s.m
    · refine ev_callV (Yc := mJ4_append_bf812) [20, 21] hd hlk kJ4_append_bf812 (m_J4_appI2_n s v hv h4 hf) rfl (st := st) rfl rfl rfl (by decide) rfl (by omega) (by omega) (ncF_le _) (nsF_le _) (fun r w' q => by obtain ⟨-, rfl⟩ := q; exact Nat.le_of_ble_eq_true rfl) ?_
      rintro _ _ ⟨rfl, rfl⟩
      refine ev_eq (lv' := lv) (st' := .ref 20 :: st) (w' := modW 0 S X (some kf) ++ sbW 20 ((upd (upd (s.f) (s.n + 1) (sb_b (48 + v % 10))) s.n (sb_b (48 + v / 10)), s.m, s.n + 2) : SbN)) rfl rfl rfl ?_
      exact k _ (sbL_put2 h (by omega) (by omega) (by omega)) hm
    · have hg := grow_le hm (by rcases hm with q | q | q <;> omega)
      refine ev_callGV (Yc := mJ4_append_bf812) (st := st) [20, 21] hd hlk kJ4_append_bf812 (m_J4_appI2_g s v hv h4 ⟨by omega, by omega, by omega⟩ h.2.2.2.1) rfl rfl rfl rfl (by decide) rfl (xvL_mono (Nat.le_of_ble_eq_true rfl) hlv) (xvS_mono (Nat.le_of_ble_eq_true rfl) hsv) rfl (by show w0.length ≤ 22; omega) (by omega) (by omega) (by decide) hg.1 hg.2.1 (fun r w' q => by obtain ⟨-, rfl⟩ := q; exact Nat.le_of_ble_eq_true rfl) ?_
      rintro _ _ ⟨rfl, rfl⟩
      refine ev_eq (lv' := lv) (st' := .ref 20 :: st) (w' := modW 0 S X (some kf) ++ sbV 20 s ((upd (upd (va_cpy s.f (fun _ => 0) 0 0 s.m) (s.n + 1) (sb_b (48 + v % 10))) s.n (sb_b (48 + v / 10)), 2 * s.m + 2, s.n + 2) : SbN)) rfl rfl rfl ?_
      refine ev_gone_s hlv (by show (xvk 21 (.ref 20) && st.all (xvk 21)) = true; rw [hsv]; rfl) hlw (Nat.le_of_eq hg.2.2.1) (Nat.le_of_eq hg.2.2.2.1) ?_
      exact k _ (sbL_put2 (s := ((va_cpy s.f (fun _ => 0) 0 0 s.m, 2 * s.m + 2, s.n) : SbN)) (sbL_grow h (by omega) (by omega)) (by show s.n + 2 ≤ 2 * s.m + 2; omega) (by omega) (by omega)) (Or.inr hg.2.2.2.2)
  · rw [num_3 hv] at k
    by_cases hf : s.n + 3 ≤ s.m
    · refine ev_callV (Yc := mJ4_append_bf812) [20, 21] hd hlk kJ4_append_bf812 (m_J4_appI3_n s v hv h4 hf) rfl (st := st) rfl rfl rfl (by decide) rfl (by omega) (by omega) (ncF_le _) (nsF_le _) (fun r w' q => by obtain ⟨-, rfl⟩ := q; exact Nat.le_of_ble_eq_true rfl) ?_
      rintro _ _ ⟨rfl, rfl⟩
      refine ev_eq (lv' := lv) (st' := .ref 20 :: st) (w' := modW 0 S X (some kf) ++ sbW 20 ((upd (upd (upd (s.f) (s.n + 2) (sb_b (48 + v % 100 % 10))) (s.n + 1) (sb_b (48 + v % 100 / 10))) s.n (sb_b (48 + v / 100 % 10)), s.m, s.n + 3) : SbN)) rfl rfl rfl ?_
      exact k _ (sbL_put3 h (by omega) (by omega) (by omega) (by omega)) hm
    · have hg := grow_le hm (by rcases hm with q | q | q <;> omega)
      refine ev_callGV (Yc := mJ4_append_bf812) (st := st) [20, 21] hd hlk kJ4_append_bf812 (m_J4_appI3_g s v hv h4 ⟨by omega, by omega, by omega⟩ h.2.2.2.1) rfl rfl rfl rfl (by decide) rfl (xvL_mono (Nat.le_of_ble_eq_true rfl) hlv) (xvS_mono (Nat.le_of_ble_eq_true rfl) hsv) rfl (by show w0.length ≤ 22; omega) (by omega) (by omega) (by decide) hg.1 hg.2.1 (fun r w' q => by obtain ⟨-, rfl⟩ := q; exact Nat.le_of_ble_eq_true rfl) ?_
      rintro _ _ ⟨rfl, rfl⟩
      refine ev_eq (lv' := lv) (st' := .ref 20 :: st) (w' := modW 0 S X (some kf) ++ sbV 20 s ((upd (upd (upd (va_cpy s.f (fun _ => 0) 0 0 s.m) (s.n + 2) (sb_b (48 + v % 100 % 10))) (s.n + 1) (sb_b (48 + v % 100 / 10))) s.n (sb_b (48 + v / 100 % 10)), 2 * s.m + 2, s.n + 3) : SbN)) rfl rfl rfl ?_
      refine ev_gone_s hlv (by show (xvk 21 (.ref 20) && st.all (xvk 21)) = true; rw [hsv]; rfl) hlw (Nat.le_of_eq hg.2.2.1) (Nat.le_of_eq hg.2.2.2.1) ?_
      exact k _ (sbL_put3 (s := ((va_cpy s.f (fun _ => 0) 0 0 s.m, 2 * s.m + 2, s.n) : SbN)) (sbL_grow h (by omega) (by omega)) (by show s.n + 3 ≤ 2 * s.m + 2; omega) (by omega) (by omega) (by omega)) (Or.inr hg.2.2.2.2)
end PRTs

