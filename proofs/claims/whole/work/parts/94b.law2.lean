theorem i32z (q : Int32) : ∃ z : Int, q = zI z ∧ -2147483648 ≤ z ∧ z < 2147483648 := by
  refine ⟨q.toInt, ?_, Int32.le_toInt q, Int32.toInt_lt q⟩
  exact (Int32.ofInt_toInt q).symm
theorem mkX_eq {X : ModN} {C : ScrN} {T : TopN} {tl rf : Nat → Nat} (h1 : X.lt = C.lt) (h2 : X.ty = C.sz) (h3 : X.rr = tl) (h4 : X.rn = T.tc) (h5 : X.rf = rf) : X = mkX X C T tl rf := by
  obtain ⟨a1, a2, a3, a4, a5, a6, a7, a8, a9, b1, b2, b3, b4, b5, b6, b7, b8, b9, c1, c2⟩ := X
  have h1 : a7 = C.lt := h1
  have h2 : a8 = C.sz := h2
  have h3 : b9 = tl := h3
  have h4 : c1 = T.tc := h4
  have h5 : a1 = rf := h5
  subst h1 h2 h3 h4 h5
  rfl
theorem lgc (v : Int64) : lg_cmp v v = 0 := by simp [lg_cmp]
abbrev PoL : Option Value → AW → Prop := fun r _ => r = some (.int (nI 1))
/-- the law at a point between two rounds -/
def LawK (l : Launch) (E : XE) (nc ns i pc : Nat) : Prop := ∀ (T : TopN) (S P U : SaleN) (O : OutN) (B : BillN) (Q : SeaN) (C : ScrN) (R : PrtN) (tl rf : Nat → Nat) (M : ModN) (K : Option (Nat → Nat)), RelO T S P C.lt C.sz tl K → Q.fd < 2147483648 → MOK S (mkX M C T tl rf) →
  Ev l E mL_law 840 600000 7302249 [] PoL nc ns pc [(3, .int (nI i)), (2, .ref 49), (1, .ref 0), (0, .float 40)] [] (compW T S P U O B Q C R tl rf ++ modW 49 S (mkX M C T tl rf) K)

theorem bL_law_188_192 {l : Launch} {E : XE} : Snd l E mL_law 188 192 (xs [x_aload 1, x_aload 0, x_iload 3, x_push (.int (nI 1))]) := Snd.cons (snd_aload_n (i := 1) dL_law_188 rfl) (Snd.cons (snd_aload_n (i := 0) dL_law_189 rfl) (Snd.cons (snd_iload_n (i := 3) dL_law_190 rfl) (Snd.cons (snd_iconst (v := nI 1) dL_law_191 (by decide)) Snd.nil)))
theorem bL_law_197_201 {l : Launch} {E : XE} : Snd l E mL_law 197 201 (xs [x_aload 2, x_aload 0, x_iload 3, x_push (.int (nI 1))]) := Snd.cons (snd_aload_n (i := 2) dL_law_197 rfl) (Snd.cons (snd_aload_n (i := 0) dL_law_198 rfl) (Snd.cons (snd_iload_n (i := 3) dL_law_199 rfl) (Snd.cons (snd_iconst (v := nI 1) dL_law_200 (by decide)) Snd.nil)))
set_option maxHeartbeats 1000000 in
theorem law_0 {l : Launch} {E : XE} {nc ns i : Nat} (hL : E.2.2.2 41 ≤ 2048) (hi : i + 4 ≤ E.2.2.2 41) (hnc : nc + 4 ≤ 600000) (hns : ns + 124 ≤ 7302249) (hk : LawK l E (nc + 4) (ns + 124) i 1155) : LawK l E nc ns i 188 := by
  intro T S P U O B Q C R tl rf M K hR hQ hM
  refine ev_b bL_law_188_192 (lv' := [(3, .int (nI (i))), (2, .ref 49), (1, .ref 0), (0, .float 40)]) (st' := [.int (nI (1)), .int (nI (i)), .float 40, .ref 0]) (w2 := compW T S P U O B Q C R tl rf ++ modW 49 S (mkX M C T tl rf) K) rfl ?_
  refine ev_iadd_n dL_law_192 ?_
  refine ev_lald (i := i + 1) dL_law_193 (by omega) (by omega) ?_
  obtain ⟨z1, e1, r1⟩ := i32z (nI (E.2.2.2 (1000 + (i + 1))))
  refine ev_top (y := zI z1) e1 ?_
  obtain ⟨v, T', S', P', lt', sz', tl', rf', K', dx, dy, mcy, msy, b1, b2, b3, b4, hR', hX, hY⟩ := pr_letter z1 r1 hR hQ hM
  refine ev_lawX (st := []) hX dL_law_194 tw_244 kX6_letter rfl rfl trivial trivial rfl (by omega) (Nat.le_of_ble_eq_true rfl) (by omega) (by omega) (fun U1 O1 B1 Q1 C1 R1 hQ1 hC1 hC2 => ?_)
  refine ev_b bL_law_197_201 (lv' := [(3, .int (nI (i))), (2, .ref 49), (1, .ref 0), (0, .float 40)]) (st' := [.int (nI (1)), .int (nI (i)), .float 40, .ref 49, .int (v)]) (w2 := compW T' S' P' U1 O1 B1 Q1 C1 R1 tl' rf' ++ modW 49 S (mkX M C T tl rf) K) rfl ?_
  refine ev_iadd_n dL_law_201 ?_
  refine ev_lald (i := i + 1) dL_law_202 (by omega) (by omega) ?_
  refine ev_top (y := zI z1) e1 ?_
  refine ev_lawM (st := [.int v]) hY dL_law_203 tw_1008 kX7_letter rfl rfl trivial trivial rfl rfl rfl (by omega) (Nat.le_of_ble_eq_true rfl) b3 b4 (by omega) (by omega) (fun X1 hM1 m1 m2 m3 m4 m5 => ?_)
  refine ev_icmp_eq (tgt := 1155) dL_law_206 (by decide) (fun _ => ?_) (fun h => absurd rfl h)
  subst hC1 hC2
  obtain ⟨M1, rfl⟩ : ∃ M1, X1 = mkX M1 C1 T' tl' rf' := ⟨X1, mkX_eq m1 m2 m3 m4 m5⟩
  exact hk T' S' P' U1 O1 B1 Q1 C1 R1 tl' rf' M1 K' hR' hQ1 hM1
theorem bL_law_211_212 {l : Launch} {E : XE} : Snd l E mL_law 211 212 (xs [x_aload 1]) := Snd.cons (snd_aload_n (i := 1) dL_law_211 rfl) Snd.nil
theorem bL_law_215_216 {l : Launch} {E : XE} : Snd l E mL_law 215 216 (xs [x_aload 2]) := Snd.cons (snd_aload_n (i := 2) dL_law_215 rfl) Snd.nil
set_option maxHeartbeats 1000000 in
theorem law_1 {l : Launch} {E : XE} {nc ns i : Nat} (hL : E.2.2.2 41 ≤ 2048) (hi : i + 4 ≤ E.2.2.2 41) (hnc : nc + 4 ≤ 600000) (hns : ns + 124 ≤ 7302249) (hk : LawK l E (nc + 4) (ns + 124) i 1155) : LawK l E nc ns i 211 := by
  intro T S P U O B Q C R tl rf M K hR hQ hM
  refine ev_b bL_law_211_212 (lv' := [(3, .int (nI (i))), (2, .ref 49), (1, .ref 0), (0, .float 40)]) (st' := [.ref 0]) (w2 := compW T S P U O B Q C R tl rf ++ modW 49 S (mkX M C T tl rf) K) rfl ?_
  obtain ⟨v, T', S', P', lt', sz', tl', rf', K', dx, dy, mcy, msy, b1, b2, b3, b4, hR', hX, hY⟩ := pr_auction   hR hQ hM
  refine ev_lawX (st := []) hX dL_law_212 tw_261 kX6_auction rfl rfl trivial trivial rfl (by omega) (Nat.le_of_ble_eq_true rfl) (by omega) (by omega) (fun U1 O1 B1 Q1 C1 R1 hQ1 hC1 hC2 => ?_)
  refine ev_b bL_law_215_216 (lv' := [(3, .int (nI (i))), (2, .ref 49), (1, .ref 0), (0, .float 40)]) (st' := [.ref 49, .int (v)]) (w2 := compW T' S' P' U1 O1 B1 Q1 C1 R1 tl' rf' ++ modW 49 S (mkX M C T tl rf) K) rfl ?_
  refine ev_lawM (st := [.int v]) hY dL_law_216 tw_1016 kX7_auction rfl rfl trivial trivial rfl rfl rfl (by omega) (Nat.le_of_ble_eq_true rfl) b3 b4 (by omega) (by omega) (fun X1 hM1 m1 m2 m3 m4 m5 => ?_)
  refine ev_icmp_eq (tgt := 1155) dL_law_219 (by decide) (fun _ => ?_) (fun h => absurd rfl h)
  subst hC1 hC2
  obtain ⟨M1, rfl⟩ : ∃ M1, X1 = mkX M1 C1 T' tl' rf' := ⟨X1, mkX_eq m1 m2 m3 m4 m5⟩
  exact hk T' S' P' U1 O1 B1 Q1 C1 R1 tl' rf' M1 K' hR' hQ1 hM1
theorem bL_law_224_228 {l : Launch} {E : XE} : Snd l E mL_law 224 228 (xs [x_aload 1, x_aload 0, x_iload 3, x_push (.int (nI 1))]) := Snd.cons (snd_aload_n (i := 1) dL_law_224 rfl) (Snd.cons (snd_aload_n (i := 0) dL_law_225 rfl) (Snd.cons (snd_iload_n (i := 3) dL_law_226 rfl) (Snd.cons (snd_iconst (v := nI 1) dL_law_227 (by decide)) Snd.nil)))
theorem bL_law_230_233 {l : Launch} {E : XE} : Snd l E mL_law 230 233 (xs [x_aload 0, x_iload 3, x_push (.int (nI 2))]) := Snd.cons (snd_aload_n (i := 0) dL_law_230 rfl) (Snd.cons (snd_iload_n (i := 3) dL_law_231 rfl) (Snd.cons (snd_iconst (v := nI 2) dL_law_232 (by decide)) Snd.nil))
theorem bL_law_235_238 {l : Launch} {E : XE} : Snd l E mL_law 235 238 (xs [x_aload 0, x_iload 3, x_push (.int (nI 3))]) := Snd.cons (snd_aload_n (i := 0) dL_law_235 rfl) (Snd.cons (snd_iload_n (i := 3) dL_law_236 rfl) (Snd.cons (snd_iconst (v := nI 3) dL_law_237 (by decide)) Snd.nil))
theorem bL_law_243_247 {l : Launch} {E : XE} : Snd l E mL_law 243 247 (xs [x_aload 2, x_aload 0, x_iload 3, x_push (.int (nI 1))]) := Snd.cons (snd_aload_n (i := 2) dL_law_243 rfl) (Snd.cons (snd_aload_n (i := 0) dL_law_244 rfl) (Snd.cons (snd_iload_n (i := 3) dL_law_245 rfl) (Snd.cons (snd_iconst (v := nI 1) dL_law_246 (by decide)) Snd.nil)))
theorem bL_law_249_252 {l : Launch} {E : XE} : Snd l E mL_law 249 252 (xs [x_aload 0, x_iload 3, x_push (.int (nI 2))]) := Snd.cons (snd_aload_n (i := 0) dL_law_249 rfl) (Snd.cons (snd_iload_n (i := 3) dL_law_250 rfl) (Snd.cons (snd_iconst (v := nI 2) dL_law_251 (by decide)) Snd.nil))
theorem bL_law_254_257 {l : Launch} {E : XE} : Snd l E mL_law 254 257 (xs [x_aload 0, x_iload 3, x_push (.int (nI 3))]) := Snd.cons (snd_aload_n (i := 0) dL_law_254 rfl) (Snd.cons (snd_iload_n (i := 3) dL_law_255 rfl) (Snd.cons (snd_iconst (v := nI 3) dL_law_256 (by decide)) Snd.nil))
set_option maxHeartbeats 1000000 in
theorem law_2 {l : Launch} {E : XE} {nc ns i : Nat} (hL : E.2.2.2 41 ≤ 2048) (hi : i + 4 ≤ E.2.2.2 41) (hnc : nc + 4 ≤ 600000) (hns : ns + 124 ≤ 7302249) (hk : LawK l E (nc + 4) (ns + 124) i 1155) : LawK l E nc ns i 224 := by
  intro T S P U O B Q C R tl rf M K hR hQ hM
  refine ev_b bL_law_224_228 (lv' := [(3, .int (nI (i))), (2, .ref 49), (1, .ref 0), (0, .float 40)]) (st' := [.int (nI (1)), .int (nI (i)), .float 40, .ref 0]) (w2 := compW T S P U O B Q C R tl rf ++ modW 49 S (mkX M C T tl rf) K) rfl ?_
  refine ev_iadd_n dL_law_228 ?_
  refine ev_lald (i := i + 1) dL_law_229 (by omega) (by omega) ?_
  obtain ⟨z1, e1, r1⟩ := i32z (nI (E.2.2.2 (1000 + (i + 1))))
  refine ev_top (y := zI z1) e1 ?_
  refine ev_b bL_law_230_233 (lv' := [(3, .int (nI (i))), (2, .ref 49), (1, .ref 0), (0, .float 40)]) (st' := [.int (nI (2)), .int (nI (i)), .float 40, .int (zI (z1)), .ref 0]) (w2 := compW T S P U O B Q C R tl rf ++ modW 49 S (mkX M C T tl rf) K) rfl ?_
  refine ev_iadd_n dL_law_233 ?_
  refine ev_lald (i := i + 2) dL_law_234 (by omega) (by omega) ?_
  obtain ⟨z2, e2, r2⟩ := i32z (nI (E.2.2.2 (1000 + (i + 2))))
  refine ev_top (y := zI z2) e2 ?_
  refine ev_b bL_law_235_238 (lv' := [(3, .int (nI (i))), (2, .ref 49), (1, .ref 0), (0, .float 40)]) (st' := [.int (nI (3)), .int (nI (i)), .float 40, .int (zI (z2)), .int (zI (z1)), .ref 0]) (w2 := compW T S P U O B Q C R tl rf ++ modW 49 S (mkX M C T tl rf) K) rfl ?_
  refine ev_iadd_n dL_law_238 ?_
  refine ev_lald (i := i + 3) dL_law_239 (by omega) (by omega) ?_
  obtain ⟨z3, e3, r3⟩ := i32z (nI (E.2.2.2 (1000 + (i + 3))))
  refine ev_top (y := zI z3) e3 ?_
  obtain ⟨v, T', S', P', lt', sz', tl', rf', K', dx, dy, mcy, msy, b1, b2, b3, b4, hR', hX, hY⟩ := pr_bids z1 z2 z3 r1 r2 r3 hR hQ hM
  refine ev_lawX (st := []) hX dL_law_240 tw_433 kX6_bids rfl rfl trivial trivial rfl (by omega) (Nat.le_of_ble_eq_true rfl) (by omega) (by omega) (fun U1 O1 B1 Q1 C1 R1 hQ1 hC1 hC2 => ?_)
  refine ev_b bL_law_243_247 (lv' := [(3, .int (nI (i))), (2, .ref 49), (1, .ref 0), (0, .float 40)]) (st' := [.int (nI (1)), .int (nI (i)), .float 40, .ref 49, .int (v)]) (w2 := compW T' S' P' U1 O1 B1 Q1 C1 R1 tl' rf' ++ modW 49 S (mkX M C T tl rf) K) rfl ?_
  refine ev_iadd_n dL_law_247 ?_
  refine ev_lald (i := i + 1) dL_law_248 (by omega) (by omega) ?_
  refine ev_top (y := zI z1) e1 ?_
  refine ev_b bL_law_249_252 (lv' := [(3, .int (nI (i))), (2, .ref 49), (1, .ref 0), (0, .float 40)]) (st' := [.int (nI (2)), .int (nI (i)), .float 40, .int (zI (z1)), .ref 49, .int (v)]) (w2 := compW T' S' P' U1 O1 B1 Q1 C1 R1 tl' rf' ++ modW 49 S (mkX M C T tl rf) K) rfl ?_
  refine ev_iadd_n dL_law_252 ?_
  refine ev_lald (i := i + 2) dL_law_253 (by omega) (by omega) ?_
  refine ev_top (y := zI z2) e2 ?_
  refine ev_b bL_law_254_257 (lv' := [(3, .int (nI (i))), (2, .ref 49), (1, .ref 0), (0, .float 40)]) (st' := [.int (nI (3)), .int (nI (i)), .float 40, .int (zI (z2)), .int (zI (z1)), .ref 49, .int (v)]) (w2 := compW T' S' P' U1 O1 B1 Q1 C1 R1 tl' rf' ++ modW 49 S (mkX M C T tl rf) K) rfl ?_
  refine ev_iadd_n dL_law_257 ?_
  refine ev_lald (i := i + 3) dL_law_258 (by omega) (by omega) ?_
  refine ev_top (y := zI z3) e3 ?_
  refine ev_lawM (st := [.int v]) hY dL_law_259 tw_1076 kX7_bids rfl rfl trivial trivial rfl rfl rfl (by omega) (Nat.le_of_ble_eq_true rfl) b3 b4 (by omega) (by omega) (fun X1 hM1 m1 m2 m3 m4 m5 => ?_)
  refine ev_icmp_eq (tgt := 1155) dL_law_262 (by decide) (fun _ => ?_) (fun h => absurd rfl h)
  subst hC1 hC2
  obtain ⟨M1, rfl⟩ : ∃ M1, X1 = mkX M1 C1 T' tl' rf' := ⟨X1, mkX_eq m1 m2 m3 m4 m5⟩
  exact hk T' S' P' U1 O1 B1 Q1 C1 R1 tl' rf' M1 K' hR' hQ1 hM1
theorem bL_law_267_271 {l : Launch} {E : XE} : Snd l E mL_law 267 271 (xs [x_aload 1, x_aload 0, x_iload 3, x_push (.int (nI 1))]) := Snd.cons (snd_aload_n (i := 1) dL_law_267 rfl) (Snd.cons (snd_aload_n (i := 0) dL_law_268 rfl) (Snd.cons (snd_iload_n (i := 3) dL_law_269 rfl) (Snd.cons (snd_iconst (v := nI 1) dL_law_270 (by decide)) Snd.nil)))
theorem bL_law_276_280 {l : Launch} {E : XE} : Snd l E mL_law 276 280 (xs [x_aload 2, x_aload 0, x_iload 3, x_push (.int (nI 1))]) := Snd.cons (snd_aload_n (i := 2) dL_law_276 rfl) (Snd.cons (snd_aload_n (i := 0) dL_law_277 rfl) (Snd.cons (snd_iload_n (i := 3) dL_law_278 rfl) (Snd.cons (snd_iconst (v := nI 1) dL_law_279 (by decide)) Snd.nil)))
set_option maxHeartbeats 1000000 in
theorem law_3 {l : Launch} {E : XE} {nc ns i : Nat} (hL : E.2.2.2 41 ≤ 2048) (hi : i + 4 ≤ E.2.2.2 41) (hnc : nc + 4 ≤ 600000) (hns : ns + 124 ≤ 7302249) (hk : LawK l E (nc + 4) (ns + 124) i 1155) : LawK l E nc ns i 267 := by
  intro T S P U O B Q C R tl rf M K hR hQ hM
  refine ev_b bL_law_267_271 (lv' := [(3, .int (nI (i))), (2, .ref 49), (1, .ref 0), (0, .float 40)]) (st' := [.int (nI (1)), .int (nI (i)), .float 40, .ref 0]) (w2 := compW T S P U O B Q C R tl rf ++ modW 49 S (mkX M C T tl rf) K) rfl ?_
  refine ev_iadd_n dL_law_271 ?_
  refine ev_lald (i := i + 1) dL_law_272 (by omega) (by omega) ?_
  obtain ⟨z1, e1, r1⟩ := i32z (nI (E.2.2.2 (1000 + (i + 1))))
  refine ev_top (y := zI z1) e1 ?_
  obtain ⟨v, T', S', P', lt', sz', tl', rf', K', dx, dy, mcy, msy, b1, b2, b3, b4, hR', hX, hY⟩ := pr_turns z1 r1 hR hQ hM
  refine ev_lawX (st := []) hX dL_law_273 tw_440 kX6_turns rfl rfl trivial trivial rfl (by omega) (Nat.le_of_ble_eq_true rfl) (by omega) (by omega) (fun U1 O1 B1 Q1 C1 R1 hQ1 hC1 hC2 => ?_)
  refine ev_b bL_law_276_280 (lv' := [(3, .int (nI (i))), (2, .ref 49), (1, .ref 0), (0, .float 40)]) (st' := [.int (nI (1)), .int (nI (i)), .float 40, .ref 49, .int (v)]) (w2 := compW T' S' P' U1 O1 B1 Q1 C1 R1 tl' rf' ++ modW 49 S (mkX M C T tl rf) K) rfl ?_
  refine ev_iadd_n dL_law_280 ?_
  refine ev_lald (i := i + 1) dL_law_281 (by omega) (by omega) ?_
  refine ev_top (y := zI z1) e1 ?_
  refine ev_lawM (st := [.int v]) hY dL_law_282 tw_1080 kX7_turns rfl rfl trivial trivial rfl rfl rfl (by omega) (Nat.le_of_ble_eq_true rfl) b3 b4 (by omega) (by omega) (fun X1 hM1 m1 m2 m3 m4 m5 => ?_)
  refine ev_icmp_eq (tgt := 1155) dL_law_285 (by decide) (fun _ => ?_) (fun h => absurd rfl h)
  subst hC1 hC2
  obtain ⟨M1, rfl⟩ : ∃ M1, X1 = mkX M1 C1 T' tl' rf' := ⟨X1, mkX_eq m1 m2 m3 m4 m5⟩
  exact hk T' S' P' U1 O1 B1 Q1 C1 R1 tl' rf' M1 K' hR' hQ1 hM1
theorem bL_law_290_294 {l : Launch} {E : XE} : Snd l E mL_law 290 294 (xs [x_aload 1, x_aload 0, x_iload 3, x_push (.int (nI 1))]) := Snd.cons (snd_aload_n (i := 1) dL_law_290 rfl) (Snd.cons (snd_aload_n (i := 0) dL_law_291 rfl) (Snd.cons (snd_iload_n (i := 3) dL_law_292 rfl) (Snd.cons (snd_iconst (v := nI 1) dL_law_293 (by decide)) Snd.nil)))
theorem bL_law_296_299 {l : Launch} {E : XE} : Snd l E mL_law 296 299 (xs [x_aload 0, x_iload 3, x_push (.int (nI 2))]) := Snd.cons (snd_aload_n (i := 0) dL_law_296 rfl) (Snd.cons (snd_iload_n (i := 3) dL_law_297 rfl) (Snd.cons (snd_iconst (v := nI 2) dL_law_298 (by decide)) Snd.nil))
theorem bL_law_304_308 {l : Launch} {E : XE} : Snd l E mL_law 304 308 (xs [x_aload 2, x_aload 0, x_iload 3, x_push (.int (nI 1))]) := Snd.cons (snd_aload_n (i := 2) dL_law_304 rfl) (Snd.cons (snd_aload_n (i := 0) dL_law_305 rfl) (Snd.cons (snd_iload_n (i := 3) dL_law_306 rfl) (Snd.cons (snd_iconst (v := nI 1) dL_law_307 (by decide)) Snd.nil)))
theorem bL_law_310_313 {l : Launch} {E : XE} : Snd l E mL_law 310 313 (xs [x_aload 0, x_iload 3, x_push (.int (nI 2))]) := Snd.cons (snd_aload_n (i := 0) dL_law_310 rfl) (Snd.cons (snd_iload_n (i := 3) dL_law_311 rfl) (Snd.cons (snd_iconst (v := nI 2) dL_law_312 (by decide)) Snd.nil))
set_option maxHeartbeats 1000000 in
theorem law_4 {l : Launch} {E : XE} {nc ns i : Nat} (hL : E.2.2.2 41 ≤ 2048) (hi : i + 4 ≤ E.2.2.2 41) (hnc : nc + 4 ≤ 600000) (hns : ns + 124 ≤ 7302249) (hk : LawK l E (nc + 4) (ns + 124) i 1155) : LawK l E nc ns i 290 := by
  intro T S P U O B Q C R tl rf M K hR hQ hM
  refine ev_b bL_law_290_294 (lv' := [(3, .int (nI (i))), (2, .ref 49), (1, .ref 0), (0, .float 40)]) (st' := [.int (nI (1)), .int (nI (i)), .float 40, .ref 0]) (w2 := compW T S P U O B Q C R tl rf ++ modW 49 S (mkX M C T tl rf) K) rfl ?_
  refine ev_iadd_n dL_law_294 ?_
  refine ev_lald (i := i + 1) dL_law_295 (by omega) (by omega) ?_
  obtain ⟨z1, e1, r1⟩ := i32z (nI (E.2.2.2 (1000 + (i + 1))))
  refine ev_top (y := zI z1) e1 ?_
  refine ev_b bL_law_296_299 (lv' := [(3, .int (nI (i))), (2, .ref 49), (1, .ref 0), (0, .float 40)]) (st' := [.int (nI (2)), .int (nI (i)), .float 40, .int (zI (z1)), .ref 0]) (w2 := compW T S P U O B Q C R tl rf ++ modW 49 S (mkX M C T tl rf) K) rfl ?_
  refine ev_iadd_n dL_law_299 ?_
  refine ev_lald (i := i + 2) dL_law_300 (by omega) (by omega) ?_
  obtain ⟨z2, e2, r2⟩ := i32z (nI (E.2.2.2 (1000 + (i + 2))))
  refine ev_top (y := zI z2) e2 ?_
  obtain ⟨v, T', S', P', lt', sz', tl', rf', K', dx, dy, mcy, msy, b1, b2, b3, b4, hR', hX, hY⟩ := pr_price z1 z2 r1 r2 hR hQ hM
  refine ev_lawX (st := []) hX dL_law_301 tw_449 kX6_price rfl rfl trivial trivial rfl (by omega) (Nat.le_of_ble_eq_true rfl) (by omega) (by omega) (fun U1 O1 B1 Q1 C1 R1 hQ1 hC1 hC2 => ?_)
  refine ev_b bL_law_304_308 (lv' := [(3, .int (nI (i))), (2, .ref 49), (1, .ref 0), (0, .float 40)]) (st' := [.int (nI (1)), .int (nI (i)), .float 40, .ref 49, .int (v)]) (w2 := compW T' S' P' U1 O1 B1 Q1 C1 R1 tl' rf' ++ modW 49 S (mkX M C T tl rf) K) rfl ?_
  refine ev_iadd_n dL_law_308 ?_
  refine ev_lald (i := i + 1) dL_law_309 (by omega) (by omega) ?_
  refine ev_top (y := zI z1) e1 ?_
  refine ev_b bL_law_310_313 (lv' := [(3, .int (nI (i))), (2, .ref 49), (1, .ref 0), (0, .float 40)]) (st' := [.int (nI (2)), .int (nI (i)), .float 40, .int (zI (z1)), .ref 49, .int (v)]) (w2 := compW T' S' P' U1 O1 B1 Q1 C1 R1 tl' rf' ++ modW 49 S (mkX M C T tl rf) K) rfl ?_
  refine ev_iadd_n dL_law_313 ?_
  refine ev_lald (i := i + 2) dL_law_314 (by omega) (by omega) ?_
  refine ev_top (y := zI z2) e2 ?_
  refine ev_lawM (st := [.int v]) hY dL_law_315 tw_1088 kX7_price rfl rfl trivial trivial rfl rfl rfl (by omega) (Nat.le_of_ble_eq_true rfl) b3 b4 (by omega) (by omega) (fun X1 hM1 m1 m2 m3 m4 m5 => ?_)
  refine ev_icmp_eq (tgt := 1155) dL_law_318 (by decide) (fun _ => ?_) (fun h => absurd rfl h)
  subst hC1 hC2
  obtain ⟨M1, rfl⟩ : ∃ M1, X1 = mkX M1 C1 T' tl' rf' := ⟨X1, mkX_eq m1 m2 m3 m4 m5⟩
  exact hk T' S' P' U1 O1 B1 Q1 C1 R1 tl' rf' M1 K' hR' hQ1 hM1
theorem bL_law_323_327 {l : Launch} {E : XE} : Snd l E mL_law 323 327 (xs [x_aload 1, x_aload 0, x_iload 3, x_push (.int (nI 1))]) := Snd.cons (snd_aload_n (i := 1) dL_law_323 rfl) (Snd.cons (snd_aload_n (i := 0) dL_law_324 rfl) (Snd.cons (snd_iload_n (i := 3) dL_law_325 rfl) (Snd.cons (snd_iconst (v := nI 1) dL_law_326 (by decide)) Snd.nil)))
theorem bL_law_329_332 {l : Launch} {E : XE} : Snd l E mL_law 329 332 (xs [x_aload 0, x_iload 3, x_push (.int (nI 2))]) := Snd.cons (snd_aload_n (i := 0) dL_law_329 rfl) (Snd.cons (snd_iload_n (i := 3) dL_law_330 rfl) (Snd.cons (snd_iconst (v := nI 2) dL_law_331 (by decide)) Snd.nil))
theorem bL_law_334_337 {l : Launch} {E : XE} : Snd l E mL_law 334 337 (xs [x_aload 0, x_iload 3, x_push (.int (nI 3))]) := Snd.cons (snd_aload_n (i := 0) dL_law_334 rfl) (Snd.cons (snd_iload_n (i := 3) dL_law_335 rfl) (Snd.cons (snd_iconst (v := nI 3) dL_law_336 (by decide)) Snd.nil))
theorem bL_law_342_346 {l : Launch} {E : XE} : Snd l E mL_law 342 346 (xs [x_aload 2, x_aload 0, x_iload 3, x_push (.int (nI 1))]) := Snd.cons (snd_aload_n (i := 2) dL_law_342 rfl) (Snd.cons (snd_aload_n (i := 0) dL_law_343 rfl) (Snd.cons (snd_iload_n (i := 3) dL_law_344 rfl) (Snd.cons (snd_iconst (v := nI 1) dL_law_345 (by decide)) Snd.nil)))
theorem bL_law_348_351 {l : Launch} {E : XE} : Snd l E mL_law 348 351 (xs [x_aload 0, x_iload 3, x_push (.int (nI 2))]) := Snd.cons (snd_aload_n (i := 0) dL_law_348 rfl) (Snd.cons (snd_iload_n (i := 3) dL_law_349 rfl) (Snd.cons (snd_iconst (v := nI 2) dL_law_350 (by decide)) Snd.nil))
theorem bL_law_353_356 {l : Launch} {E : XE} : Snd l E mL_law 353 356 (xs [x_aload 0, x_iload 3, x_push (.int (nI 3))]) := Snd.cons (snd_aload_n (i := 0) dL_law_353 rfl) (Snd.cons (snd_iload_n (i := 3) dL_law_354 rfl) (Snd.cons (snd_iconst (v := nI 3) dL_law_355 (by decide)) Snd.nil))
set_option maxHeartbeats 1000000 in
theorem law_5 {l : Launch} {E : XE} {nc ns i : Nat} (hL : E.2.2.2 41 ≤ 2048) (hi : i + 4 ≤ E.2.2.2 41) (hnc : nc + 4 ≤ 600000) (hns : ns + 124 ≤ 7302249) (hk : LawK l E (nc + 4) (ns + 124) i 1155) : LawK l E nc ns i 323 := by
  intro T S P U O B Q C R tl rf M K hR hQ hM
  refine ev_b bL_law_323_327 (lv' := [(3, .int (nI (i))), (2, .ref 49), (1, .ref 0), (0, .float 40)]) (st' := [.int (nI (1)), .int (nI (i)), .float 40, .ref 0]) (w2 := compW T S P U O B Q C R tl rf ++ modW 49 S (mkX M C T tl rf) K) rfl ?_
  refine ev_iadd_n dL_law_327 ?_
  refine ev_lald (i := i + 1) dL_law_328 (by omega) (by omega) ?_
  obtain ⟨z1, e1, r1⟩ := i32z (nI (E.2.2.2 (1000 + (i + 1))))
  refine ev_top (y := zI z1) e1 ?_
  refine ev_b bL_law_329_332 (lv' := [(3, .int (nI (i))), (2, .ref 49), (1, .ref 0), (0, .float 40)]) (st' := [.int (nI (2)), .int (nI (i)), .float 40, .int (zI (z1)), .ref 0]) (w2 := compW T S P U O B Q C R tl rf ++ modW 49 S (mkX M C T tl rf) K) rfl ?_
  refine ev_iadd_n dL_law_332 ?_
  refine ev_lald (i := i + 2) dL_law_333 (by omega) (by omega) ?_
  obtain ⟨z2, e2, r2⟩ := i32z (nI (E.2.2.2 (1000 + (i + 2))))
  refine ev_top (y := zI z2) e2 ?_
  refine ev_b bL_law_334_337 (lv' := [(3, .int (nI (i))), (2, .ref 49), (1, .ref 0), (0, .float 40)]) (st' := [.int (nI (3)), .int (nI (i)), .float 40, .int (zI (z2)), .int (zI (z1)), .ref 0]) (w2 := compW T S P U O B Q C R tl rf ++ modW 49 S (mkX M C T tl rf) K) rfl ?_
  refine ev_iadd_n dL_law_337 ?_
  refine ev_lald (i := i + 3) dL_law_338 (by omega) (by omega) ?_
  obtain ⟨z3, e3, r3⟩ := i32z (nI (E.2.2.2 (1000 + (i + 3))))
  refine ev_top (y := zI z3) e3 ?_
  obtain ⟨v, T', S', P', lt', sz', tl', rf', K', dx, dy, mcy, msy, b1, b2, b3, b4, hR', hX, hY⟩ := pr_kind z1 z2 z3 r1 r2 r3 hR hQ hM
  refine ev_lawX (st := []) hX dL_law_339 tw_458 kX6_kind rfl rfl trivial trivial rfl (by omega) (Nat.le_of_ble_eq_true rfl) (by omega) (by omega) (fun U1 O1 B1 Q1 C1 R1 hQ1 hC1 hC2 => ?_)
  refine ev_b bL_law_342_346 (lv' := [(3, .int (nI (i))), (2, .ref 49), (1, .ref 0), (0, .float 40)]) (st' := [.int (nI (1)), .int (nI (i)), .float 40, .ref 49, .int (v)]) (w2 := compW T' S' P' U1 O1 B1 Q1 C1 R1 tl' rf' ++ modW 49 S (mkX M C T tl rf) K) rfl ?_
  refine ev_iadd_n dL_law_346 ?_
  refine ev_lald (i := i + 1) dL_law_347 (by omega) (by omega) ?_
  refine ev_top (y := zI z1) e1 ?_
  refine ev_b bL_law_348_351 (lv' := [(3, .int (nI (i))), (2, .ref 49), (1, .ref 0), (0, .float 40)]) (st' := [.int (nI (2)), .int (nI (i)), .float 40, .int (zI (z1)), .ref 49, .int (v)]) (w2 := compW T' S' P' U1 O1 B1 Q1 C1 R1 tl' rf' ++ modW 49 S (mkX M C T tl rf) K) rfl ?_
  refine ev_iadd_n dL_law_351 ?_
  refine ev_lald (i := i + 2) dL_law_352 (by omega) (by omega) ?_
  refine ev_top (y := zI z2) e2 ?_
  refine ev_b bL_law_353_356 (lv' := [(3, .int (nI (i))), (2, .ref 49), (1, .ref 0), (0, .float 40)]) (st' := [.int (nI (3)), .int (nI (i)), .float 40, .int (zI (z2)), .int (zI (z1)), .ref 49, .int (v)]) (w2 := compW T' S' P' U1 O1 B1 Q1 C1 R1 tl' rf' ++ modW 49 S (mkX M C T tl rf) K) rfl ?_
  refine ev_iadd_n dL_law_356 ?_
  refine ev_lald (i := i + 3) dL_law_357 (by omega) (by omega) ?_
  refine ev_top (y := zI z3) e3 ?_
  refine ev_lawM (st := [.int v]) hY dL_law_358 tw_1092 kX7_kind rfl rfl trivial trivial rfl rfl rfl (by omega) (Nat.le_of_ble_eq_true rfl) b3 b4 (by omega) (by omega) (fun X1 hM1 m1 m2 m3 m4 m5 => ?_)
  refine ev_icmp_eq (tgt := 1155) dL_law_361 (by decide) (fun _ => ?_) (fun h => absurd rfl h)
  subst hC1 hC2
  obtain ⟨M1, rfl⟩ : ∃ M1, X1 = mkX M1 C1 T' tl' rf' := ⟨X1, mkX_eq m1 m2 m3 m4 m5⟩
  exact hk T' S' P' U1 O1 B1 Q1 C1 R1 tl' rf' M1 K' hR' hQ1 hM1
theorem bL_law_366_370 {l : Launch} {E : XE} : Snd l E mL_law 366 370 (xs [x_aload 1, x_aload 0, x_iload 3, x_push (.int (nI 1))]) := Snd.cons (snd_aload_n (i := 1) dL_law_366 rfl) (Snd.cons (snd_aload_n (i := 0) dL_law_367 rfl) (Snd.cons (snd_iload_n (i := 3) dL_law_368 rfl) (Snd.cons (snd_iconst (v := nI 1) dL_law_369 (by decide)) Snd.nil)))
theorem bL_law_372_375 {l : Launch} {E : XE} : Snd l E mL_law 372 375 (xs [x_aload 0, x_iload 3, x_push (.int (nI 2))]) := Snd.cons (snd_aload_n (i := 0) dL_law_372 rfl) (Snd.cons (snd_iload_n (i := 3) dL_law_373 rfl) (Snd.cons (snd_iconst (v := nI 2) dL_law_374 (by decide)) Snd.nil))
theorem bL_law_380_384 {l : Launch} {E : XE} : Snd l E mL_law 380 384 (xs [x_aload 2, x_aload 0, x_iload 3, x_push (.int (nI 1))]) := Snd.cons (snd_aload_n (i := 2) dL_law_380 rfl) (Snd.cons (snd_aload_n (i := 0) dL_law_381 rfl) (Snd.cons (snd_iload_n (i := 3) dL_law_382 rfl) (Snd.cons (snd_iconst (v := nI 1) dL_law_383 (by decide)) Snd.nil)))
theorem bL_law_386_389 {l : Launch} {E : XE} : Snd l E mL_law 386 389 (xs [x_aload 0, x_iload 3, x_push (.int (nI 2))]) := Snd.cons (snd_aload_n (i := 0) dL_law_386 rfl) (Snd.cons (snd_iload_n (i := 3) dL_law_387 rfl) (Snd.cons (snd_iconst (v := nI 2) dL_law_388 (by decide)) Snd.nil))
set_option maxHeartbeats 1000000 in
theorem law_6 {l : Launch} {E : XE} {nc ns i : Nat} (hL : E.2.2.2 41 ≤ 2048) (hi : i + 4 ≤ E.2.2.2 41) (hnc : nc + 4 ≤ 600000) (hns : ns + 124 ≤ 7302249) (hk : LawK l E (nc + 4) (ns + 124) i 1155) : LawK l E nc ns i 366 := by
  intro T S P U O B Q C R tl rf M K hR hQ hM
  refine ev_b bL_law_366_370 (lv' := [(3, .int (nI (i))), (2, .ref 49), (1, .ref 0), (0, .float 40)]) (st' := [.int (nI (1)), .int (nI (i)), .float 40, .ref 0]) (w2 := compW T S P U O B Q C R tl rf ++ modW 49 S (mkX M C T tl rf) K) rfl ?_
  refine ev_iadd_n dL_law_370 ?_
  refine ev_lald (i := i + 1) dL_law_371 (by omega) (by omega) ?_
  obtain ⟨z1, e1, r1⟩ := i32z (nI (E.2.2.2 (1000 + (i + 1))))
  refine ev_top (y := zI z1) e1 ?_
  refine ev_b bL_law_372_375 (lv' := [(3, .int (nI (i))), (2, .ref 49), (1, .ref 0), (0, .float 40)]) (st' := [.int (nI (2)), .int (nI (i)), .float 40, .int (zI (z1)), .ref 0]) (w2 := compW T S P U O B Q C R tl rf ++ modW 49 S (mkX M C T tl rf) K) rfl ?_
  refine ev_iadd_n dL_law_375 ?_
  refine ev_lald (i := i + 2) dL_law_376 (by omega) (by omega) ?_
  obtain ⟨z2, e2, r2⟩ := i32z (nI (E.2.2.2 (1000 + (i + 2))))
  refine ev_top (y := zI z2) e2 ?_
  obtain ⟨v, T', S', P', lt', sz', tl', rf', K', dx, dy, mcy, msy, b1, b2, b3, b4, hR', hX, hY⟩ := pr_keep z1 z2 r1 r2 hR hQ hM
  refine ev_lawX (st := []) hX dL_law_377 tw_471 kX6_keep rfl rfl trivial trivial rfl (by omega) (Nat.le_of_ble_eq_true rfl) (by omega) (by omega) (fun U1 O1 B1 Q1 C1 R1 hQ1 hC1 hC2 => ?_)
  refine ev_b bL_law_380_384 (lv' := [(3, .int (nI (i))), (2, .ref 49), (1, .ref 0), (0, .float 40)]) (st' := [.int (nI (1)), .int (nI (i)), .float 40, .ref 49, .int (v)]) (w2 := compW T' S' P' U1 O1 B1 Q1 C1 R1 tl' rf' ++ modW 49 S (mkX M C T tl rf) K) rfl ?_
  refine ev_iadd_n dL_law_384 ?_
  refine ev_lald (i := i + 1) dL_law_385 (by omega) (by omega) ?_
  refine ev_top (y := zI z1) e1 ?_
  refine ev_b bL_law_386_389 (lv' := [(3, .int (nI (i))), (2, .ref 49), (1, .ref 0), (0, .float 40)]) (st' := [.int (nI (2)), .int (nI (i)), .float 40, .int (zI (z1)), .ref 49, .int (v)]) (w2 := compW T' S' P' U1 O1 B1 Q1 C1 R1 tl' rf' ++ modW 49 S (mkX M C T tl rf) K) rfl ?_
  refine ev_iadd_n dL_law_389 ?_
  refine ev_lald (i := i + 2) dL_law_390 (by omega) (by omega) ?_
  refine ev_top (y := zI z2) e2 ?_
  refine ev_lawM (st := [.int v]) hY dL_law_391 tw_1096 kX7_keep rfl rfl trivial trivial rfl rfl rfl (by omega) (Nat.le_of_ble_eq_true rfl) b3 b4 (by omega) (by omega) (fun X1 hM1 m1 m2 m3 m4 m5 => ?_)
  refine ev_icmp_eq (tgt := 1155) dL_law_394 (by decide) (fun _ => ?_) (fun h => absurd rfl h)
  subst hC1 hC2
  obtain ⟨M1, rfl⟩ : ∃ M1, X1 = mkX M1 C1 T' tl' rf' := ⟨X1, mkX_eq m1 m2 m3 m4 m5⟩
  exact hk T' S' P' U1 O1 B1 Q1 C1 R1 tl' rf' M1 K' hR' hQ1 hM1
theorem bL_law_399_403 {l : Launch} {E : XE} : Snd l E mL_law 399 403 (xs [x_aload 1, x_aload 0, x_iload 3, x_push (.int (nI 1))]) := Snd.cons (snd_aload_n (i := 1) dL_law_399 rfl) (Snd.cons (snd_aload_n (i := 0) dL_law_400 rfl) (Snd.cons (snd_iload_n (i := 3) dL_law_401 rfl) (Snd.cons (snd_iconst (v := nI 1) dL_law_402 (by decide)) Snd.nil)))
theorem bL_law_405_408 {l : Launch} {E : XE} : Snd l E mL_law 405 408 (xs [x_aload 0, x_iload 3, x_push (.int (nI 2))]) := Snd.cons (snd_aload_n (i := 0) dL_law_405 rfl) (Snd.cons (snd_iload_n (i := 3) dL_law_406 rfl) (Snd.cons (snd_iconst (v := nI 2) dL_law_407 (by decide)) Snd.nil))
theorem bL_law_413_417 {l : Launch} {E : XE} : Snd l E mL_law 413 417 (xs [x_aload 2, x_aload 0, x_iload 3, x_push (.int (nI 1))]) := Snd.cons (snd_aload_n (i := 2) dL_law_413 rfl) (Snd.cons (snd_aload_n (i := 0) dL_law_414 rfl) (Snd.cons (snd_iload_n (i := 3) dL_law_415 rfl) (Snd.cons (snd_iconst (v := nI 1) dL_law_416 (by decide)) Snd.nil)))
theorem bL_law_419_422 {l : Launch} {E : XE} : Snd l E mL_law 419 422 (xs [x_aload 0, x_iload 3, x_push (.int (nI 2))]) := Snd.cons (snd_aload_n (i := 0) dL_law_419 rfl) (Snd.cons (snd_iload_n (i := 3) dL_law_420 rfl) (Snd.cons (snd_iconst (v := nI 2) dL_law_421 (by decide)) Snd.nil))
set_option maxHeartbeats 1000000 in
theorem law_7 {l : Launch} {E : XE} {nc ns i : Nat} (hL : E.2.2.2 41 ≤ 2048) (hi : i + 4 ≤ E.2.2.2 41) (hnc : nc + 4 ≤ 600000) (hns : ns + 124 ≤ 7302249) (hk : LawK l E (nc + 4) (ns + 124) i 1155) : LawK l E nc ns i 399 := by
  intro T S P U O B Q C R tl rf M K hR hQ hM
  refine ev_b bL_law_399_403 (lv' := [(3, .int (nI (i))), (2, .ref 49), (1, .ref 0), (0, .float 40)]) (st' := [.int (nI (1)), .int (nI (i)), .float 40, .ref 0]) (w2 := compW T S P U O B Q C R tl rf ++ modW 49 S (mkX M C T tl rf) K) rfl ?_
  refine ev_iadd_n dL_law_403 ?_
  refine ev_lald (i := i + 1) dL_law_404 (by omega) (by omega) ?_
  obtain ⟨z1, e1, r1⟩ := i32z (nI (E.2.2.2 (1000 + (i + 1))))
  refine ev_top (y := zI z1) e1 ?_
  refine ev_b bL_law_405_408 (lv' := [(3, .int (nI (i))), (2, .ref 49), (1, .ref 0), (0, .float 40)]) (st' := [.int (nI (2)), .int (nI (i)), .float 40, .int (zI (z1)), .ref 0]) (w2 := compW T S P U O B Q C R tl rf ++ modW 49 S (mkX M C T tl rf) K) rfl ?_
  refine ev_iadd_n dL_law_408 ?_
  refine ev_lald (i := i + 2) dL_law_409 (by omega) (by omega) ?_
  obtain ⟨z2, e2, r2⟩ := i32z (nI (E.2.2.2 (1000 + (i + 2))))
  refine ev_top (y := zI z2) e2 ?_
  obtain ⟨v, T', S', P', lt', sz', tl', rf', K', dx, dy, mcy, msy, b1, b2, b3, b4, hR', hX, hY⟩ := pr_bid z1 z2 r1 r2 hR hQ hM
  refine ev_lawX (st := []) hX dL_law_410 tw_481 kX6_bid rfl rfl trivial trivial rfl (by omega) (Nat.le_of_ble_eq_true rfl) (by omega) (by omega) (fun U1 O1 B1 Q1 C1 R1 hQ1 hC1 hC2 => ?_)
  refine ev_b bL_law_413_417 (lv' := [(3, .int (nI (i))), (2, .ref 49), (1, .ref 0), (0, .float 40)]) (st' := [.int (nI (1)), .int (nI (i)), .float 40, .ref 49, .int (v)]) (w2 := compW T' S' P' U1 O1 B1 Q1 C1 R1 tl' rf' ++ modW 49 S (mkX M C T tl rf) K) rfl ?_
  refine ev_iadd_n dL_law_417 ?_
  refine ev_lald (i := i + 1) dL_law_418 (by omega) (by omega) ?_
  refine ev_top (y := zI z1) e1 ?_
  refine ev_b bL_law_419_422 (lv' := [(3, .int (nI (i))), (2, .ref 49), (1, .ref 0), (0, .float 40)]) (st' := [.int (nI (2)), .int (nI (i)), .float 40, .int (zI (z1)), .ref 49, .int (v)]) (w2 := compW T' S' P' U1 O1 B1 Q1 C1 R1 tl' rf' ++ modW 49 S (mkX M C T tl rf) K) rfl ?_
  refine ev_iadd_n dL_law_422 ?_
  refine ev_lald (i := i + 2) dL_law_423 (by omega) (by omega) ?_
  refine ev_top (y := zI z2) e2 ?_
  refine ev_lawM (st := [.int v]) hY dL_law_424 tw_1100 kX7_bid rfl rfl trivial trivial rfl rfl rfl (by omega) (Nat.le_of_ble_eq_true rfl) b3 b4 (by omega) (by omega) (fun X1 hM1 m1 m2 m3 m4 m5 => ?_)
  refine ev_icmp_eq (tgt := 1155) dL_law_427 (by decide) (fun _ => ?_) (fun h => absurd rfl h)
  subst hC1 hC2
  obtain ⟨M1, rfl⟩ : ∃ M1, X1 = mkX M1 C1 T' tl' rf' := ⟨X1, mkX_eq m1 m2 m3 m4 m5⟩
  exact hk T' S' P' U1 O1 B1 Q1 C1 R1 tl' rf' M1 K' hR' hQ1 hM1
theorem bL_law_432_436 {l : Launch} {E : XE} : Snd l E mL_law 432 436 (xs [x_aload 1, x_aload 0, x_iload 3, x_push (.int (nI 1))]) := Snd.cons (snd_aload_n (i := 1) dL_law_432 rfl) (Snd.cons (snd_aload_n (i := 0) dL_law_433 rfl) (Snd.cons (snd_iload_n (i := 3) dL_law_434 rfl) (Snd.cons (snd_iconst (v := nI 1) dL_law_435 (by decide)) Snd.nil)))
theorem bL_law_438_441 {l : Launch} {E : XE} : Snd l E mL_law 438 441 (xs [x_aload 0, x_iload 3, x_push (.int (nI 2))]) := Snd.cons (snd_aload_n (i := 0) dL_law_438 rfl) (Snd.cons (snd_iload_n (i := 3) dL_law_439 rfl) (Snd.cons (snd_iconst (v := nI 2) dL_law_440 (by decide)) Snd.nil))
theorem bL_law_446_450 {l : Launch} {E : XE} : Snd l E mL_law 446 450 (xs [x_aload 2, x_aload 0, x_iload 3, x_push (.int (nI 1))]) := Snd.cons (snd_aload_n (i := 2) dL_law_446 rfl) (Snd.cons (snd_aload_n (i := 0) dL_law_447 rfl) (Snd.cons (snd_iload_n (i := 3) dL_law_448 rfl) (Snd.cons (snd_iconst (v := nI 1) dL_law_449 (by decide)) Snd.nil)))
theorem bL_law_452_455 {l : Launch} {E : XE} : Snd l E mL_law 452 455 (xs [x_aload 0, x_iload 3, x_push (.int (nI 2))]) := Snd.cons (snd_aload_n (i := 0) dL_law_452 rfl) (Snd.cons (snd_iload_n (i := 3) dL_law_453 rfl) (Snd.cons (snd_iconst (v := nI 2) dL_law_454 (by decide)) Snd.nil))
set_option maxHeartbeats 1000000 in
theorem law_8 {l : Launch} {E : XE} {nc ns i : Nat} (hL : E.2.2.2 41 ≤ 2048) (hi : i + 4 ≤ E.2.2.2 41) (hnc : nc + 4 ≤ 600000) (hns : ns + 124 ≤ 7302249) (hk : LawK l E (nc + 4) (ns + 124) i 1155) : LawK l E nc ns i 432 := by
  intro T S P U O B Q C R tl rf M K hR hQ hM
  refine ev_b bL_law_432_436 (lv' := [(3, .int (nI (i))), (2, .ref 49), (1, .ref 0), (0, .float 40)]) (st' := [.int (nI (1)), .int (nI (i)), .float 40, .ref 0]) (w2 := compW T S P U O B Q C R tl rf ++ modW 49 S (mkX M C T tl rf) K) rfl ?_
  refine ev_iadd_n dL_law_436 ?_
  refine ev_lald (i := i + 1) dL_law_437 (by omega) (by omega) ?_
  obtain ⟨z1, e1, r1⟩ := i32z (nI (E.2.2.2 (1000 + (i + 1))))
  refine ev_top (y := zI z1) e1 ?_
  refine ev_b bL_law_438_441 (lv' := [(3, .int (nI (i))), (2, .ref 49), (1, .ref 0), (0, .float 40)]) (st' := [.int (nI (2)), .int (nI (i)), .float 40, .int (zI (z1)), .ref 0]) (w2 := compW T S P U O B Q C R tl rf ++ modW 49 S (mkX M C T tl rf) K) rfl ?_
  refine ev_iadd_n dL_law_441 ?_
  refine ev_lald (i := i + 2) dL_law_442 (by omega) (by omega) ?_
  obtain ⟨z2, e2, r2⟩ := i32z (nI (E.2.2.2 (1000 + (i + 2))))
  refine ev_top (y := zI z2) e2 ?_
  obtain ⟨v, T', S', P', lt', sz', tl', rf', K', dx, dy, mcy, msy, b1, b2, b3, b4, hR', hX, hY⟩ := pr_bidder z1 z2 r1 r2 hR hQ hM
  refine ev_lawX (st := []) hX dL_law_443 tw_580 kX6_bidder rfl rfl trivial trivial rfl (by omega) (Nat.le_of_ble_eq_true rfl) (by omega) (by omega) (fun U1 O1 B1 Q1 C1 R1 hQ1 hC1 hC2 => ?_)
  refine ev_b bL_law_446_450 (lv' := [(3, .int (nI (i))), (2, .ref 49), (1, .ref 0), (0, .float 40)]) (st' := [.int (nI (1)), .int (nI (i)), .float 40, .ref 49, .int (v)]) (w2 := compW T' S' P' U1 O1 B1 Q1 C1 R1 tl' rf' ++ modW 49 S (mkX M C T tl rf) K) rfl ?_
  refine ev_iadd_n dL_law_450 ?_
  refine ev_lald (i := i + 1) dL_law_451 (by omega) (by omega) ?_
  refine ev_top (y := zI z1) e1 ?_
  refine ev_b bL_law_452_455 (lv' := [(3, .int (nI (i))), (2, .ref 49), (1, .ref 0), (0, .float 40)]) (st' := [.int (nI (2)), .int (nI (i)), .float 40, .int (zI (z1)), .ref 49, .int (v)]) (w2 := compW T' S' P' U1 O1 B1 Q1 C1 R1 tl' rf' ++ modW 49 S (mkX M C T tl rf) K) rfl ?_
  refine ev_iadd_n dL_law_455 ?_
  refine ev_lald (i := i + 2) dL_law_456 (by omega) (by omega) ?_
  refine ev_top (y := zI z2) e2 ?_
  refine ev_lawM (st := [.int v]) hY dL_law_457 tw_1151 kX7_bidder rfl rfl trivial trivial rfl rfl rfl (by omega) (Nat.le_of_ble_eq_true rfl) b3 b4 (by omega) (by omega) (fun X1 hM1 m1 m2 m3 m4 m5 => ?_)
  refine ev_icmp_eq (tgt := 1155) dL_law_460 (by decide) (fun _ => ?_) (fun h => absurd rfl h)
  subst hC1 hC2
  obtain ⟨M1, rfl⟩ : ∃ M1, X1 = mkX M1 C1 T' tl' rf' := ⟨X1, mkX_eq m1 m2 m3 m4 m5⟩
  exact hk T' S' P' U1 O1 B1 Q1 C1 R1 tl' rf' M1 K' hR' hQ1 hM1
theorem bL_law_465_469 {l : Launch} {E : XE} : Snd l E mL_law 465 469 (xs [x_aload 1, x_aload 0, x_iload 3, x_push (.int (nI 1))]) := Snd.cons (snd_aload_n (i := 1) dL_law_465 rfl) (Snd.cons (snd_aload_n (i := 0) dL_law_466 rfl) (Snd.cons (snd_iload_n (i := 3) dL_law_467 rfl) (Snd.cons (snd_iconst (v := nI 1) dL_law_468 (by decide)) Snd.nil)))
theorem bL_law_474_478 {l : Launch} {E : XE} : Snd l E mL_law 474 478 (xs [x_aload 2, x_aload 0, x_iload 3, x_push (.int (nI 1))]) := Snd.cons (snd_aload_n (i := 2) dL_law_474 rfl) (Snd.cons (snd_aload_n (i := 0) dL_law_475 rfl) (Snd.cons (snd_iload_n (i := 3) dL_law_476 rfl) (Snd.cons (snd_iconst (v := nI 1) dL_law_477 (by decide)) Snd.nil)))
set_option maxHeartbeats 1000000 in
theorem law_9 {l : Launch} {E : XE} {nc ns i : Nat} (hL : E.2.2.2 41 ≤ 2048) (hi : i + 4 ≤ E.2.2.2 41) (hnc : nc + 4 ≤ 600000) (hns : ns + 124 ≤ 7302249) (hk : LawK l E (nc + 4) (ns + 124) i 1155) : LawK l E nc ns i 465 := by
  intro T S P U O B Q C R tl rf M K hR hQ hM
  refine ev_b bL_law_465_469 (lv' := [(3, .int (nI (i))), (2, .ref 49), (1, .ref 0), (0, .float 40)]) (st' := [.int (nI (1)), .int (nI (i)), .float 40, .ref 0]) (w2 := compW T S P U O B Q C R tl rf ++ modW 49 S (mkX M C T tl rf) K) rfl ?_
  refine ev_iadd_n dL_law_469 ?_
  refine ev_lald (i := i + 1) dL_law_470 (by omega) (by omega) ?_
  obtain ⟨z1, e1, r1⟩ := i32z (nI (E.2.2.2 (1000 + (i + 1))))
  refine ev_top (y := zI z1) e1 ?_
  obtain ⟨v, T', S', P', lt', sz', tl', rf', K', dx, dy, mcy, msy, b1, b2, b3, b4, hR', hX, hY⟩ := pr_may z1 r1 hR hQ hM
  refine ev_lawX (st := []) hX dL_law_471 tw_613 kX6_may rfl rfl trivial trivial rfl (by omega) (Nat.le_of_ble_eq_true rfl) (by omega) (by omega) (fun U1 O1 B1 Q1 C1 R1 hQ1 hC1 hC2 => ?_)
  refine ev_b bL_law_474_478 (lv' := [(3, .int (nI (i))), (2, .ref 49), (1, .ref 0), (0, .float 40)]) (st' := [.int (nI (1)), .int (nI (i)), .float 40, .ref 49, .int (v)]) (w2 := compW T' S' P' U1 O1 B1 Q1 C1 R1 tl' rf' ++ modW 49 S (mkX M C T tl rf) K) rfl ?_
  refine ev_iadd_n dL_law_478 ?_
  refine ev_lald (i := i + 1) dL_law_479 (by omega) (by omega) ?_
  refine ev_top (y := zI z1) e1 ?_
  refine ev_lawM (st := [.int v]) hY dL_law_480 tw_1171 kX7_may rfl rfl trivial trivial rfl rfl rfl (by omega) (Nat.le_of_ble_eq_true rfl) b3 b4 (by omega) (by omega) (fun X1 hM1 m1 m2 m3 m4 m5 => ?_)
  refine ev_icmp_eq (tgt := 1155) dL_law_483 (by decide) (fun _ => ?_) (fun h => absurd rfl h)
  subst hC1 hC2
  obtain ⟨M1, rfl⟩ : ∃ M1, X1 = mkX M1 C1 T' tl' rf' := ⟨X1, mkX_eq m1 m2 m3 m4 m5⟩
  exact hk T' S' P' U1 O1 B1 Q1 C1 R1 tl' rf' M1 K' hR' hQ1 hM1
theorem bL_law_488_492 {l : Launch} {E : XE} : Snd l E mL_law 488 492 (xs [x_aload 1, x_aload 0, x_iload 3, x_push (.int (nI 1))]) := Snd.cons (snd_aload_n (i := 1) dL_law_488 rfl) (Snd.cons (snd_aload_n (i := 0) dL_law_489 rfl) (Snd.cons (snd_iload_n (i := 3) dL_law_490 rfl) (Snd.cons (snd_iconst (v := nI 1) dL_law_491 (by decide)) Snd.nil)))
theorem bL_law_497_501 {l : Launch} {E : XE} : Snd l E mL_law 497 501 (xs [x_aload 2, x_aload 0, x_iload 3, x_push (.int (nI 1))]) := Snd.cons (snd_aload_n (i := 2) dL_law_497 rfl) (Snd.cons (snd_aload_n (i := 0) dL_law_498 rfl) (Snd.cons (snd_iload_n (i := 3) dL_law_499 rfl) (Snd.cons (snd_iconst (v := nI 1) dL_law_500 (by decide)) Snd.nil)))
set_option maxHeartbeats 1000000 in
theorem law_10 {l : Launch} {E : XE} {nc ns i : Nat} (hL : E.2.2.2 41 ≤ 2048) (hi : i + 4 ≤ E.2.2.2 41) (hnc : nc + 4 ≤ 600000) (hns : ns + 124 ≤ 7302249) (hk : LawK l E (nc + 4) (ns + 124) i 1155) : LawK l E nc ns i 488 := by
  intro T S P U O B Q C R tl rf M K hR hQ hM
  refine ev_b bL_law_488_492 (lv' := [(3, .int (nI (i))), (2, .ref 49), (1, .ref 0), (0, .float 40)]) (st' := [.int (nI (1)), .int (nI (i)), .float 40, .ref 0]) (w2 := compW T S P U O B Q C R tl rf ++ modW 49 S (mkX M C T tl rf) K) rfl ?_
  refine ev_iadd_n dL_law_492 ?_
  refine ev_lald (i := i + 1) dL_law_493 (by omega) (by omega) ?_
  obtain ⟨z1, e1, r1⟩ := i32z (nI (E.2.2.2 (1000 + (i + 1))))
  refine ev_top (y := zI z1) e1 ?_
  obtain ⟨v, T', S', P', lt', sz', tl', rf', K', dx, dy, mcy, msy, b1, b2, b3, b4, hR', hX, hY⟩ := pr_winners z1 r1 hR hQ hM
  refine ev_lawX (st := []) hX dL_law_494 tw_625 kX6_winners rfl rfl trivial trivial rfl (by omega) (Nat.le_of_ble_eq_true rfl) (by omega) (by omega) (fun U1 O1 B1 Q1 C1 R1 hQ1 hC1 hC2 => ?_)
  refine ev_b bL_law_497_501 (lv' := [(3, .int (nI (i))), (2, .ref 49), (1, .ref 0), (0, .float 40)]) (st' := [.int (nI (1)), .int (nI (i)), .float 40, .ref 49, .int (v)]) (w2 := compW T' S' P' U1 O1 B1 Q1 C1 R1 tl' rf' ++ modW 49 S (mkX M C T tl rf) K) rfl ?_
  refine ev_iadd_n dL_law_501 ?_
  refine ev_lald (i := i + 1) dL_law_502 (by omega) (by omega) ?_
  refine ev_top (y := zI z1) e1 ?_
  refine ev_lawM (st := [.int v]) hY dL_law_503 tw_1175 kX7_winners rfl rfl trivial trivial rfl rfl rfl (by omega) (Nat.le_of_ble_eq_true rfl) b3 b4 (by omega) (by omega) (fun X1 hM1 m1 m2 m3 m4 m5 => ?_)
  refine ev_icmp_eq (tgt := 1155) dL_law_506 (by decide) (fun _ => ?_) (fun h => absurd rfl h)
  subst hC1 hC2
  obtain ⟨M1, rfl⟩ : ∃ M1, X1 = mkX M1 C1 T' tl' rf' := ⟨X1, mkX_eq m1 m2 m3 m4 m5⟩
  exact hk T' S' P' U1 O1 B1 Q1 C1 R1 tl' rf' M1 K' hR' hQ1 hM1
theorem bL_law_511_515 {l : Launch} {E : XE} : Snd l E mL_law 511 515 (xs [x_aload 1, x_aload 0, x_iload 3, x_push (.int (nI 1))]) := Snd.cons (snd_aload_n (i := 1) dL_law_511 rfl) (Snd.cons (snd_aload_n (i := 0) dL_law_512 rfl) (Snd.cons (snd_iload_n (i := 3) dL_law_513 rfl) (Snd.cons (snd_iconst (v := nI 1) dL_law_514 (by decide)) Snd.nil)))
theorem bL_law_517_520 {l : Launch} {E : XE} : Snd l E mL_law 517 520 (xs [x_aload 0, x_iload 3, x_push (.int (nI 2))]) := Snd.cons (snd_aload_n (i := 0) dL_law_517 rfl) (Snd.cons (snd_iload_n (i := 3) dL_law_518 rfl) (Snd.cons (snd_iconst (v := nI 2) dL_law_519 (by decide)) Snd.nil))
theorem bL_law_525_529 {l : Launch} {E : XE} : Snd l E mL_law 525 529 (xs [x_aload 2, x_aload 0, x_iload 3, x_push (.int (nI 1))]) := Snd.cons (snd_aload_n (i := 2) dL_law_525 rfl) (Snd.cons (snd_aload_n (i := 0) dL_law_526 rfl) (Snd.cons (snd_iload_n (i := 3) dL_law_527 rfl) (Snd.cons (snd_iconst (v := nI 1) dL_law_528 (by decide)) Snd.nil)))
theorem bL_law_531_534 {l : Launch} {E : XE} : Snd l E mL_law 531 534 (xs [x_aload 0, x_iload 3, x_push (.int (nI 2))]) := Snd.cons (snd_aload_n (i := 0) dL_law_531 rfl) (Snd.cons (snd_iload_n (i := 3) dL_law_532 rfl) (Snd.cons (snd_iconst (v := nI 2) dL_law_533 (by decide)) Snd.nil))
set_option maxHeartbeats 1000000 in
theorem law_11 {l : Launch} {E : XE} {nc ns i : Nat} (hL : E.2.2.2 41 ≤ 2048) (hi : i + 4 ≤ E.2.2.2 41) (hnc : nc + 4 ≤ 600000) (hns : ns + 124 ≤ 7302249) (hk : LawK l E (nc + 4) (ns + 124) i 1155) : LawK l E nc ns i 511 := by
  intro T S P U O B Q C R tl rf M K hR hQ hM
  refine ev_b bL_law_511_515 (lv' := [(3, .int (nI (i))), (2, .ref 49), (1, .ref 0), (0, .float 40)]) (st' := [.int (nI (1)), .int (nI (i)), .float 40, .ref 0]) (w2 := compW T S P U O B Q C R tl rf ++ modW 49 S (mkX M C T tl rf) K) rfl ?_
  refine ev_iadd_n dL_law_515 ?_
  refine ev_lald (i := i + 1) dL_law_516 (by omega) (by omega) ?_
  obtain ⟨z1, e1, r1⟩ := i32z (nI (E.2.2.2 (1000 + (i + 1))))
  refine ev_top (y := zI z1) e1 ?_
  refine ev_b bL_law_517_520 (lv' := [(3, .int (nI (i))), (2, .ref 49), (1, .ref 0), (0, .float 40)]) (st' := [.int (nI (2)), .int (nI (i)), .float 40, .int (zI (z1)), .ref 0]) (w2 := compW T S P U O B Q C R tl rf ++ modW 49 S (mkX M C T tl rf) K) rfl ?_
  refine ev_iadd_n dL_law_520 ?_
  refine ev_lald (i := i + 2) dL_law_521 (by omega) (by omega) ?_
  obtain ⟨z2, e2, r2⟩ := i32z (nI (E.2.2.2 (1000 + (i + 2))))
  refine ev_top (y := zI z2) e2 ?_
  obtain ⟨v, T', S', P', lt', sz', tl', rf', K', dx, dy, mcy, msy, b1, b2, b3, b4, hR', hX, hY⟩ := pr_rank z1 z2 r1 r2 hR hQ hM
  refine ev_lawX (st := []) hX dL_law_522 tw_663 kX6_rank rfl rfl trivial trivial rfl (by omega) (Nat.le_of_ble_eq_true rfl) (by omega) (by omega) (fun U1 O1 B1 Q1 C1 R1 hQ1 hC1 hC2 => ?_)
  refine ev_b bL_law_525_529 (lv' := [(3, .int (nI (i))), (2, .ref 49), (1, .ref 0), (0, .float 40)]) (st' := [.int (nI (1)), .int (nI (i)), .float 40, .ref 49, .int (v)]) (w2 := compW T' S' P' U1 O1 B1 Q1 C1 R1 tl' rf' ++ modW 49 S (mkX M C T tl rf) K) rfl ?_
  refine ev_iadd_n dL_law_529 ?_
  refine ev_lald (i := i + 1) dL_law_530 (by omega) (by omega) ?_
  refine ev_top (y := zI z1) e1 ?_
  refine ev_b bL_law_531_534 (lv' := [(3, .int (nI (i))), (2, .ref 49), (1, .ref 0), (0, .float 40)]) (st' := [.int (nI (2)), .int (nI (i)), .float 40, .int (zI (z1)), .ref 49, .int (v)]) (w2 := compW T' S' P' U1 O1 B1 Q1 C1 R1 tl' rf' ++ modW 49 S (mkX M C T tl rf) K) rfl ?_
  refine ev_iadd_n dL_law_534 ?_
  refine ev_lald (i := i + 2) dL_law_535 (by omega) (by omega) ?_
  refine ev_top (y := zI z2) e2 ?_
  refine ev_lawM (st := [.int v]) hY dL_law_536 tw_1188 kX7_rank rfl rfl trivial trivial rfl rfl rfl (by omega) (Nat.le_of_ble_eq_true rfl) b3 b4 (by omega) (by omega) (fun X1 hM1 m1 m2 m3 m4 m5 => ?_)
  refine ev_icmp_eq (tgt := 1155) dL_law_539 (by decide) (fun _ => ?_) (fun h => absurd rfl h)
  subst hC1 hC2
  obtain ⟨M1, rfl⟩ : ∃ M1, X1 = mkX M1 C1 T' tl' rf' := ⟨X1, mkX_eq m1 m2 m3 m4 m5⟩
  exact hk T' S' P' U1 O1 B1 Q1 C1 R1 tl' rf' M1 K' hR' hQ1 hM1
theorem bL_law_544_548 {l : Launch} {E : XE} : Snd l E mL_law 544 548 (xs [x_aload 1, x_aload 0, x_iload 3, x_push (.int (nI 1))]) := Snd.cons (snd_aload_n (i := 1) dL_law_544 rfl) (Snd.cons (snd_aload_n (i := 0) dL_law_545 rfl) (Snd.cons (snd_iload_n (i := 3) dL_law_546 rfl) (Snd.cons (snd_iconst (v := nI 1) dL_law_547 (by decide)) Snd.nil)))
theorem bL_law_550_553 {l : Launch} {E : XE} : Snd l E mL_law 550 553 (xs [x_aload 0, x_iload 3, x_push (.int (nI 2))]) := Snd.cons (snd_aload_n (i := 0) dL_law_550 rfl) (Snd.cons (snd_iload_n (i := 3) dL_law_551 rfl) (Snd.cons (snd_iconst (v := nI 2) dL_law_552 (by decide)) Snd.nil))
theorem bL_law_558_562 {l : Launch} {E : XE} : Snd l E mL_law 558 562 (xs [x_aload 2, x_aload 0, x_iload 3, x_push (.int (nI 1))]) := Snd.cons (snd_aload_n (i := 2) dL_law_558 rfl) (Snd.cons (snd_aload_n (i := 0) dL_law_559 rfl) (Snd.cons (snd_iload_n (i := 3) dL_law_560 rfl) (Snd.cons (snd_iconst (v := nI 1) dL_law_561 (by decide)) Snd.nil)))
theorem bL_law_564_567 {l : Launch} {E : XE} : Snd l E mL_law 564 567 (xs [x_aload 0, x_iload 3, x_push (.int (nI 2))]) := Snd.cons (snd_aload_n (i := 0) dL_law_564 rfl) (Snd.cons (snd_iload_n (i := 3) dL_law_565 rfl) (Snd.cons (snd_iconst (v := nI 2) dL_law_566 (by decide)) Snd.nil))
set_option maxHeartbeats 1000000 in
theorem law_12 {l : Launch} {E : XE} {nc ns i : Nat} (hL : E.2.2.2 41 ≤ 2048) (hi : i + 4 ≤ E.2.2.2 41) (hnc : nc + 4 ≤ 600000) (hns : ns + 124 ≤ 7302249) (hk : LawK l E (nc + 4) (ns + 124) i 1155) : LawK l E nc ns i 544 := by
  intro T S P U O B Q C R tl rf M K hR hQ hM
  refine ev_b bL_law_544_548 (lv' := [(3, .int (nI (i))), (2, .ref 49), (1, .ref 0), (0, .float 40)]) (st' := [.int (nI (1)), .int (nI (i)), .float 40, .ref 0]) (w2 := compW T S P U O B Q C R tl rf ++ modW 49 S (mkX M C T tl rf) K) rfl ?_
  refine ev_iadd_n dL_law_548 ?_
  refine ev_lald (i := i + 1) dL_law_549 (by omega) (by omega) ?_
  obtain ⟨z1, e1, r1⟩ := i32z (nI (E.2.2.2 (1000 + (i + 1))))
  refine ev_top (y := zI z1) e1 ?_
  refine ev_b bL_law_550_553 (lv' := [(3, .int (nI (i))), (2, .ref 49), (1, .ref 0), (0, .float 40)]) (st' := [.int (nI (2)), .int (nI (i)), .float 40, .int (zI (z1)), .ref 0]) (w2 := compW T S P U O B Q C R tl rf ++ modW 49 S (mkX M C T tl rf) K) rfl ?_
  refine ev_iadd_n dL_law_553 ?_
  refine ev_lald (i := i + 2) dL_law_554 (by omega) (by omega) ?_
  obtain ⟨z2, e2, r2⟩ := i32z (nI (E.2.2.2 (1000 + (i + 2))))
  refine ev_top (y := zI z2) e2 ?_
  obtain ⟨v, T', S', P', lt', sz', tl', rf', K', dx, dy, mcy, msy, b1, b2, b3, b4, hR', hX, hY⟩ := pr_item z1 z2 r1 r2 hR hQ hM
  refine ev_lawX (st := []) hX dL_law_555 tw_681 kX6_item rfl rfl trivial trivial rfl (by omega) (Nat.le_of_ble_eq_true rfl) (by omega) (by omega) (fun U1 O1 B1 Q1 C1 R1 hQ1 hC1 hC2 => ?_)
  refine ev_b bL_law_558_562 (lv' := [(3, .int (nI (i))), (2, .ref 49), (1, .ref 0), (0, .float 40)]) (st' := [.int (nI (1)), .int (nI (i)), .float 40, .ref 49, .int (v)]) (w2 := compW T' S' P' U1 O1 B1 Q1 C1 R1 tl' rf' ++ modW 49 S (mkX M C T tl rf) K) rfl ?_
  refine ev_iadd_n dL_law_562 ?_
  refine ev_lald (i := i + 1) dL_law_563 (by omega) (by omega) ?_
  refine ev_top (y := zI z1) e1 ?_
  refine ev_b bL_law_564_567 (lv' := [(3, .int (nI (i))), (2, .ref 49), (1, .ref 0), (0, .float 40)]) (st' := [.int (nI (2)), .int (nI (i)), .float 40, .int (zI (z1)), .ref 49, .int (v)]) (w2 := compW T' S' P' U1 O1 B1 Q1 C1 R1 tl' rf' ++ modW 49 S (mkX M C T tl rf) K) rfl ?_
  refine ev_iadd_n dL_law_567 ?_
  refine ev_lald (i := i + 2) dL_law_568 (by omega) (by omega) ?_
  refine ev_top (y := zI z2) e2 ?_
  refine ev_lawM (st := [.int v]) hY dL_law_569 tw_1196 kX7_item rfl rfl trivial trivial rfl rfl rfl (by omega) (Nat.le_of_ble_eq_true rfl) b3 b4 (by omega) (by omega) (fun X1 hM1 m1 m2 m3 m4 m5 => ?_)
  refine ev_icmp_eq (tgt := 1155) dL_law_572 (by decide) (fun _ => ?_) (fun h => absurd rfl h)
  subst hC1 hC2
  obtain ⟨M1, rfl⟩ : ∃ M1, X1 = mkX M1 C1 T' tl' rf' := ⟨X1, mkX_eq m1 m2 m3 m4 m5⟩
  exact hk T' S' P' U1 O1 B1 Q1 C1 R1 tl' rf' M1 K' hR' hQ1 hM1
theorem bL_law_577_581 {l : Launch} {E : XE} : Snd l E mL_law 577 581 (xs [x_aload 1, x_aload 0, x_iload 3, x_push (.int (nI 1))]) := Snd.cons (snd_aload_n (i := 1) dL_law_577 rfl) (Snd.cons (snd_aload_n (i := 0) dL_law_578 rfl) (Snd.cons (snd_iload_n (i := 3) dL_law_579 rfl) (Snd.cons (snd_iconst (v := nI 1) dL_law_580 (by decide)) Snd.nil)))
theorem bL_law_583_586 {l : Launch} {E : XE} : Snd l E mL_law 583 586 (xs [x_aload 0, x_iload 3, x_push (.int (nI 2))]) := Snd.cons (snd_aload_n (i := 0) dL_law_583 rfl) (Snd.cons (snd_iload_n (i := 3) dL_law_584 rfl) (Snd.cons (snd_iconst (v := nI 2) dL_law_585 (by decide)) Snd.nil))
theorem bL_law_591_595 {l : Launch} {E : XE} : Snd l E mL_law 591 595 (xs [x_aload 2, x_aload 0, x_iload 3, x_push (.int (nI 1))]) := Snd.cons (snd_aload_n (i := 2) dL_law_591 rfl) (Snd.cons (snd_aload_n (i := 0) dL_law_592 rfl) (Snd.cons (snd_iload_n (i := 3) dL_law_593 rfl) (Snd.cons (snd_iconst (v := nI 1) dL_law_594 (by decide)) Snd.nil)))
theorem bL_law_597_600 {l : Launch} {E : XE} : Snd l E mL_law 597 600 (xs [x_aload 0, x_iload 3, x_push (.int (nI 2))]) := Snd.cons (snd_aload_n (i := 0) dL_law_597 rfl) (Snd.cons (snd_iload_n (i := 3) dL_law_598 rfl) (Snd.cons (snd_iconst (v := nI 2) dL_law_599 (by decide)) Snd.nil))
set_option maxHeartbeats 1000000 in
theorem law_13 {l : Launch} {E : XE} {nc ns i : Nat} (hL : E.2.2.2 41 ≤ 2048) (hi : i + 4 ≤ E.2.2.2 41) (hnc : nc + 4 ≤ 600000) (hns : ns + 124 ≤ 7302249) (hk : LawK l E (nc + 4) (ns + 124) i 1155) : LawK l E nc ns i 577 := by
  intro T S P U O B Q C R tl rf M K hR hQ hM
  refine ev_b bL_law_577_581 (lv' := [(3, .int (nI (i))), (2, .ref 49), (1, .ref 0), (0, .float 40)]) (st' := [.int (nI (1)), .int (nI (i)), .float 40, .ref 0]) (w2 := compW T S P U O B Q C R tl rf ++ modW 49 S (mkX M C T tl rf) K) rfl ?_
  refine ev_iadd_n dL_law_581 ?_
  refine ev_lald (i := i + 1) dL_law_582 (by omega) (by omega) ?_
  obtain ⟨z1, e1, r1⟩ := i32z (nI (E.2.2.2 (1000 + (i + 1))))
  refine ev_top (y := zI z1) e1 ?_
  refine ev_b bL_law_583_586 (lv' := [(3, .int (nI (i))), (2, .ref 49), (1, .ref 0), (0, .float 40)]) (st' := [.int (nI (2)), .int (nI (i)), .float 40, .int (zI (z1)), .ref 0]) (w2 := compW T S P U O B Q C R tl rf ++ modW 49 S (mkX M C T tl rf) K) rfl ?_
  refine ev_iadd_n dL_law_586 ?_
  refine ev_lald (i := i + 2) dL_law_587 (by omega) (by omega) ?_
  obtain ⟨z2, e2, r2⟩ := i32z (nI (E.2.2.2 (1000 + (i + 2))))
  refine ev_top (y := zI z2) e2 ?_
  obtain ⟨v, T', S', P', lt', sz', tl', rf', K', dx, dy, mcy, msy, b1, b2, b3, b4, hR', hX, hY⟩ := pr_rival z1 z2 r1 r2 hR hQ hM
  refine ev_lawX (st := []) hX dL_law_588 tw_697 kX6_rival rfl rfl trivial trivial rfl (by omega) (Nat.le_of_ble_eq_true rfl) (by omega) (by omega) (fun U1 O1 B1 Q1 C1 R1 hQ1 hC1 hC2 => ?_)
  refine ev_b bL_law_591_595 (lv' := [(3, .int (nI (i))), (2, .ref 49), (1, .ref 0), (0, .float 40)]) (st' := [.int (nI (1)), .int (nI (i)), .float 40, .ref 49, .int (v)]) (w2 := compW T' S' P' U1 O1 B1 Q1 C1 R1 tl' rf' ++ modW 49 S (mkX M C T tl rf) K) rfl ?_
  refine ev_iadd_n dL_law_595 ?_
  refine ev_lald (i := i + 1) dL_law_596 (by omega) (by omega) ?_
  refine ev_top (y := zI z1) e1 ?_
  refine ev_b bL_law_597_600 (lv' := [(3, .int (nI (i))), (2, .ref 49), (1, .ref 0), (0, .float 40)]) (st' := [.int (nI (2)), .int (nI (i)), .float 40, .int (zI (z1)), .ref 49, .int (v)]) (w2 := compW T' S' P' U1 O1 B1 Q1 C1 R1 tl' rf' ++ modW 49 S (mkX M C T tl rf) K) rfl ?_
  refine ev_iadd_n dL_law_600 ?_
  refine ev_lald (i := i + 2) dL_law_601 (by omega) (by omega) ?_
  refine ev_top (y := zI z2) e2 ?_
  refine ev_lawM (st := [.int v]) hY dL_law_602 tw_1204 kX7_rival rfl rfl trivial trivial rfl rfl rfl (by omega) (Nat.le_of_ble_eq_true rfl) b3 b4 (by omega) (by omega) (fun X1 hM1 m1 m2 m3 m4 m5 => ?_)
  refine ev_icmp_eq (tgt := 1155) dL_law_605 (by decide) (fun _ => ?_) (fun h => absurd rfl h)
  subst hC1 hC2
  obtain ⟨M1, rfl⟩ : ∃ M1, X1 = mkX M1 C1 T' tl' rf' := ⟨X1, mkX_eq m1 m2 m3 m4 m5⟩
  exact hk T' S' P' U1 O1 B1 Q1 C1 R1 tl' rf' M1 K' hR' hQ1 hM1
theorem bL_law_610_614 {l : Launch} {E : XE} : Snd l E mL_law 610 614 (xs [x_aload 1, x_aload 0, x_iload 3, x_push (.int (nI 1))]) := Snd.cons (snd_aload_n (i := 1) dL_law_610 rfl) (Snd.cons (snd_aload_n (i := 0) dL_law_611 rfl) (Snd.cons (snd_iload_n (i := 3) dL_law_612 rfl) (Snd.cons (snd_iconst (v := nI 1) dL_law_613 (by decide)) Snd.nil)))
theorem bL_law_616_619 {l : Launch} {E : XE} : Snd l E mL_law 616 619 (xs [x_aload 0, x_iload 3, x_push (.int (nI 2))]) := Snd.cons (snd_aload_n (i := 0) dL_law_616 rfl) (Snd.cons (snd_iload_n (i := 3) dL_law_617 rfl) (Snd.cons (snd_iconst (v := nI 2) dL_law_618 (by decide)) Snd.nil))
theorem bL_law_624_628 {l : Launch} {E : XE} : Snd l E mL_law 624 628 (xs [x_aload 2, x_aload 0, x_iload 3, x_push (.int (nI 1))]) := Snd.cons (snd_aload_n (i := 2) dL_law_624 rfl) (Snd.cons (snd_aload_n (i := 0) dL_law_625 rfl) (Snd.cons (snd_iload_n (i := 3) dL_law_626 rfl) (Snd.cons (snd_iconst (v := nI 1) dL_law_627 (by decide)) Snd.nil)))
theorem bL_law_630_633 {l : Launch} {E : XE} : Snd l E mL_law 630 633 (xs [x_aload 0, x_iload 3, x_push (.int (nI 2))]) := Snd.cons (snd_aload_n (i := 0) dL_law_630 rfl) (Snd.cons (snd_iload_n (i := 3) dL_law_631 rfl) (Snd.cons (snd_iconst (v := nI 2) dL_law_632 (by decide)) Snd.nil))
set_option maxHeartbeats 1000000 in
theorem law_14 {l : Launch} {E : XE} {nc ns i : Nat} (hL : E.2.2.2 41 ≤ 2048) (hi : i + 4 ≤ E.2.2.2 41) (hnc : nc + 4 ≤ 600000) (hns : ns + 124 ≤ 7302249) (hk : LawK l E (nc + 4) (ns + 124) i 1155) : LawK l E nc ns i 610 := by
  intro T S P U O B Q C R tl rf M K hR hQ hM
  refine ev_b bL_law_610_614 (lv' := [(3, .int (nI (i))), (2, .ref 49), (1, .ref 0), (0, .float 40)]) (st' := [.int (nI (1)), .int (nI (i)), .float 40, .ref 0]) (w2 := compW T S P U O B Q C R tl rf ++ modW 49 S (mkX M C T tl rf) K) rfl ?_
  refine ev_iadd_n dL_law_614 ?_
  refine ev_lald (i := i + 1) dL_law_615 (by omega) (by omega) ?_
  obtain ⟨z1, e1, r1⟩ := i32z (nI (E.2.2.2 (1000 + (i + 1))))
  refine ev_top (y := zI z1) e1 ?_
  refine ev_b bL_law_616_619 (lv' := [(3, .int (nI (i))), (2, .ref 49), (1, .ref 0), (0, .float 40)]) (st' := [.int (nI (2)), .int (nI (i)), .float 40, .int (zI (z1)), .ref 0]) (w2 := compW T S P U O B Q C R tl rf ++ modW 49 S (mkX M C T tl rf) K) rfl ?_
  refine ev_iadd_n dL_law_619 ?_
  refine ev_lald (i := i + 2) dL_law_620 (by omega) (by omega) ?_
  obtain ⟨z2, e2, r2⟩ := i32z (nI (E.2.2.2 (1000 + (i + 2))))
  refine ev_top (y := zI z2) e2 ?_
  obtain ⟨v, T', S', P', lt', sz', tl', rf', K', dx, dy, mcy, msy, b1, b2, b3, b4, hR', hX, hY⟩ := pr_of z1 z2 r1 r2 hR hQ hM
  refine ev_lawX (st := []) hX dL_law_621 tw_703 kX6_of rfl rfl trivial trivial rfl (by omega) (Nat.le_of_ble_eq_true rfl) (by omega) (by omega) (fun U1 O1 B1 Q1 C1 R1 hQ1 hC1 hC2 => ?_)
  refine ev_b bL_law_624_628 (lv' := [(3, .int (nI (i))), (2, .ref 49), (1, .ref 0), (0, .float 40)]) (st' := [.int (nI (1)), .int (nI (i)), .float 40, .ref 49, .int (v)]) (w2 := compW T' S' P' U1 O1 B1 Q1 C1 R1 tl' rf' ++ modW 49 S (mkX M C T tl rf) K) rfl ?_
  refine ev_iadd_n dL_law_628 ?_
  refine ev_lald (i := i + 1) dL_law_629 (by omega) (by omega) ?_
  refine ev_top (y := zI z1) e1 ?_
  refine ev_b bL_law_630_633 (lv' := [(3, .int (nI (i))), (2, .ref 49), (1, .ref 0), (0, .float 40)]) (st' := [.int (nI (2)), .int (nI (i)), .float 40, .int (zI (z1)), .ref 49, .int (v)]) (w2 := compW T' S' P' U1 O1 B1 Q1 C1 R1 tl' rf' ++ modW 49 S (mkX M C T tl rf) K) rfl ?_
  refine ev_iadd_n dL_law_633 ?_
  refine ev_lald (i := i + 2) dL_law_634 (by omega) (by omega) ?_
  refine ev_top (y := zI z2) e2 ?_
  refine ev_lawM (st := [.int v]) hY dL_law_635 tw_1208 kX7_of rfl rfl trivial trivial rfl rfl rfl (by omega) (Nat.le_of_ble_eq_true rfl) b3 b4 (by omega) (by omega) (fun X1 hM1 m1 m2 m3 m4 m5 => ?_)
  refine ev_icmp_eq (tgt := 1155) dL_law_638 (by decide) (fun _ => ?_) (fun h => absurd rfl h)
  subst hC1 hC2
  obtain ⟨M1, rfl⟩ : ∃ M1, X1 = mkX M1 C1 T' tl' rf' := ⟨X1, mkX_eq m1 m2 m3 m4 m5⟩
  exact hk T' S' P' U1 O1 B1 Q1 C1 R1 tl' rf' M1 K' hR' hQ1 hM1
theorem bL_law_643_647 {l : Launch} {E : XE} : Snd l E mL_law 643 647 (xs [x_aload 1, x_aload 0, x_iload 3, x_push (.int (nI 1))]) := Snd.cons (snd_aload_n (i := 1) dL_law_643 rfl) (Snd.cons (snd_aload_n (i := 0) dL_law_644 rfl) (Snd.cons (snd_iload_n (i := 3) dL_law_645 rfl) (Snd.cons (snd_iconst (v := nI 1) dL_law_646 (by decide)) Snd.nil)))
theorem bL_law_649_652 {l : Launch} {E : XE} : Snd l E mL_law 649 652 (xs [x_aload 0, x_iload 3, x_push (.int (nI 2))]) := Snd.cons (snd_aload_n (i := 0) dL_law_649 rfl) (Snd.cons (snd_iload_n (i := 3) dL_law_650 rfl) (Snd.cons (snd_iconst (v := nI 2) dL_law_651 (by decide)) Snd.nil))
theorem bL_law_657_661 {l : Launch} {E : XE} : Snd l E mL_law 657 661 (xs [x_aload 2, x_aload 0, x_iload 3, x_push (.int (nI 1))]) := Snd.cons (snd_aload_n (i := 2) dL_law_657 rfl) (Snd.cons (snd_aload_n (i := 0) dL_law_658 rfl) (Snd.cons (snd_iload_n (i := 3) dL_law_659 rfl) (Snd.cons (snd_iconst (v := nI 1) dL_law_660 (by decide)) Snd.nil)))
theorem bL_law_663_666 {l : Launch} {E : XE} : Snd l E mL_law 663 666 (xs [x_aload 0, x_iload 3, x_push (.int (nI 2))]) := Snd.cons (snd_aload_n (i := 0) dL_law_663 rfl) (Snd.cons (snd_iload_n (i := 3) dL_law_664 rfl) (Snd.cons (snd_iconst (v := nI 2) dL_law_665 (by decide)) Snd.nil))
set_option maxHeartbeats 1000000 in
theorem law_15 {l : Launch} {E : XE} {nc ns i : Nat} (hL : E.2.2.2 41 ≤ 2048) (hi : i + 4 ≤ E.2.2.2 41) (hnc : nc + 4 ≤ 600000) (hns : ns + 124 ≤ 7302249) (hk : LawK l E (nc + 4) (ns + 124) i 1155) : LawK l E nc ns i 643 := by
  intro T S P U O B Q C R tl rf M K hR hQ hM
  refine ev_b bL_law_643_647 (lv' := [(3, .int (nI (i))), (2, .ref 49), (1, .ref 0), (0, .float 40)]) (st' := [.int (nI (1)), .int (nI (i)), .float 40, .ref 0]) (w2 := compW T S P U O B Q C R tl rf ++ modW 49 S (mkX M C T tl rf) K) rfl ?_
  refine ev_iadd_n dL_law_647 ?_
  refine ev_lald (i := i + 1) dL_law_648 (by omega) (by omega) ?_
  obtain ⟨z1, e1, r1⟩ := i32z (nI (E.2.2.2 (1000 + (i + 1))))
  refine ev_top (y := zI z1) e1 ?_
  refine ev_b bL_law_649_652 (lv' := [(3, .int (nI (i))), (2, .ref 49), (1, .ref 0), (0, .float 40)]) (st' := [.int (nI (2)), .int (nI (i)), .float 40, .int (zI (z1)), .ref 0]) (w2 := compW T S P U O B Q C R tl rf ++ modW 49 S (mkX M C T tl rf) K) rfl ?_
  refine ev_iadd_n dL_law_652 ?_
  refine ev_lald (i := i + 2) dL_law_653 (by omega) (by omega) ?_
  obtain ⟨z2, e2, r2⟩ := i32z (nI (E.2.2.2 (1000 + (i + 2))))
  refine ev_top (y := zI z2) e2 ?_
  obtain ⟨v, T', S', P', lt', sz', tl', rf', K', dx, dy, mcy, msy, b1, b2, b3, b4, hR', hX, hY⟩ := pr_pays z1 z2 r1 r2 hR hQ hM
  refine ev_lawX (st := []) hX dL_law_654 tw_707 kX6_pays rfl rfl trivial trivial rfl (by omega) (Nat.le_of_ble_eq_true rfl) (by omega) (by omega) (fun U1 O1 B1 Q1 C1 R1 hQ1 hC1 hC2 => ?_)
  refine ev_b bL_law_657_661 (lv' := [(3, .int (nI (i))), (2, .ref 49), (1, .ref 0), (0, .float 40)]) (st' := [.int (nI (1)), .int (nI (i)), .float 40, .ref 49, .int (v)]) (w2 := compW T' S' P' U1 O1 B1 Q1 C1 R1 tl' rf' ++ modW 49 S (mkX M C T tl rf) K) rfl ?_
  refine ev_iadd_n dL_law_661 ?_
  refine ev_lald (i := i + 1) dL_law_662 (by omega) (by omega) ?_
  refine ev_top (y := zI z1) e1 ?_
  refine ev_b bL_law_663_666 (lv' := [(3, .int (nI (i))), (2, .ref 49), (1, .ref 0), (0, .float 40)]) (st' := [.int (nI (2)), .int (nI (i)), .float 40, .int (zI (z1)), .ref 49, .int (v)]) (w2 := compW T' S' P' U1 O1 B1 Q1 C1 R1 tl' rf' ++ modW 49 S (mkX M C T tl rf) K) rfl ?_
  refine ev_iadd_n dL_law_666 ?_
  refine ev_lald (i := i + 2) dL_law_667 (by omega) (by omega) ?_
  refine ev_top (y := zI z2) e2 ?_
  refine ev_lawM (st := [.int v]) hY dL_law_668 tw_1212 kX7_pays rfl rfl trivial trivial rfl rfl rfl (by omega) (Nat.le_of_ble_eq_true rfl) b3 b4 (by omega) (by omega) (fun X1 hM1 m1 m2 m3 m4 m5 => ?_)
  refine ev_icmp_eq (tgt := 1155) dL_law_671 (by decide) (fun _ => ?_) (fun h => absurd rfl h)
  subst hC1 hC2
  obtain ⟨M1, rfl⟩ : ∃ M1, X1 = mkX M1 C1 T' tl' rf' := ⟨X1, mkX_eq m1 m2 m3 m4 m5⟩
  exact hk T' S' P' U1 O1 B1 Q1 C1 R1 tl' rf' M1 K' hR' hQ1 hM1
theorem bL_law_676_680 {l : Launch} {E : XE} : Snd l E mL_law 676 680 (xs [x_aload 1, x_aload 0, x_iload 3, x_push (.int (nI 1))]) := Snd.cons (snd_aload_n (i := 1) dL_law_676 rfl) (Snd.cons (snd_aload_n (i := 0) dL_law_677 rfl) (Snd.cons (snd_iload_n (i := 3) dL_law_678 rfl) (Snd.cons (snd_iconst (v := nI 1) dL_law_679 (by decide)) Snd.nil)))
theorem bL_law_682_685 {l : Launch} {E : XE} : Snd l E mL_law 682 685 (xs [x_aload 0, x_iload 3, x_push (.int (nI 2))]) := Snd.cons (snd_aload_n (i := 0) dL_law_682 rfl) (Snd.cons (snd_iload_n (i := 3) dL_law_683 rfl) (Snd.cons (snd_iconst (v := nI 2) dL_law_684 (by decide)) Snd.nil))
theorem bL_law_690_694 {l : Launch} {E : XE} : Snd l E mL_law 690 694 (xs [x_aload 2, x_aload 0, x_iload 3, x_push (.int (nI 1))]) := Snd.cons (snd_aload_n (i := 2) dL_law_690 rfl) (Snd.cons (snd_aload_n (i := 0) dL_law_691 rfl) (Snd.cons (snd_iload_n (i := 3) dL_law_692 rfl) (Snd.cons (snd_iconst (v := nI 1) dL_law_693 (by decide)) Snd.nil)))
theorem bL_law_696_699 {l : Launch} {E : XE} : Snd l E mL_law 696 699 (xs [x_aload 0, x_iload 3, x_push (.int (nI 2))]) := Snd.cons (snd_aload_n (i := 0) dL_law_696 rfl) (Snd.cons (snd_iload_n (i := 3) dL_law_697 rfl) (Snd.cons (snd_iconst (v := nI 2) dL_law_698 (by decide)) Snd.nil))
set_option maxHeartbeats 1000000 in
theorem law_16 {l : Launch} {E : XE} {nc ns i : Nat} (hL : E.2.2.2 41 ≤ 2048) (hi : i + 4 ≤ E.2.2.2 41) (hnc : nc + 4 ≤ 600000) (hns : ns + 124 ≤ 7302249) (hk : LawK l E (nc + 4) (ns + 124) i 1155) : LawK l E nc ns i 676 := by
  intro T S P U O B Q C R tl rf M K hR hQ hM
  refine ev_b bL_law_676_680 (lv' := [(3, .int (nI (i))), (2, .ref 49), (1, .ref 0), (0, .float 40)]) (st' := [.int (nI (1)), .int (nI (i)), .float 40, .ref 0]) (w2 := compW T S P U O B Q C R tl rf ++ modW 49 S (mkX M C T tl rf) K) rfl ?_
  refine ev_iadd_n dL_law_680 ?_
  refine ev_lald (i := i + 1) dL_law_681 (by omega) (by omega) ?_
  obtain ⟨z1, e1, r1⟩ := i32z (nI (E.2.2.2 (1000 + (i + 1))))
  refine ev_top (y := zI z1) e1 ?_
  refine ev_b bL_law_682_685 (lv' := [(3, .int (nI (i))), (2, .ref 49), (1, .ref 0), (0, .float 40)]) (st' := [.int (nI (2)), .int (nI (i)), .float 40, .int (zI (z1)), .ref 0]) (w2 := compW T S P U O B Q C R tl rf ++ modW 49 S (mkX M C T tl rf) K) rfl ?_
  refine ev_iadd_n dL_law_685 ?_
  refine ev_lald (i := i + 2) dL_law_686 (by omega) (by omega) ?_
  obtain ⟨z2, e2, r2⟩ := i32z (nI (E.2.2.2 (1000 + (i + 2))))
  refine ev_top (y := zI z2) e2 ?_
  obtain ⟨v, T', S', P', lt', sz', tl', rf', K', dx, dy, mcy, msy, b1, b2, b3, b4, hR', hX, hY⟩ := pr_blocks z1 z2 r1 r2 hR hQ hM
  refine ev_lawX (st := []) hX dL_law_687 tw_750 kX6_blocks rfl rfl trivial trivial rfl (by omega) (Nat.le_of_ble_eq_true rfl) (by omega) (by omega) (fun U1 O1 B1 Q1 C1 R1 hQ1 hC1 hC2 => ?_)
  refine ev_b bL_law_690_694 (lv' := [(3, .int (nI (i))), (2, .ref 49), (1, .ref 0), (0, .float 40)]) (st' := [.int (nI (1)), .int (nI (i)), .float 40, .ref 49, .int (v)]) (w2 := compW T' S' P' U1 O1 B1 Q1 C1 R1 tl' rf' ++ modW 49 S (mkX M C T tl rf) K) rfl ?_
  refine ev_iadd_n dL_law_694 ?_
  refine ev_lald (i := i + 1) dL_law_695 (by omega) (by omega) ?_
  refine ev_top (y := zI z1) e1 ?_
  refine ev_b bL_law_696_699 (lv' := [(3, .int (nI (i))), (2, .ref 49), (1, .ref 0), (0, .float 40)]) (st' := [.int (nI (2)), .int (nI (i)), .float 40, .int (zI (z1)), .ref 49, .int (v)]) (w2 := compW T' S' P' U1 O1 B1 Q1 C1 R1 tl' rf' ++ modW 49 S (mkX M C T tl rf) K) rfl ?_
  refine ev_iadd_n dL_law_699 ?_
  refine ev_lald (i := i + 2) dL_law_700 (by omega) (by omega) ?_
  refine ev_top (y := zI z2) e2 ?_
  refine ev_lawM (st := [.int v]) hY dL_law_701 tw_1245 kX7_blocks rfl rfl trivial trivial rfl rfl rfl (by omega) (Nat.le_of_ble_eq_true rfl) b3 b4 (by omega) (by omega) (fun X1 hM1 m1 m2 m3 m4 m5 => ?_)
  refine ev_icmp_eq (tgt := 1155) dL_law_704 (by decide) (fun _ => ?_) (fun h => absurd rfl h)
  subst hC1 hC2
  obtain ⟨M1, rfl⟩ : ∃ M1, X1 = mkX M1 C1 T' tl' rf' := ⟨X1, mkX_eq m1 m2 m3 m4 m5⟩
  exact hk T' S' P' U1 O1 B1 Q1 C1 R1 tl' rf' M1 K' hR' hQ1 hM1
theorem bL_law_709_710 {l : Launch} {E : XE} : Snd l E mL_law 709 710 (xs [x_aload 1]) := Snd.cons (snd_aload_n (i := 1) dL_law_709 rfl) Snd.nil
theorem bL_law_713_714 {l : Launch} {E : XE} : Snd l E mL_law 713 714 (xs [x_aload 2]) := Snd.cons (snd_aload_n (i := 2) dL_law_713 rfl) Snd.nil
set_option maxHeartbeats 1000000 in
theorem law_17 {l : Launch} {E : XE} {nc ns i : Nat} (hL : E.2.2.2 41 ≤ 2048) (hi : i + 4 ≤ E.2.2.2 41) (hnc : nc + 4 ≤ 600000) (hns : ns + 124 ≤ 7302249) (hk : LawK l E (nc + 4) (ns + 124) i 1155) : LawK l E nc ns i 709 := by
  intro T S P U O B Q C R tl rf M K hR hQ hM
  refine ev_b bL_law_709_710 (lv' := [(3, .int (nI (i))), (2, .ref 49), (1, .ref 0), (0, .float 40)]) (st' := [.ref 0]) (w2 := compW T S P U O B Q C R tl rf ++ modW 49 S (mkX M C T tl rf) K) rfl ?_
  obtain ⟨v, T', S', P', lt', sz', tl', rf', K', dx, dy, mcy, msy, b1, b2, b3, b4, hR', hX, hY⟩ := pr_lifts   hR hQ hM
  refine ev_lawX (st := []) hX dL_law_710 tw_757 kX6_lifts rfl rfl trivial trivial rfl (by omega) (Nat.le_of_ble_eq_true rfl) (by omega) (by omega) (fun U1 O1 B1 Q1 C1 R1 hQ1 hC1 hC2 => ?_)
  refine ev_b bL_law_713_714 (lv' := [(3, .int (nI (i))), (2, .ref 49), (1, .ref 0), (0, .float 40)]) (st' := [.ref 49, .int (v)]) (w2 := compW T' S' P' U1 O1 B1 Q1 C1 R1 tl' rf' ++ modW 49 S (mkX M C T tl rf) K) rfl ?_
  refine ev_lawM (st := [.int v]) hY dL_law_714 tw_1249 kX7_lifts rfl rfl trivial trivial rfl rfl rfl (by omega) (Nat.le_of_ble_eq_true rfl) b3 b4 (by omega) (by omega) (fun X1 hM1 m1 m2 m3 m4 m5 => ?_)
  refine ev_icmp_eq (tgt := 1155) dL_law_717 (by decide) (fun _ => ?_) (fun h => absurd rfl h)
  subst hC1 hC2
  obtain ⟨M1, rfl⟩ : ∃ M1, X1 = mkX M1 C1 T' tl' rf' := ⟨X1, mkX_eq m1 m2 m3 m4 m5⟩
  exact hk T' S' P' U1 O1 B1 Q1 C1 R1 tl' rf' M1 K' hR' hQ1 hM1
theorem bL_law_722_726 {l : Launch} {E : XE} : Snd l E mL_law 722 726 (xs [x_aload 1, x_aload 0, x_iload 3, x_push (.int (nI 1))]) := Snd.cons (snd_aload_n (i := 1) dL_law_722 rfl) (Snd.cons (snd_aload_n (i := 0) dL_law_723 rfl) (Snd.cons (snd_iload_n (i := 3) dL_law_724 rfl) (Snd.cons (snd_iconst (v := nI 1) dL_law_725 (by decide)) Snd.nil)))
theorem bL_law_728_731 {l : Launch} {E : XE} : Snd l E mL_law 728 731 (xs [x_aload 0, x_iload 3, x_push (.int (nI 2))]) := Snd.cons (snd_aload_n (i := 0) dL_law_728 rfl) (Snd.cons (snd_iload_n (i := 3) dL_law_729 rfl) (Snd.cons (snd_iconst (v := nI 2) dL_law_730 (by decide)) Snd.nil))
theorem bL_law_736_740 {l : Launch} {E : XE} : Snd l E mL_law 736 740 (xs [x_aload 2, x_aload 0, x_iload 3, x_push (.int (nI 1))]) := Snd.cons (snd_aload_n (i := 2) dL_law_736 rfl) (Snd.cons (snd_aload_n (i := 0) dL_law_737 rfl) (Snd.cons (snd_iload_n (i := 3) dL_law_738 rfl) (Snd.cons (snd_iconst (v := nI 1) dL_law_739 (by decide)) Snd.nil)))
theorem bL_law_742_745 {l : Launch} {E : XE} : Snd l E mL_law 742 745 (xs [x_aload 0, x_iload 3, x_push (.int (nI 2))]) := Snd.cons (snd_aload_n (i := 0) dL_law_742 rfl) (Snd.cons (snd_iload_n (i := 3) dL_law_743 rfl) (Snd.cons (snd_iconst (v := nI 2) dL_law_744 (by decide)) Snd.nil))
set_option maxHeartbeats 1000000 in
theorem law_18 {l : Launch} {E : XE} {nc ns i : Nat} (hL : E.2.2.2 41 ≤ 2048) (hi : i + 4 ≤ E.2.2.2 41) (hnc : nc + 4 ≤ 600000) (hns : ns + 124 ≤ 7302249) (hk : LawK l E (nc + 4) (ns + 124) i 1155) : LawK l E nc ns i 722 := by
  intro T S P U O B Q C R tl rf M K hR hQ hM
  refine ev_b bL_law_722_726 (lv' := [(3, .int (nI (i))), (2, .ref 49), (1, .ref 0), (0, .float 40)]) (st' := [.int (nI (1)), .int (nI (i)), .float 40, .ref 0]) (w2 := compW T S P U O B Q C R tl rf ++ modW 49 S (mkX M C T tl rf) K) rfl ?_
  refine ev_iadd_n dL_law_726 ?_
  refine ev_lald (i := i + 1) dL_law_727 (by omega) (by omega) ?_
  obtain ⟨z1, e1, r1⟩ := i32z (nI (E.2.2.2 (1000 + (i + 1))))
  refine ev_top (y := zI z1) e1 ?_
  refine ev_b bL_law_728_731 (lv' := [(3, .int (nI (i))), (2, .ref 49), (1, .ref 0), (0, .float 40)]) (st' := [.int (nI (2)), .int (nI (i)), .float 40, .int (zI (z1)), .ref 0]) (w2 := compW T S P U O B Q C R tl rf ++ modW 49 S (mkX M C T tl rf) K) rfl ?_
  refine ev_iadd_n dL_law_731 ?_
  refine ev_lald (i := i + 2) dL_law_732 (by omega) (by omega) ?_
  obtain ⟨z2, e2, r2⟩ := i32z (nI (E.2.2.2 (1000 + (i + 2))))
  refine ev_top (y := zI z2) e2 ?_
  obtain ⟨v, T', S', P', lt', sz', tl', rf', K', dx, dy, mcy, msy, b1, b2, b3, b4, hR', hX, hY⟩ := pr_group z1 z2 r1 r2 hR hQ hM
  refine ev_lawX (st := []) hX dL_law_733 tw_761 kX6_group rfl rfl trivial trivial rfl (by omega) (Nat.le_of_ble_eq_true rfl) (by omega) (by omega) (fun U1 O1 B1 Q1 C1 R1 hQ1 hC1 hC2 => ?_)
  refine ev_b bL_law_736_740 (lv' := [(3, .int (nI (i))), (2, .ref 49), (1, .ref 0), (0, .float 40)]) (st' := [.int (nI (1)), .int (nI (i)), .float 40, .ref 49, .int (v)]) (w2 := compW T' S' P' U1 O1 B1 Q1 C1 R1 tl' rf' ++ modW 49 S (mkX M C T tl rf) K) rfl ?_
  refine ev_iadd_n dL_law_740 ?_
  refine ev_lald (i := i + 1) dL_law_741 (by omega) (by omega) ?_
  refine ev_top (y := zI z1) e1 ?_
  refine ev_b bL_law_742_745 (lv' := [(3, .int (nI (i))), (2, .ref 49), (1, .ref 0), (0, .float 40)]) (st' := [.int (nI (2)), .int (nI (i)), .float 40, .int (zI (z1)), .ref 49, .int (v)]) (w2 := compW T' S' P' U1 O1 B1 Q1 C1 R1 tl' rf' ++ modW 49 S (mkX M C T tl rf) K) rfl ?_
  refine ev_iadd_n dL_law_745 ?_
  refine ev_lald (i := i + 2) dL_law_746 (by omega) (by omega) ?_
  refine ev_top (y := zI z2) e2 ?_
  refine ev_lawM (st := [.int v]) hY dL_law_747 tw_1253 kX7_group rfl rfl trivial trivial rfl rfl rfl (by omega) (Nat.le_of_ble_eq_true rfl) b3 b4 (by omega) (by omega) (fun X1 hM1 m1 m2 m3 m4 m5 => ?_)
  refine ev_icmp_eq (tgt := 1155) dL_law_750 (by decide) (fun _ => ?_) (fun h => absurd rfl h)
  subst hC1 hC2
  obtain ⟨M1, rfl⟩ : ∃ M1, X1 = mkX M1 C1 T' tl' rf' := ⟨X1, mkX_eq m1 m2 m3 m4 m5⟩
  exact hk T' S' P' U1 O1 B1 Q1 C1 R1 tl' rf' M1 K' hR' hQ1 hM1
theorem bL_law_755_759 {l : Launch} {E : XE} : Snd l E mL_law 755 759 (xs [x_aload 1, x_aload 0, x_iload 3, x_push (.int (nI 1))]) := Snd.cons (snd_aload_n (i := 1) dL_law_755 rfl) (Snd.cons (snd_aload_n (i := 0) dL_law_756 rfl) (Snd.cons (snd_iload_n (i := 3) dL_law_757 rfl) (Snd.cons (snd_iconst (v := nI 1) dL_law_758 (by decide)) Snd.nil)))
theorem bL_law_761_764 {l : Launch} {E : XE} : Snd l E mL_law 761 764 (xs [x_aload 0, x_iload 3, x_push (.int (nI 2))]) := Snd.cons (snd_aload_n (i := 0) dL_law_761 rfl) (Snd.cons (snd_iload_n (i := 3) dL_law_762 rfl) (Snd.cons (snd_iconst (v := nI 2) dL_law_763 (by decide)) Snd.nil))
theorem bL_law_769_773 {l : Launch} {E : XE} : Snd l E mL_law 769 773 (xs [x_aload 2, x_aload 0, x_iload 3, x_push (.int (nI 1))]) := Snd.cons (snd_aload_n (i := 2) dL_law_769 rfl) (Snd.cons (snd_aload_n (i := 0) dL_law_770 rfl) (Snd.cons (snd_iload_n (i := 3) dL_law_771 rfl) (Snd.cons (snd_iconst (v := nI 1) dL_law_772 (by decide)) Snd.nil)))
theorem bL_law_775_778 {l : Launch} {E : XE} : Snd l E mL_law 775 778 (xs [x_aload 0, x_iload 3, x_push (.int (nI 2))]) := Snd.cons (snd_aload_n (i := 0) dL_law_775 rfl) (Snd.cons (snd_iload_n (i := 3) dL_law_776 rfl) (Snd.cons (snd_iconst (v := nI 2) dL_law_777 (by decide)) Snd.nil))
set_option maxHeartbeats 1000000 in
theorem law_19 {l : Launch} {E : XE} {nc ns i : Nat} (hL : E.2.2.2 41 ≤ 2048) (hi : i + 4 ≤ E.2.2.2 41) (hnc : nc + 4 ≤ 600000) (hns : ns + 124 ≤ 7302249) (hk : LawK l E (nc + 4) (ns + 124) i 1155) : LawK l E nc ns i 755 := by
  intro T S P U O B Q C R tl rf M K hR hQ hM
  refine ev_b bL_law_755_759 (lv' := [(3, .int (nI (i))), (2, .ref 49), (1, .ref 0), (0, .float 40)]) (st' := [.int (nI (1)), .int (nI (i)), .float 40, .ref 0]) (w2 := compW T S P U O B Q C R tl rf ++ modW 49 S (mkX M C T tl rf) K) rfl ?_
  refine ev_iadd_n dL_law_759 ?_
  refine ev_lald (i := i + 1) dL_law_760 (by omega) (by omega) ?_
  obtain ⟨z1, e1, r1⟩ := i32z (nI (E.2.2.2 (1000 + (i + 1))))
  refine ev_top (y := zI z1) e1 ?_
  refine ev_b bL_law_761_764 (lv' := [(3, .int (nI (i))), (2, .ref 49), (1, .ref 0), (0, .float 40)]) (st' := [.int (nI (2)), .int (nI (i)), .float 40, .int (zI (z1)), .ref 0]) (w2 := compW T S P U O B Q C R tl rf ++ modW 49 S (mkX M C T tl rf) K) rfl ?_
  refine ev_iadd_n dL_law_764 ?_
  refine ev_lald (i := i + 2) dL_law_765 (by omega) (by omega) ?_
  obtain ⟨z2, e2, r2⟩ := i32z (nI (E.2.2.2 (1000 + (i + 2))))
  refine ev_top (y := zI z2) e2 ?_
  obtain ⟨v, T', S', P', lt', sz', tl', rf', K', dx, dy, mcy, msy, b1, b2, b3, b4, hR', hX, hY⟩ := pr_envy z1 z2 r1 r2 hR hQ hM
  refine ev_lawX (st := []) hX dL_law_766 tw_765 kX6_envy rfl rfl trivial trivial rfl (by omega) (Nat.le_of_ble_eq_true rfl) (by omega) (by omega) (fun U1 O1 B1 Q1 C1 R1 hQ1 hC1 hC2 => ?_)
  refine ev_b bL_law_769_773 (lv' := [(3, .int (nI (i))), (2, .ref 49), (1, .ref 0), (0, .float 40)]) (st' := [.int (nI (1)), .int (nI (i)), .float 40, .ref 49, .int (v)]) (w2 := compW T' S' P' U1 O1 B1 Q1 C1 R1 tl' rf' ++ modW 49 S (mkX M C T tl rf) K) rfl ?_
  refine ev_iadd_n dL_law_773 ?_
  refine ev_lald (i := i + 1) dL_law_774 (by omega) (by omega) ?_
  refine ev_top (y := zI z1) e1 ?_
  refine ev_b bL_law_775_778 (lv' := [(3, .int (nI (i))), (2, .ref 49), (1, .ref 0), (0, .float 40)]) (st' := [.int (nI (2)), .int (nI (i)), .float 40, .int (zI (z1)), .ref 49, .int (v)]) (w2 := compW T' S' P' U1 O1 B1 Q1 C1 R1 tl' rf' ++ modW 49 S (mkX M C T tl rf) K) rfl ?_
  refine ev_iadd_n dL_law_778 ?_
  refine ev_lald (i := i + 2) dL_law_779 (by omega) (by omega) ?_
  refine ev_top (y := zI z2) e2 ?_
  refine ev_lawM (st := [.int v]) hY dL_law_780 tw_1257 kX7_envy rfl rfl trivial trivial rfl rfl rfl (by omega) (Nat.le_of_ble_eq_true rfl) b3 b4 (by omega) (by omega) (fun X1 hM1 m1 m2 m3 m4 m5 => ?_)
  refine ev_icmp_eq (tgt := 1155) dL_law_783 (by decide) (fun _ => ?_) (fun h => absurd rfl h)
  subst hC1 hC2
  obtain ⟨M1, rfl⟩ : ∃ M1, X1 = mkX M1 C1 T' tl' rf' := ⟨X1, mkX_eq m1 m2 m3 m4 m5⟩
  exact hk T' S' P' U1 O1 B1 Q1 C1 R1 tl' rf' M1 K' hR' hQ1 hM1
theorem bL_law_788_792 {l : Launch} {E : XE} : Snd l E mL_law 788 792 (xs [x_aload 1, x_aload 0, x_iload 3, x_push (.int (nI 1))]) := Snd.cons (snd_aload_n (i := 1) dL_law_788 rfl) (Snd.cons (snd_aload_n (i := 0) dL_law_789 rfl) (Snd.cons (snd_iload_n (i := 3) dL_law_790 rfl) (Snd.cons (snd_iconst (v := nI 1) dL_law_791 (by decide)) Snd.nil)))
theorem bL_law_797_801 {l : Launch} {E : XE} : Snd l E mL_law 797 801 (xs [x_aload 2, x_aload 0, x_iload 3, x_push (.int (nI 1))]) := Snd.cons (snd_aload_n (i := 2) dL_law_797 rfl) (Snd.cons (snd_aload_n (i := 0) dL_law_798 rfl) (Snd.cons (snd_iload_n (i := 3) dL_law_799 rfl) (Snd.cons (snd_iconst (v := nI 1) dL_law_800 (by decide)) Snd.nil)))
set_option maxHeartbeats 1000000 in
theorem law_20 {l : Launch} {E : XE} {nc ns i : Nat} (hL : E.2.2.2 41 ≤ 2048) (hi : i + 4 ≤ E.2.2.2 41) (hnc : nc + 4 ≤ 600000) (hns : ns + 124 ≤ 7302249) (hk : LawK l E (nc + 4) (ns + 124) i 1155) : LawK l E nc ns i 788 := by
  intro T S P U O B Q C R tl rf M K hR hQ hM
  refine ev_b bL_law_788_792 (lv' := [(3, .int (nI (i))), (2, .ref 49), (1, .ref 0), (0, .float 40)]) (st' := [.int (nI (1)), .int (nI (i)), .float 40, .ref 0]) (w2 := compW T S P U O B Q C R tl rf ++ modW 49 S (mkX M C T tl rf) K) rfl ?_
  refine ev_iadd_n dL_law_792 ?_
  refine ev_lald (i := i + 1) dL_law_793 (by omega) (by omega) ?_
  obtain ⟨z1, e1, r1⟩ := i32z (nI (E.2.2.2 (1000 + (i + 1))))
  refine ev_top (y := zI z1) e1 ?_
  obtain ⟨v, T', S', P', lt', sz', tl', rf', K', dx, dy, mcy, msy, b1, b2, b3, b4, hR', hX, hY⟩ := pr_gain z1 r1 hR hQ hM
  refine ev_lawX (st := []) hX dL_law_794 tw_775 kX6_gain rfl rfl trivial trivial rfl (by omega) (Nat.le_of_ble_eq_true rfl) (by omega) (by omega) (fun U1 O1 B1 Q1 C1 R1 hQ1 hC1 hC2 => ?_)
  refine ev_b bL_law_797_801 (lv' := [(3, .int (nI (i))), (2, .ref 49), (1, .ref 0), (0, .float 40)]) (st' := [.int (nI (1)), .int (nI (i)), .float 40, .ref 49, .int (v)]) (w2 := compW T' S' P' U1 O1 B1 Q1 C1 R1 tl' rf' ++ modW 49 S (mkX M C T tl rf) K) rfl ?_
  refine ev_iadd_n dL_law_801 ?_
  refine ev_lald (i := i + 1) dL_law_802 (by omega) (by omega) ?_
  refine ev_top (y := zI z1) e1 ?_
  refine ev_lawM (st := [.int v]) hY dL_law_803 tw_1261 kX7_gain rfl rfl trivial trivial rfl rfl rfl (by omega) (Nat.le_of_ble_eq_true rfl) b3 b4 (by omega) (by omega) (fun X1 hM1 m1 m2 m3 m4 m5 => ?_)
  refine ev_icmp_eq (tgt := 1155) dL_law_806 (by decide) (fun _ => ?_) (fun h => absurd rfl h)
  subst hC1 hC2
  obtain ⟨M1, rfl⟩ : ∃ M1, X1 = mkX M1 C1 T' tl' rf' := ⟨X1, mkX_eq m1 m2 m3 m4 m5⟩
  exact hk T' S' P' U1 O1 B1 Q1 C1 R1 tl' rf' M1 K' hR' hQ1 hM1
theorem bL_law_811_815 {l : Launch} {E : XE} : Snd l E mL_law 811 815 (xs [x_aload 1, x_aload 0, x_iload 3, x_push (.int (nI 1))]) := Snd.cons (snd_aload_n (i := 1) dL_law_811 rfl) (Snd.cons (snd_aload_n (i := 0) dL_law_812 rfl) (Snd.cons (snd_iload_n (i := 3) dL_law_813 rfl) (Snd.cons (snd_iconst (v := nI 1) dL_law_814 (by decide)) Snd.nil)))
theorem bL_law_820_824 {l : Launch} {E : XE} : Snd l E mL_law 820 824 (xs [x_aload 2, x_aload 0, x_iload 3, x_push (.int (nI 1))]) := Snd.cons (snd_aload_n (i := 2) dL_law_820 rfl) (Snd.cons (snd_aload_n (i := 0) dL_law_821 rfl) (Snd.cons (snd_iload_n (i := 3) dL_law_822 rfl) (Snd.cons (snd_iconst (v := nI 1) dL_law_823 (by decide)) Snd.nil)))
set_option maxHeartbeats 1000000 in
theorem law_21 {l : Launch} {E : XE} {nc ns i : Nat} (hL : E.2.2.2 41 ≤ 2048) (hi : i + 4 ≤ E.2.2.2 41) (hnc : nc + 4 ≤ 600000) (hns : ns + 124 ≤ 7302249) (hk : LawK l E (nc + 4) (ns + 124) i 1155) : LawK l E nc ns i 811 := by
  intro T S P U O B Q C R tl rf M K hR hQ hM
  refine ev_b bL_law_811_815 (lv' := [(3, .int (nI (i))), (2, .ref 49), (1, .ref 0), (0, .float 40)]) (st' := [.int (nI (1)), .int (nI (i)), .float 40, .ref 0]) (w2 := compW T S P U O B Q C R tl rf ++ modW 49 S (mkX M C T tl rf) K) rfl ?_
  refine ev_iadd_n dL_law_815 ?_
  refine ev_lald (i := i + 1) dL_law_816 (by omega) (by omega) ?_
  obtain ⟨z1, e1, r1⟩ := i32z (nI (E.2.2.2 (1000 + (i + 1))))
  refine ev_top (y := zI z1) e1 ?_
  obtain ⟨v, T', S', P', lt', sz', tl', rf', K', dx, dy, mcy, msy, b1, b2, b3, b4, hR', hX, hY⟩ := pr_without z1 r1 hR hQ hM
  refine ev_lawX (st := []) hX dL_law_817 tw_784 kX6_without rfl rfl trivial trivial rfl (by omega) (Nat.le_of_ble_eq_true rfl) (by omega) (by omega) (fun U1 O1 B1 Q1 C1 R1 hQ1 hC1 hC2 => ?_)
  refine ev_b bL_law_820_824 (lv' := [(3, .int (nI (i))), (2, .ref 49), (1, .ref 0), (0, .float 40)]) (st' := [.int (nI (1)), .int (nI (i)), .float 40, .ref 49, .int (v)]) (w2 := compW T' S' P' U1 O1 B1 Q1 C1 R1 tl' rf' ++ modW 49 S (mkX M C T tl rf) K) rfl ?_
  refine ev_iadd_n dL_law_824 ?_
  refine ev_lald (i := i + 1) dL_law_825 (by omega) (by omega) ?_
  refine ev_top (y := zI z1) e1 ?_
  refine ev_lawM (st := [.int v]) hY dL_law_826 tw_1266 kX7_without rfl rfl trivial trivial rfl rfl rfl (by omega) (Nat.le_of_ble_eq_true rfl) b3 b4 (by omega) (by omega) (fun X1 hM1 m1 m2 m3 m4 m5 => ?_)
  refine ev_icmp_eq (tgt := 1155) dL_law_829 (by decide) (fun _ => ?_) (fun h => absurd rfl h)
  subst hC1 hC2
  obtain ⟨M1, rfl⟩ : ∃ M1, X1 = mkX M1 C1 T' tl' rf' := ⟨X1, mkX_eq m1 m2 m3 m4 m5⟩
  exact hk T' S' P' U1 O1 B1 Q1 C1 R1 tl' rf' M1 K' hR' hQ1 hM1
theorem bL_law_834_838 {l : Launch} {E : XE} : Snd l E mL_law 834 838 (xs [x_aload 1, x_aload 0, x_iload 3, x_push (.int (nI 1))]) := Snd.cons (snd_aload_n (i := 1) dL_law_834 rfl) (Snd.cons (snd_aload_n (i := 0) dL_law_835 rfl) (Snd.cons (snd_iload_n (i := 3) dL_law_836 rfl) (Snd.cons (snd_iconst (v := nI 1) dL_law_837 (by decide)) Snd.nil)))
theorem bL_law_843_847 {l : Launch} {E : XE} : Snd l E mL_law 843 847 (xs [x_aload 2, x_aload 0, x_iload 3, x_push (.int (nI 1))]) := Snd.cons (snd_aload_n (i := 2) dL_law_843 rfl) (Snd.cons (snd_aload_n (i := 0) dL_law_844 rfl) (Snd.cons (snd_iload_n (i := 3) dL_law_845 rfl) (Snd.cons (snd_iconst (v := nI 1) dL_law_846 (by decide)) Snd.nil)))
set_option maxHeartbeats 1000000 in
theorem law_22 {l : Launch} {E : XE} {nc ns i : Nat} (hL : E.2.2.2 41 ≤ 2048) (hi : i + 4 ≤ E.2.2.2 41) (hnc : nc + 4 ≤ 600000) (hns : ns + 124 ≤ 7302249) (hk : LawK l E (nc + 4) (ns + 124) i 1155) : LawK l E nc ns i 834 := by
  intro T S P U O B Q C R tl rf M K hR hQ hM
  refine ev_b bL_law_834_838 (lv' := [(3, .int (nI (i))), (2, .ref 49), (1, .ref 0), (0, .float 40)]) (st' := [.int (nI (1)), .int (nI (i)), .float 40, .ref 0]) (w2 := compW T S P U O B Q C R tl rf ++ modW 49 S (mkX M C T tl rf) K) rfl ?_
  refine ev_iadd_n dL_law_838 ?_
  refine ev_lald (i := i + 1) dL_law_839 (by omega) (by omega) ?_
  obtain ⟨z1, e1, r1⟩ := i32z (nI (E.2.2.2 (1000 + (i + 1))))
  refine ev_top (y := zI z1) e1 ?_
  obtain ⟨v, T', S', P', lt', sz', tl', rf', K', dx, dy, mcy, msy, b1, b2, b3, b4, hR', hX, hY⟩ := pr_least z1 r1 hR hQ hM
  refine ev_lawX (st := []) hX dL_law_840 tw_788 kX6_least rfl rfl trivial trivial rfl (by omega) (Nat.le_of_ble_eq_true rfl) (by omega) (by omega) (fun U1 O1 B1 Q1 C1 R1 hQ1 hC1 hC2 => ?_)
  refine ev_b bL_law_843_847 (lv' := [(3, .int (nI (i))), (2, .ref 49), (1, .ref 0), (0, .float 40)]) (st' := [.int (nI (1)), .int (nI (i)), .float 40, .ref 49, .int (v)]) (w2 := compW T' S' P' U1 O1 B1 Q1 C1 R1 tl' rf' ++ modW 49 S (mkX M C T tl rf) K) rfl ?_
  refine ev_iadd_n dL_law_847 ?_
  refine ev_lald (i := i + 1) dL_law_848 (by omega) (by omega) ?_
  refine ev_top (y := zI z1) e1 ?_
  refine ev_lawM (st := [.int v]) hY dL_law_849 tw_1270 kX7_least rfl rfl trivial trivial rfl rfl rfl (by omega) (Nat.le_of_ble_eq_true rfl) b3 b4 (by omega) (by omega) (fun X1 hM1 m1 m2 m3 m4 m5 => ?_)
  refine ev_icmp_eq (tgt := 1155) dL_law_852 (by decide) (fun _ => ?_) (fun h => absurd rfl h)
  subst hC1 hC2
  obtain ⟨M1, rfl⟩ : ∃ M1, X1 = mkX M1 C1 T' tl' rf' := ⟨X1, mkX_eq m1 m2 m3 m4 m5⟩
  exact hk T' S' P' U1 O1 B1 Q1 C1 R1 tl' rf' M1 K' hR' hQ1 hM1
theorem bL_law_857_858 {l : Launch} {E : XE} : Snd l E mL_law 857 858 (xs [x_aload 1]) := Snd.cons (snd_aload_n (i := 1) dL_law_857 rfl) Snd.nil
theorem bL_law_861_862 {l : Launch} {E : XE} : Snd l E mL_law 861 862 (xs [x_aload 2]) := Snd.cons (snd_aload_n (i := 2) dL_law_861 rfl) Snd.nil
set_option maxHeartbeats 1000000 in
theorem law_23 {l : Launch} {E : XE} {nc ns i : Nat} (hL : E.2.2.2 41 ≤ 2048) (hi : i + 4 ≤ E.2.2.2 41) (hnc : nc + 4 ≤ 600000) (hns : ns + 124 ≤ 7302249) (hk : LawK l E (nc + 4) (ns + 124) i 1155) : LawK l E nc ns i 857 := by
  intro T S P U O B Q C R tl rf M K hR hQ hM
  refine ev_b bL_law_857_858 (lv' := [(3, .int (nI (i))), (2, .ref 49), (1, .ref 0), (0, .float 40)]) (st' := [.ref 0]) (w2 := compW T S P U O B Q C R tl rf ++ modW 49 S (mkX M C T tl rf) K) rfl ?_
  obtain ⟨v, T', S', P', lt', sz', tl', rf', K', dx, dy, mcy, msy, b1, b2, b3, b4, hR', hX, hY⟩ := pr_tight   hR hQ hM
  refine ev_lawX (st := []) hX dL_law_858 tw_792 kX6_tight rfl rfl trivial trivial rfl (by omega) (Nat.le_of_ble_eq_true rfl) (by omega) (by omega) (fun U1 O1 B1 Q1 C1 R1 hQ1 hC1 hC2 => ?_)
  refine ev_b bL_law_861_862 (lv' := [(3, .int (nI (i))), (2, .ref 49), (1, .ref 0), (0, .float 40)]) (st' := [.ref 49, .int (v)]) (w2 := compW T' S' P' U1 O1 B1 Q1 C1 R1 tl' rf' ++ modW 49 S (mkX M C T tl rf) K) rfl ?_
  refine ev_lawM (st := [.int v]) hY dL_law_862 tw_1278 kX7_tight rfl rfl trivial trivial rfl rfl rfl (by omega) (Nat.le_of_ble_eq_true rfl) b3 b4 (by omega) (by omega) (fun X1 hM1 m1 m2 m3 m4 m5 => ?_)
  refine ev_icmp_eq (tgt := 1155) dL_law_865 (by decide) (fun _ => ?_) (fun h => absurd rfl h)
  subst hC1 hC2
  obtain ⟨M1, rfl⟩ : ∃ M1, X1 = mkX M1 C1 T' tl' rf' := ⟨X1, mkX_eq m1 m2 m3 m4 m5⟩
  exact hk T' S' P' U1 O1 B1 Q1 C1 R1 tl' rf' M1 K' hR' hQ1 hM1
theorem bL_law_870_874 {l : Launch} {E : XE} : Snd l E mL_law 870 874 (xs [x_aload 1, x_aload 0, x_iload 3, x_push (.int (nI 1))]) := Snd.cons (snd_aload_n (i := 1) dL_law_870 rfl) (Snd.cons (snd_aload_n (i := 0) dL_law_871 rfl) (Snd.cons (snd_iload_n (i := 3) dL_law_872 rfl) (Snd.cons (snd_iconst (v := nI 1) dL_law_873 (by decide)) Snd.nil)))
theorem bL_law_876_879 {l : Launch} {E : XE} : Snd l E mL_law 876 879 (xs [x_aload 0, x_iload 3, x_push (.int (nI 2))]) := Snd.cons (snd_aload_n (i := 0) dL_law_876 rfl) (Snd.cons (snd_iload_n (i := 3) dL_law_877 rfl) (Snd.cons (snd_iconst (v := nI 2) dL_law_878 (by decide)) Snd.nil))
theorem bL_law_881_884 {l : Launch} {E : XE} : Snd l E mL_law 881 884 (xs [x_aload 0, x_iload 3, x_push (.int (nI 3))]) := Snd.cons (snd_aload_n (i := 0) dL_law_881 rfl) (Snd.cons (snd_iload_n (i := 3) dL_law_882 rfl) (Snd.cons (snd_iconst (v := nI 3) dL_law_883 (by decide)) Snd.nil))
theorem bL_law_889_893 {l : Launch} {E : XE} : Snd l E mL_law 889 893 (xs [x_aload 2, x_aload 0, x_iload 3, x_push (.int (nI 1))]) := Snd.cons (snd_aload_n (i := 2) dL_law_889 rfl) (Snd.cons (snd_aload_n (i := 0) dL_law_890 rfl) (Snd.cons (snd_iload_n (i := 3) dL_law_891 rfl) (Snd.cons (snd_iconst (v := nI 1) dL_law_892 (by decide)) Snd.nil)))
theorem bL_law_895_898 {l : Launch} {E : XE} : Snd l E mL_law 895 898 (xs [x_aload 0, x_iload 3, x_push (.int (nI 2))]) := Snd.cons (snd_aload_n (i := 0) dL_law_895 rfl) (Snd.cons (snd_iload_n (i := 3) dL_law_896 rfl) (Snd.cons (snd_iconst (v := nI 2) dL_law_897 (by decide)) Snd.nil))
theorem bL_law_900_903 {l : Launch} {E : XE} : Snd l E mL_law 900 903 (xs [x_aload 0, x_iload 3, x_push (.int (nI 3))]) := Snd.cons (snd_aload_n (i := 0) dL_law_900 rfl) (Snd.cons (snd_iload_n (i := 3) dL_law_901 rfl) (Snd.cons (snd_iconst (v := nI 3) dL_law_902 (by decide)) Snd.nil))
theorem bL_law_908_909 {l : Launch} {E : XE} : Snd l E mL_law 908 909 (xs [x_lcmp]) := Snd.cons (snd_lcmp dL_law_908) Snd.nil
set_option maxHeartbeats 1000000 in
theorem law_24 {l : Launch} {E : XE} {nc ns i : Nat} (hL : E.2.2.2 41 ≤ 2048) (hi : i + 4 ≤ E.2.2.2 41) (hnc : nc + 4 ≤ 600000) (hns : ns + 124 ≤ 7302249) (hk : LawK l E (nc + 4) (ns + 124) i 1155) : LawK l E nc ns i 870 := by
  intro T S P U O B Q C R tl rf M K hR hQ hM
  refine ev_b bL_law_870_874 (lv' := [(3, .int (nI (i))), (2, .ref 49), (1, .ref 0), (0, .float 40)]) (st' := [.int (nI (1)), .int (nI (i)), .float 40, .ref 0]) (w2 := compW T S P U O B Q C R tl rf ++ modW 49 S (mkX M C T tl rf) K) rfl ?_
  refine ev_iadd_n dL_law_874 ?_
  refine ev_lald (i := i + 1) dL_law_875 (by omega) (by omega) ?_
  obtain ⟨z1, e1, r1⟩ := i32z (nI (E.2.2.2 (1000 + (i + 1))))
  refine ev_top (y := zI z1) e1 ?_
  refine ev_b bL_law_876_879 (lv' := [(3, .int (nI (i))), (2, .ref 49), (1, .ref 0), (0, .float 40)]) (st' := [.int (nI (2)), .int (nI (i)), .float 40, .int (zI (z1)), .ref 0]) (w2 := compW T S P U O B Q C R tl rf ++ modW 49 S (mkX M C T tl rf) K) rfl ?_
  refine ev_iadd_n dL_law_879 ?_
  refine ev_lald (i := i + 2) dL_law_880 (by omega) (by omega) ?_
  obtain ⟨z2, e2, r2⟩ := i32z (nI (E.2.2.2 (1000 + (i + 2))))
  refine ev_top (y := zI z2) e2 ?_
  refine ev_b bL_law_881_884 (lv' := [(3, .int (nI (i))), (2, .ref 49), (1, .ref 0), (0, .float 40)]) (st' := [.int (nI (3)), .int (nI (i)), .float 40, .int (zI (z2)), .int (zI (z1)), .ref 0]) (w2 := compW T S P U O B Q C R tl rf ++ modW 49 S (mkX M C T tl rf) K) rfl ?_
  refine ev_iadd_n dL_law_884 ?_
  refine ev_lald (i := i + 3) dL_law_885 (by omega) (by omega) ?_
  obtain ⟨z3, e3, r3⟩ := i32z (nI (E.2.2.2 (1000 + (i + 3))))
  refine ev_top (y := zI z3) e3 ?_
  obtain ⟨v, T', S', P', lt', sz', tl', rf', K', dx, dy, mcy, msy, b1, b2, b3, b4, hR', hX, hY⟩ := pr_missing z1 z2 z3 r1 r2 r3 hR hQ hM
  refine ev_lawX (st := []) hX dL_law_886 tw_796 kX6_missing rfl rfl trivial trivial rfl (by omega) (Nat.le_of_ble_eq_true rfl) (by omega) (by omega) (fun U1 O1 B1 Q1 C1 R1 hQ1 hC1 hC2 => ?_)
  refine ev_b bL_law_889_893 (lv' := [(3, .int (nI (i))), (2, .ref 49), (1, .ref 0), (0, .float 40)]) (st' := [.int (nI (1)), .int (nI (i)), .float 40, .ref 49, .long (v)]) (w2 := compW T' S' P' U1 O1 B1 Q1 C1 R1 tl' rf' ++ modW 49 S (mkX M C T tl rf) K) rfl ?_
  refine ev_iadd_n dL_law_893 ?_
  refine ev_lald (i := i + 1) dL_law_894 (by omega) (by omega) ?_
  refine ev_top (y := zI z1) e1 ?_
  refine ev_b bL_law_895_898 (lv' := [(3, .int (nI (i))), (2, .ref 49), (1, .ref 0), (0, .float 40)]) (st' := [.int (nI (2)), .int (nI (i)), .float 40, .int (zI (z1)), .ref 49, .long (v)]) (w2 := compW T' S' P' U1 O1 B1 Q1 C1 R1 tl' rf' ++ modW 49 S (mkX M C T tl rf) K) rfl ?_
  refine ev_iadd_n dL_law_898 ?_
  refine ev_lald (i := i + 2) dL_law_899 (by omega) (by omega) ?_
  refine ev_top (y := zI z2) e2 ?_
  refine ev_b bL_law_900_903 (lv' := [(3, .int (nI (i))), (2, .ref 49), (1, .ref 0), (0, .float 40)]) (st' := [.int (nI (3)), .int (nI (i)), .float 40, .int (zI (z2)), .int (zI (z1)), .ref 49, .long (v)]) (w2 := compW T' S' P' U1 O1 B1 Q1 C1 R1 tl' rf' ++ modW 49 S (mkX M C T tl rf) K) rfl ?_
  refine ev_iadd_n dL_law_903 ?_
  refine ev_lald (i := i + 3) dL_law_904 (by omega) (by omega) ?_
  refine ev_top (y := zI z3) e3 ?_
  refine ev_lawM (st := [.long v]) hY dL_law_905 tw_1282 kX7_missing rfl rfl trivial trivial rfl rfl rfl (by omega) (Nat.le_of_ble_eq_true rfl) b3 b4 (by omega) (by omega) (fun X1 hM1 m1 m2 m3 m4 m5 => ?_)
  refine ev_b bL_law_908_909 (lv' := [(3, .int (nI (i))), (2, .ref 49), (1, .ref 0), (0, .float 40)]) (st' := [.int (lg_cmp v v)]) (w2 := compW T' S' P' U1 O1 B1 Q1 C1 R1 tl' rf' ++ modW 49 S' X1 K') rfl ?_
  refine ev_if_eq (tgt := 1155) dL_law_909 (by decide) (fun _ => ?_) (fun h => absurd (lgc v) h)
  subst hC1 hC2
  obtain ⟨M1, rfl⟩ : ∃ M1, X1 = mkX M1 C1 T' tl' rf' := ⟨X1, mkX_eq m1 m2 m3 m4 m5⟩
  exact hk T' S' P' U1 O1 B1 Q1 C1 R1 tl' rf' M1 K' hR' hQ1 hM1
theorem bL_law_914_918 {l : Launch} {E : XE} : Snd l E mL_law 914 918 (xs [x_aload 1, x_aload 0, x_iload 3, x_push (.int (nI 1))]) := Snd.cons (snd_aload_n (i := 1) dL_law_914 rfl) (Snd.cons (snd_aload_n (i := 0) dL_law_915 rfl) (Snd.cons (snd_iload_n (i := 3) dL_law_916 rfl) (Snd.cons (snd_iconst (v := nI 1) dL_law_917 (by decide)) Snd.nil)))
theorem bL_law_920_923 {l : Launch} {E : XE} : Snd l E mL_law 920 923 (xs [x_aload 0, x_iload 3, x_push (.int (nI 2))]) := Snd.cons (snd_aload_n (i := 0) dL_law_920 rfl) (Snd.cons (snd_iload_n (i := 3) dL_law_921 rfl) (Snd.cons (snd_iconst (v := nI 2) dL_law_922 (by decide)) Snd.nil))
theorem bL_law_928_932 {l : Launch} {E : XE} : Snd l E mL_law 928 932 (xs [x_aload 2, x_aload 0, x_iload 3, x_push (.int (nI 1))]) := Snd.cons (snd_aload_n (i := 2) dL_law_928 rfl) (Snd.cons (snd_aload_n (i := 0) dL_law_929 rfl) (Snd.cons (snd_iload_n (i := 3) dL_law_930 rfl) (Snd.cons (snd_iconst (v := nI 1) dL_law_931 (by decide)) Snd.nil)))
theorem bL_law_934_937 {l : Launch} {E : XE} : Snd l E mL_law 934 937 (xs [x_aload 0, x_iload 3, x_push (.int (nI 2))]) := Snd.cons (snd_aload_n (i := 0) dL_law_934 rfl) (Snd.cons (snd_iload_n (i := 3) dL_law_935 rfl) (Snd.cons (snd_iconst (v := nI 2) dL_law_936 (by decide)) Snd.nil))
theorem bL_law_942_943 {l : Launch} {E : XE} : Snd l E mL_law 942 943 (xs [x_lcmp]) := Snd.cons (snd_lcmp dL_law_942) Snd.nil
set_option maxHeartbeats 1000000 in
theorem law_25 {l : Launch} {E : XE} {nc ns i : Nat} (hL : E.2.2.2 41 ≤ 2048) (hi : i + 4 ≤ E.2.2.2 41) (hnc : nc + 4 ≤ 600000) (hns : ns + 124 ≤ 7302249) (hk : LawK l E (nc + 4) (ns + 124) i 1155) : LawK l E nc ns i 914 := by
  intro T S P U O B Q C R tl rf M K hR hQ hM
  refine ev_b bL_law_914_918 (lv' := [(3, .int (nI (i))), (2, .ref 49), (1, .ref 0), (0, .float 40)]) (st' := [.int (nI (1)), .int (nI (i)), .float 40, .ref 0]) (w2 := compW T S P U O B Q C R tl rf ++ modW 49 S (mkX M C T tl rf) K) rfl ?_
  refine ev_iadd_n dL_law_918 ?_
  refine ev_lald (i := i + 1) dL_law_919 (by omega) (by omega) ?_
  obtain ⟨z1, e1, r1⟩ := i32z (nI (E.2.2.2 (1000 + (i + 1))))
  refine ev_top (y := zI z1) e1 ?_
  refine ev_b bL_law_920_923 (lv' := [(3, .int (nI (i))), (2, .ref 49), (1, .ref 0), (0, .float 40)]) (st' := [.int (nI (2)), .int (nI (i)), .float 40, .int (zI (z1)), .ref 0]) (w2 := compW T S P U O B Q C R tl rf ++ modW 49 S (mkX M C T tl rf) K) rfl ?_
  refine ev_iadd_n dL_law_923 ?_
  refine ev_lald (i := i + 2) dL_law_924 (by omega) (by omega) ?_
  obtain ⟨z2, e2, r2⟩ := i32z (nI (E.2.2.2 (1000 + (i + 2))))
  refine ev_top (y := zI z2) e2 ?_
  obtain ⟨v, T', S', P', lt', sz', tl', rf', K', dx, dy, mcy, msy, b1, b2, b3, b4, hR', hX, hY⟩ := pr_mean z1 z2 r1 r2 hR hQ hM
  refine ev_lawX (st := []) hX dL_law_925 tw_814 kX6_mean rfl rfl trivial trivial rfl (by omega) (Nat.le_of_ble_eq_true rfl) (by omega) (by omega) (fun U1 O1 B1 Q1 C1 R1 hQ1 hC1 hC2 => ?_)
  refine ev_b bL_law_928_932 (lv' := [(3, .int (nI (i))), (2, .ref 49), (1, .ref 0), (0, .float 40)]) (st' := [.int (nI (1)), .int (nI (i)), .float 40, .ref 49, .long (v)]) (w2 := compW T' S' P' U1 O1 B1 Q1 C1 R1 tl' rf' ++ modW 49 S (mkX M C T tl rf) K) rfl ?_
  refine ev_iadd_n dL_law_932 ?_
  refine ev_lald (i := i + 1) dL_law_933 (by omega) (by omega) ?_
  refine ev_top (y := zI z1) e1 ?_
  refine ev_b bL_law_934_937 (lv' := [(3, .int (nI (i))), (2, .ref 49), (1, .ref 0), (0, .float 40)]) (st' := [.int (nI (2)), .int (nI (i)), .float 40, .int (zI (z1)), .ref 49, .long (v)]) (w2 := compW T' S' P' U1 O1 B1 Q1 C1 R1 tl' rf' ++ modW 49 S (mkX M C T tl rf) K) rfl ?_
  refine ev_iadd_n dL_law_937 ?_
  refine ev_lald (i := i + 2) dL_law_938 (by omega) (by omega) ?_
  refine ev_top (y := zI z2) e2 ?_
  refine ev_lawM (st := [.long v]) hY dL_law_939 tw_1293 kX7_mean rfl rfl trivial trivial rfl rfl rfl (by omega) (Nat.le_of_ble_eq_true rfl) b3 b4 (by omega) (by omega) (fun X1 hM1 m1 m2 m3 m4 m5 => ?_)
  refine ev_b bL_law_942_943 (lv' := [(3, .int (nI (i))), (2, .ref 49), (1, .ref 0), (0, .float 40)]) (st' := [.int (lg_cmp v v)]) (w2 := compW T' S' P' U1 O1 B1 Q1 C1 R1 tl' rf' ++ modW 49 S' X1 K') rfl ?_
  refine ev_if_eq (tgt := 1155) dL_law_943 (by decide) (fun _ => ?_) (fun h => absurd (lgc v) h)
  subst hC1 hC2
  obtain ⟨M1, rfl⟩ : ∃ M1, X1 = mkX M1 C1 T' tl' rf' := ⟨X1, mkX_eq m1 m2 m3 m4 m5⟩
  exact hk T' S' P' U1 O1 B1 Q1 C1 R1 tl' rf' M1 K' hR' hQ1 hM1
theorem bL_law_948_952 {l : Launch} {E : XE} : Snd l E mL_law 948 952 (xs [x_aload 1, x_aload 0, x_iload 3, x_push (.int (nI 1))]) := Snd.cons (snd_aload_n (i := 1) dL_law_948 rfl) (Snd.cons (snd_aload_n (i := 0) dL_law_949 rfl) (Snd.cons (snd_iload_n (i := 3) dL_law_950 rfl) (Snd.cons (snd_iconst (v := nI 1) dL_law_951 (by decide)) Snd.nil)))
theorem bL_law_957_961 {l : Launch} {E : XE} : Snd l E mL_law 957 961 (xs [x_aload 2, x_aload 0, x_iload 3, x_push (.int (nI 1))]) := Snd.cons (snd_aload_n (i := 2) dL_law_957 rfl) (Snd.cons (snd_aload_n (i := 0) dL_law_958 rfl) (Snd.cons (snd_iload_n (i := 3) dL_law_959 rfl) (Snd.cons (snd_iconst (v := nI 1) dL_law_960 (by decide)) Snd.nil)))
set_option maxHeartbeats 1000000 in
theorem law_26 {l : Launch} {E : XE} {nc ns i : Nat} (hL : E.2.2.2 41 ≤ 2048) (hi : i + 4 ≤ E.2.2.2 41) (hnc : nc + 4 ≤ 600000) (hns : ns + 124 ≤ 7302249) (hk : LawK l E (nc + 4) (ns + 124) i 1155) : LawK l E nc ns i 948 := by
  intro T S P U O B Q C R tl rf M K hR hQ hM
  refine ev_b bL_law_948_952 (lv' := [(3, .int (nI (i))), (2, .ref 49), (1, .ref 0), (0, .float 40)]) (st' := [.int (nI (1)), .int (nI (i)), .float 40, .ref 0]) (w2 := compW T S P U O B Q C R tl rf ++ modW 49 S (mkX M C T tl rf) K) rfl ?_
  refine ev_iadd_n dL_law_952 ?_
  refine ev_lald (i := i + 1) dL_law_953 (by omega) (by omega) ?_
  obtain ⟨z1, e1, r1⟩ := i32z (nI (E.2.2.2 (1000 + (i + 1))))
  refine ev_top (y := zI z1) e1 ?_
  obtain ⟨v, T', S', P', lt', sz', tl', rf', K', dx, dy, mcy, msy, b1, b2, b3, b4, hR', hX, hY⟩ := pr_printed z1 r1 hR hQ hM
  refine ev_lawX (st := []) hX dL_law_954 tw_822 kX6_printed rfl rfl trivial trivial rfl (by omega) (Nat.le_of_ble_eq_true rfl) (by omega) (by omega) (fun U1 O1 B1 Q1 C1 R1 hQ1 hC1 hC2 => ?_)
  refine ev_b bL_law_957_961 (lv' := [(3, .int (nI (i))), (2, .ref 49), (1, .ref 0), (0, .float 40)]) (st' := [.int (nI (1)), .int (nI (i)), .float 40, .ref 49, .int (v)]) (w2 := compW T' S' P' U1 O1 B1 Q1 C1 R1 tl' rf' ++ modW 49 S (mkX M C T tl rf) K) rfl ?_
  refine ev_iadd_n dL_law_961 ?_
  refine ev_lald (i := i + 1) dL_law_962 (by omega) (by omega) ?_
  refine ev_top (y := zI z1) e1 ?_
  refine ev_lawM (st := [.int v]) hY dL_law_963 tw_1297 kX7_printed rfl rfl trivial trivial rfl rfl rfl (by omega) (Nat.le_of_ble_eq_true rfl) b3 b4 (by omega) (by omega) (fun X1 hM1 m1 m2 m3 m4 m5 => ?_)
  refine ev_icmp_eq (tgt := 1155) dL_law_966 (by decide) (fun _ => ?_) (fun h => absurd rfl h)
  subst hC1 hC2
  obtain ⟨M1, rfl⟩ : ∃ M1, X1 = mkX M1 C1 T' tl' rf' := ⟨X1, mkX_eq m1 m2 m3 m4 m5⟩
  exact hk T' S' P' U1 O1 B1 Q1 C1 R1 tl' rf' M1 K' hR' hQ1 hM1
theorem bL_law_971_975 {l : Launch} {E : XE} : Snd l E mL_law 971 975 (xs [x_aload 1, x_aload 0, x_iload 3, x_push (.int (nI 1))]) := Snd.cons (snd_aload_n (i := 1) dL_law_971 rfl) (Snd.cons (snd_aload_n (i := 0) dL_law_972 rfl) (Snd.cons (snd_iload_n (i := 3) dL_law_973 rfl) (Snd.cons (snd_iconst (v := nI 1) dL_law_974 (by decide)) Snd.nil)))
theorem bL_law_977_980 {l : Launch} {E : XE} : Snd l E mL_law 977 980 (xs [x_aload 0, x_iload 3, x_push (.int (nI 2))]) := Snd.cons (snd_aload_n (i := 0) dL_law_977 rfl) (Snd.cons (snd_iload_n (i := 3) dL_law_978 rfl) (Snd.cons (snd_iconst (v := nI 2) dL_law_979 (by decide)) Snd.nil))
theorem bL_law_985_989 {l : Launch} {E : XE} : Snd l E mL_law 985 989 (xs [x_aload 2, x_aload 0, x_iload 3, x_push (.int (nI 1))]) := Snd.cons (snd_aload_n (i := 2) dL_law_985 rfl) (Snd.cons (snd_aload_n (i := 0) dL_law_986 rfl) (Snd.cons (snd_iload_n (i := 3) dL_law_987 rfl) (Snd.cons (snd_iconst (v := nI 1) dL_law_988 (by decide)) Snd.nil)))
theorem bL_law_991_994 {l : Launch} {E : XE} : Snd l E mL_law 991 994 (xs [x_aload 0, x_iload 3, x_push (.int (nI 2))]) := Snd.cons (snd_aload_n (i := 0) dL_law_991 rfl) (Snd.cons (snd_iload_n (i := 3) dL_law_992 rfl) (Snd.cons (snd_iconst (v := nI 2) dL_law_993 (by decide)) Snd.nil))
set_option maxHeartbeats 1000000 in
theorem law_27 {l : Launch} {E : XE} {nc ns i : Nat} (hL : E.2.2.2 41 ≤ 2048) (hi : i + 4 ≤ E.2.2.2 41) (hnc : nc + 4 ≤ 600000) (hns : ns + 124 ≤ 7302249) (hk : LawK l E (nc + 4) (ns + 124) i 1155) : LawK l E nc ns i 971 := by
  intro T S P U O B Q C R tl rf M K hR hQ hM
  refine ev_b bL_law_971_975 (lv' := [(3, .int (nI (i))), (2, .ref 49), (1, .ref 0), (0, .float 40)]) (st' := [.int (nI (1)), .int (nI (i)), .float 40, .ref 0]) (w2 := compW T S P U O B Q C R tl rf ++ modW 49 S (mkX M C T tl rf) K) rfl ?_
  refine ev_iadd_n dL_law_975 ?_
  refine ev_lald (i := i + 1) dL_law_976 (by omega) (by omega) ?_
  obtain ⟨z1, e1, r1⟩ := i32z (nI (E.2.2.2 (1000 + (i + 1))))
  refine ev_top (y := zI z1) e1 ?_
  refine ev_b bL_law_977_980 (lv' := [(3, .int (nI (i))), (2, .ref 49), (1, .ref 0), (0, .float 40)]) (st' := [.int (nI (2)), .int (nI (i)), .float 40, .int (zI (z1)), .ref 0]) (w2 := compW T S P U O B Q C R tl rf ++ modW 49 S (mkX M C T tl rf) K) rfl ?_
  refine ev_iadd_n dL_law_980 ?_
  refine ev_lald (i := i + 2) dL_law_981 (by omega) (by omega) ?_
  obtain ⟨z2, e2, r2⟩ := i32z (nI (E.2.2.2 (1000 + (i + 2))))
  refine ev_top (y := zI z2) e2 ?_
  obtain ⟨v, T', S', P', lt', sz', tl', rf', K', dx, dy, mcy, msy, b1, b2, b3, b4, hR', hX, hY⟩ := pr_whatIs z1 z2 r1 r2 hR hQ hM
  refine ev_lawX (st := []) hX dL_law_982 tw_850 kX6_whatIs rfl rfl trivial trivial rfl (by omega) (Nat.le_of_ble_eq_true rfl) (by omega) (by omega) (fun U1 O1 B1 Q1 C1 R1 hQ1 hC1 hC2 => ?_)
  refine ev_b bL_law_985_989 (lv' := [(3, .int (nI (i))), (2, .ref 49), (1, .ref 0), (0, .float 40)]) (st' := [.int (nI (1)), .int (nI (i)), .float 40, .ref 49, .int (v)]) (w2 := compW T' S' P' U1 O1 B1 Q1 C1 R1 tl' rf' ++ modW 49 S (mkX M C T tl rf) K) rfl ?_
  refine ev_iadd_n dL_law_989 ?_
  refine ev_lald (i := i + 1) dL_law_990 (by omega) (by omega) ?_
  refine ev_top (y := zI z1) e1 ?_
  refine ev_b bL_law_991_994 (lv' := [(3, .int (nI (i))), (2, .ref 49), (1, .ref 0), (0, .float 40)]) (st' := [.int (nI (2)), .int (nI (i)), .float 40, .int (zI (z1)), .ref 49, .int (v)]) (w2 := compW T' S' P' U1 O1 B1 Q1 C1 R1 tl' rf' ++ modW 49 S (mkX M C T tl rf) K) rfl ?_
  refine ev_iadd_n dL_law_994 ?_
  refine ev_lald (i := i + 2) dL_law_995 (by omega) (by omega) ?_
  refine ev_top (y := zI z2) e2 ?_
  refine ev_lawM (st := [.int v]) hY dL_law_996 tw_1450 kX7_whatIs rfl rfl trivial trivial rfl rfl rfl (by omega) (Nat.le_of_ble_eq_true rfl) b3 b4 (by omega) (by omega) (fun X1 hM1 m1 m2 m3 m4 m5 => ?_)
  refine ev_icmp_eq (tgt := 1155) dL_law_999 (by decide) (fun _ => ?_) (fun h => absurd rfl h)
  subst hC1 hC2
  obtain ⟨M1, rfl⟩ : ∃ M1, X1 = mkX M1 C1 T' tl' rf' := ⟨X1, mkX_eq m1 m2 m3 m4 m5⟩
  exact hk T' S' P' U1 O1 B1 Q1 C1 R1 tl' rf' M1 K' hR' hQ1 hM1
theorem bL_law_1004_1008 {l : Launch} {E : XE} : Snd l E mL_law 1004 1008 (xs [x_aload 1, x_aload 0, x_iload 3, x_push (.int (nI 1))]) := Snd.cons (snd_aload_n (i := 1) dL_law_1004 rfl) (Snd.cons (snd_aload_n (i := 0) dL_law_1005 rfl) (Snd.cons (snd_iload_n (i := 3) dL_law_1006 rfl) (Snd.cons (snd_iconst (v := nI 1) dL_law_1007 (by decide)) Snd.nil)))
theorem bL_law_1013_1017 {l : Launch} {E : XE} : Snd l E mL_law 1013 1017 (xs [x_aload 2, x_aload 0, x_iload 3, x_push (.int (nI 1))]) := Snd.cons (snd_aload_n (i := 2) dL_law_1013 rfl) (Snd.cons (snd_aload_n (i := 0) dL_law_1014 rfl) (Snd.cons (snd_iload_n (i := 3) dL_law_1015 rfl) (Snd.cons (snd_iconst (v := nI 1) dL_law_1016 (by decide)) Snd.nil)))
set_option maxHeartbeats 1000000 in
theorem law_28 {l : Launch} {E : XE} {nc ns i : Nat} (hL : E.2.2.2 41 ≤ 2048) (hi : i + 4 ≤ E.2.2.2 41) (hnc : nc + 4 ≤ 600000) (hns : ns + 124 ≤ 7302249) (hk : LawK l E (nc + 4) (ns + 124) i 1155) : LawK l E nc ns i 1004 := by
  intro T S P U O B Q C R tl rf M K hR hQ hM
  refine ev_b bL_law_1004_1008 (lv' := [(3, .int (nI (i))), (2, .ref 49), (1, .ref 0), (0, .float 40)]) (st' := [.int (nI (1)), .int (nI (i)), .float 40, .ref 0]) (w2 := compW T S P U O B Q C R tl rf ++ modW 49 S (mkX M C T tl rf) K) rfl ?_
  refine ev_iadd_n dL_law_1008 ?_
  refine ev_lald (i := i + 1) dL_law_1009 (by omega) (by omega) ?_
  obtain ⟨z1, e1, r1⟩ := i32z (nI (E.2.2.2 (1000 + (i + 1))))
  refine ev_top (y := zI z1) e1 ?_
  obtain ⟨v, T', S', P', lt', sz', tl', rf', K', dx, dy, mcy, msy, b1, b2, b3, b4, hR', hX, hY⟩ := pr_row z1 r1 hR hQ hM
  refine ev_lawX (st := []) hX dL_law_1010 tw_858 kX6_row rfl rfl trivial trivial rfl (by omega) (Nat.le_of_ble_eq_true rfl) (by omega) (by omega) (fun U1 O1 B1 Q1 C1 R1 hQ1 hC1 hC2 => ?_)
  refine ev_b bL_law_1013_1017 (lv' := [(3, .int (nI (i))), (2, .ref 49), (1, .ref 0), (0, .float 40)]) (st' := [.int (nI (1)), .int (nI (i)), .float 40, .ref 49, .int (v)]) (w2 := compW T' S' P' U1 O1 B1 Q1 C1 R1 tl' rf' ++ modW 49 S (mkX M C T tl rf) K) rfl ?_
  refine ev_iadd_n dL_law_1017 ?_
  refine ev_lald (i := i + 1) dL_law_1018 (by omega) (by omega) ?_
  refine ev_top (y := zI z1) e1 ?_
  refine ev_lawM (st := [.int v]) hY dL_law_1019 tw_1458 kX7_row rfl rfl trivial trivial rfl rfl rfl (by omega) (Nat.le_of_ble_eq_true rfl) b3 b4 (by omega) (by omega) (fun X1 hM1 m1 m2 m3 m4 m5 => ?_)
  refine ev_icmp_eq (tgt := 1155) dL_law_1022 (by decide) (fun _ => ?_) (fun h => absurd rfl h)
  subst hC1 hC2
  obtain ⟨M1, rfl⟩ : ∃ M1, X1 = mkX M1 C1 T' tl' rf' := ⟨X1, mkX_eq m1 m2 m3 m4 m5⟩
  exact hk T' S' P' U1 O1 B1 Q1 C1 R1 tl' rf' M1 K' hR' hQ1 hM1
theorem bL_law_1027_1031 {l : Launch} {E : XE} : Snd l E mL_law 1027 1031 (xs [x_aload 1, x_aload 0, x_iload 3, x_push (.int (nI 1))]) := Snd.cons (snd_aload_n (i := 1) dL_law_1027 rfl) (Snd.cons (snd_aload_n (i := 0) dL_law_1028 rfl) (Snd.cons (snd_iload_n (i := 3) dL_law_1029 rfl) (Snd.cons (snd_iconst (v := nI 1) dL_law_1030 (by decide)) Snd.nil)))
theorem bL_law_1036_1040 {l : Launch} {E : XE} : Snd l E mL_law 1036 1040 (xs [x_aload 2, x_aload 0, x_iload 3, x_push (.int (nI 1))]) := Snd.cons (snd_aload_n (i := 2) dL_law_1036 rfl) (Snd.cons (snd_aload_n (i := 0) dL_law_1037 rfl) (Snd.cons (snd_iload_n (i := 3) dL_law_1038 rfl) (Snd.cons (snd_iconst (v := nI 1) dL_law_1039 (by decide)) Snd.nil)))
set_option maxHeartbeats 1000000 in
theorem law_29 {l : Launch} {E : XE} {nc ns i : Nat} (hL : E.2.2.2 41 ≤ 2048) (hi : i + 4 ≤ E.2.2.2 41) (hnc : nc + 4 ≤ 600000) (hns : ns + 124 ≤ 7302249) (hk : LawK l E (nc + 4) (ns + 124) i 1155) : LawK l E nc ns i 1027 := by
  intro T S P U O B Q C R tl rf M K hR hQ hM
  refine ev_b bL_law_1027_1031 (lv' := [(3, .int (nI (i))), (2, .ref 49), (1, .ref 0), (0, .float 40)]) (st' := [.int (nI (1)), .int (nI (i)), .float 40, .ref 0]) (w2 := compW T S P U O B Q C R tl rf ++ modW 49 S (mkX M C T tl rf) K) rfl ?_
  refine ev_iadd_n dL_law_1031 ?_
  refine ev_lald (i := i + 1) dL_law_1032 (by omega) (by omega) ?_
  obtain ⟨z1, e1, r1⟩ := i32z (nI (E.2.2.2 (1000 + (i + 1))))
  refine ev_top (y := zI z1) e1 ?_
  obtain ⟨v, T', S', P', lt', sz', tl', rf', K', dx, dy, mcy, msy, b1, b2, b3, b4, hR', hX, hY⟩ := pr_judge z1 r1 hR hQ hM
  refine ev_lawX (st := []) hX dL_law_1033 tw_862 kX6_judge rfl rfl trivial trivial rfl (by omega) (Nat.le_of_ble_eq_true rfl) (by omega) (by omega) (fun U1 O1 B1 Q1 C1 R1 hQ1 hC1 hC2 => ?_)
  refine ev_b bL_law_1036_1040 (lv' := [(3, .int (nI (i))), (2, .ref 49), (1, .ref 0), (0, .float 40)]) (st' := [.int (nI (1)), .int (nI (i)), .float 40, .ref 49, .int (v)]) (w2 := compW T' S' P' U1 O1 B1 Q1 C1 R1 tl' rf' ++ modW 49 S (mkX M C T tl rf) K) rfl ?_
  refine ev_iadd_n dL_law_1040 ?_
  refine ev_lald (i := i + 1) dL_law_1041 (by omega) (by omega) ?_
  refine ev_top (y := zI z1) e1 ?_
  refine ev_lawM (st := [.int v]) hY dL_law_1042 tw_1462 kX7_judge rfl rfl trivial trivial rfl rfl rfl (by omega) (Nat.le_of_ble_eq_true rfl) b3 b4 (by omega) (by omega) (fun X1 hM1 m1 m2 m3 m4 m5 => ?_)
  refine ev_icmp_eq (tgt := 1155) dL_law_1045 (by decide) (fun _ => ?_) (fun h => absurd rfl h)
  subst hC1 hC2
  obtain ⟨M1, rfl⟩ : ∃ M1, X1 = mkX M1 C1 T' tl' rf' := ⟨X1, mkX_eq m1 m2 m3 m4 m5⟩
  exact hk T' S' P' U1 O1 B1 Q1 C1 R1 tl' rf' M1 K' hR' hQ1 hM1
theorem bL_law_1050_1051 {l : Launch} {E : XE} : Snd l E mL_law 1050 1051 (xs [x_aload 1]) := Snd.cons (snd_aload_n (i := 1) dL_law_1050 rfl) Snd.nil
theorem bL_law_1054_1055 {l : Launch} {E : XE} : Snd l E mL_law 1054 1055 (xs [x_aload 2]) := Snd.cons (snd_aload_n (i := 2) dL_law_1054 rfl) Snd.nil
set_option maxHeartbeats 1000000 in
theorem law_30 {l : Launch} {E : XE} {nc ns i : Nat} (hL : E.2.2.2 41 ≤ 2048) (hi : i + 4 ≤ E.2.2.2 41) (hnc : nc + 4 ≤ 600000) (hns : ns + 124 ≤ 7302249) (hk : LawK l E (nc + 4) (ns + 124) i 1155) : LawK l E nc ns i 1050 := by
  intro T S P U O B Q C R tl rf M K hR hQ hM
  refine ev_b bL_law_1050_1051 (lv' := [(3, .int (nI (i))), (2, .ref 49), (1, .ref 0), (0, .float 40)]) (st' := [.ref 0]) (w2 := compW T S P U O B Q C R tl rf ++ modW 49 S (mkX M C T tl rf) K) rfl ?_
  obtain ⟨v, T', S', P', lt', sz', tl', rf', K', dx, dy, mcy, msy, b1, b2, b3, b4, hR', hX, hY⟩ := pr_clear   hR hQ hM
  refine ev_lawX (st := []) hX dL_law_1051 tw_866 kX6_clear rfl rfl trivial trivial rfl (by omega) (Nat.le_of_ble_eq_true rfl) (by omega) (by omega) (fun U1 O1 B1 Q1 C1 R1 hQ1 hC1 hC2 => ?_)
  refine ev_b bL_law_1054_1055 (lv' := [(3, .int (nI (i))), (2, .ref 49), (1, .ref 0), (0, .float 40)]) (st' := [.ref 49, .int (v)]) (w2 := compW T' S' P' U1 O1 B1 Q1 C1 R1 tl' rf' ++ modW 49 S (mkX M C T tl rf) K) rfl ?_
  refine ev_lawM (st := [.int v]) hY dL_law_1055 tw_1466 kX7_clear rfl rfl trivial trivial rfl rfl rfl (by omega) (Nat.le_of_ble_eq_true rfl) b3 b4 (by omega) (by omega) (fun X1 hM1 m1 m2 m3 m4 m5 => ?_)
  refine ev_icmp_eq (tgt := 1155) dL_law_1058 (by decide) (fun _ => ?_) (fun h => absurd rfl h)
  subst hC1 hC2
  obtain ⟨M1, rfl⟩ : ∃ M1, X1 = mkX M1 C1 T' tl' rf' := ⟨X1, mkX_eq m1 m2 m3 m4 m5⟩
  exact hk T' S' P' U1 O1 B1 Q1 C1 R1 tl' rf' M1 K' hR' hQ1 hM1
theorem bL_law_1063_1067 {l : Launch} {E : XE} : Snd l E mL_law 1063 1067 (xs [x_aload 1, x_aload 0, x_iload 3, x_push (.int (nI 1))]) := Snd.cons (snd_aload_n (i := 1) dL_law_1063 rfl) (Snd.cons (snd_aload_n (i := 0) dL_law_1064 rfl) (Snd.cons (snd_iload_n (i := 3) dL_law_1065 rfl) (Snd.cons (snd_iconst (v := nI 1) dL_law_1066 (by decide)) Snd.nil)))
theorem bL_law_1069_1072 {l : Launch} {E : XE} : Snd l E mL_law 1069 1072 (xs [x_aload 0, x_iload 3, x_push (.int (nI 2))]) := Snd.cons (snd_aload_n (i := 0) dL_law_1069 rfl) (Snd.cons (snd_iload_n (i := 3) dL_law_1070 rfl) (Snd.cons (snd_iconst (v := nI 2) dL_law_1071 (by decide)) Snd.nil))
theorem bL_law_1074_1077 {l : Launch} {E : XE} : Snd l E mL_law 1074 1077 (xs [x_aload 0, x_iload 3, x_push (.int (nI 3))]) := Snd.cons (snd_aload_n (i := 0) dL_law_1074 rfl) (Snd.cons (snd_iload_n (i := 3) dL_law_1075 rfl) (Snd.cons (snd_iconst (v := nI 3) dL_law_1076 (by decide)) Snd.nil))
theorem bL_law_1082_1086 {l : Launch} {E : XE} : Snd l E mL_law 1082 1086 (xs [x_aload 2, x_aload 0, x_iload 3, x_push (.int (nI 1))]) := Snd.cons (snd_aload_n (i := 2) dL_law_1082 rfl) (Snd.cons (snd_aload_n (i := 0) dL_law_1083 rfl) (Snd.cons (snd_iload_n (i := 3) dL_law_1084 rfl) (Snd.cons (snd_iconst (v := nI 1) dL_law_1085 (by decide)) Snd.nil)))
theorem bL_law_1088_1091 {l : Launch} {E : XE} : Snd l E mL_law 1088 1091 (xs [x_aload 0, x_iload 3, x_push (.int (nI 2))]) := Snd.cons (snd_aload_n (i := 0) dL_law_1088 rfl) (Snd.cons (snd_iload_n (i := 3) dL_law_1089 rfl) (Snd.cons (snd_iconst (v := nI 2) dL_law_1090 (by decide)) Snd.nil))
theorem bL_law_1093_1096 {l : Launch} {E : XE} : Snd l E mL_law 1093 1096 (xs [x_aload 0, x_iload 3, x_push (.int (nI 3))]) := Snd.cons (snd_aload_n (i := 0) dL_law_1093 rfl) (Snd.cons (snd_iload_n (i := 3) dL_law_1094 rfl) (Snd.cons (snd_iconst (v := nI 3) dL_law_1095 (by decide)) Snd.nil))
set_option maxHeartbeats 1000000 in
theorem law_31 {l : Launch} {E : XE} {nc ns i : Nat} (hL : E.2.2.2 41 ≤ 2048) (hi : i + 4 ≤ E.2.2.2 41) (hnc : nc + 4 ≤ 600000) (hns : ns + 124 ≤ 7302249) (hk : LawK l E (nc + 4) (ns + 124) i 1155) : LawK l E nc ns i 1063 := by
  intro T S P U O B Q C R tl rf M K hR hQ hM
  refine ev_b bL_law_1063_1067 (lv' := [(3, .int (nI (i))), (2, .ref 49), (1, .ref 0), (0, .float 40)]) (st' := [.int (nI (1)), .int (nI (i)), .float 40, .ref 0]) (w2 := compW T S P U O B Q C R tl rf ++ modW 49 S (mkX M C T tl rf) K) rfl ?_
  refine ev_iadd_n dL_law_1067 ?_
  refine ev_lald (i := i + 1) dL_law_1068 (by omega) (by omega) ?_
  obtain ⟨z1, e1, r1⟩ := i32z (nI (E.2.2.2 (1000 + (i + 1))))
  refine ev_top (y := zI z1) e1 ?_
  refine ev_b bL_law_1069_1072 (lv' := [(3, .int (nI (i))), (2, .ref 49), (1, .ref 0), (0, .float 40)]) (st' := [.int (nI (2)), .int (nI (i)), .float 40, .int (zI (z1)), .ref 0]) (w2 := compW T S P U O B Q C R tl rf ++ modW 49 S (mkX M C T tl rf) K) rfl ?_
  refine ev_iadd_n dL_law_1072 ?_
  refine ev_lald (i := i + 2) dL_law_1073 (by omega) (by omega) ?_
  obtain ⟨z2, e2, r2⟩ := i32z (nI (E.2.2.2 (1000 + (i + 2))))
  refine ev_top (y := zI z2) e2 ?_
  refine ev_b bL_law_1074_1077 (lv' := [(3, .int (nI (i))), (2, .ref 49), (1, .ref 0), (0, .float 40)]) (st' := [.int (nI (3)), .int (nI (i)), .float 40, .int (zI (z2)), .int (zI (z1)), .ref 0]) (w2 := compW T S P U O B Q C R tl rf ++ modW 49 S (mkX M C T tl rf) K) rfl ?_
  refine ev_iadd_n dL_law_1077 ?_
  refine ev_lald (i := i + 3) dL_law_1078 (by omega) (by omega) ?_
  obtain ⟨z3, e3, r3⟩ := i32z (nI (E.2.2.2 (1000 + (i + 3))))
  refine ev_top (y := zI z3) e3 ?_
  obtain ⟨v, T', S', P', lt', sz', tl', rf', K', dx, dy, mcy, msy, b1, b2, b3, b4, hR', hX, hY⟩ := pr_lots z1 z2 z3 r1 r2 r3 hR hQ hM
  refine ev_lawX (st := []) hX dL_law_1079 tw_870 kX6_lots rfl rfl trivial trivial rfl (by omega) (Nat.le_of_ble_eq_true rfl) (by omega) (by omega) (fun U1 O1 B1 Q1 C1 R1 hQ1 hC1 hC2 => ?_)
  refine ev_b bL_law_1082_1086 (lv' := [(3, .int (nI (i))), (2, .ref 49), (1, .ref 0), (0, .float 40)]) (st' := [.int (nI (1)), .int (nI (i)), .float 40, .ref 49, .int (v)]) (w2 := compW T' S' P' U1 O1 B1 Q1 C1 R1 tl' rf' ++ modW 49 S (mkX M C T tl rf) K) rfl ?_
  refine ev_iadd_n dL_law_1086 ?_
  refine ev_lald (i := i + 1) dL_law_1087 (by omega) (by omega) ?_
  refine ev_top (y := zI z1) e1 ?_
  refine ev_b bL_law_1088_1091 (lv' := [(3, .int (nI (i))), (2, .ref 49), (1, .ref 0), (0, .float 40)]) (st' := [.int (nI (2)), .int (nI (i)), .float 40, .int (zI (z1)), .ref 49, .int (v)]) (w2 := compW T' S' P' U1 O1 B1 Q1 C1 R1 tl' rf' ++ modW 49 S (mkX M C T tl rf) K) rfl ?_
  refine ev_iadd_n dL_law_1091 ?_
  refine ev_lald (i := i + 2) dL_law_1092 (by omega) (by omega) ?_
  refine ev_top (y := zI z2) e2 ?_
  refine ev_b bL_law_1093_1096 (lv' := [(3, .int (nI (i))), (2, .ref 49), (1, .ref 0), (0, .float 40)]) (st' := [.int (nI (3)), .int (nI (i)), .float 40, .int (zI (z2)), .int (zI (z1)), .ref 49, .int (v)]) (w2 := compW T' S' P' U1 O1 B1 Q1 C1 R1 tl' rf' ++ modW 49 S (mkX M C T tl rf) K) rfl ?_
  refine ev_iadd_n dL_law_1096 ?_
  refine ev_lald (i := i + 3) dL_law_1097 (by omega) (by omega) ?_
  refine ev_top (y := zI z3) e3 ?_
  refine ev_lawM (st := [.int v]) hY dL_law_1098 tw_1470 kX7_lots rfl rfl trivial trivial rfl rfl rfl (by omega) (Nat.le_of_ble_eq_true rfl) b3 b4 (by omega) (by omega) (fun X1 hM1 m1 m2 m3 m4 m5 => ?_)
  refine ev_icmp_eq (tgt := 1155) dL_law_1101 (by decide) (fun _ => ?_) (fun h => absurd rfl h)
  subst hC1 hC2
  obtain ⟨M1, rfl⟩ : ∃ M1, X1 = mkX M1 C1 T' tl' rf' := ⟨X1, mkX_eq m1 m2 m3 m4 m5⟩
  exact hk T' S' P' U1 O1 B1 Q1 C1 R1 tl' rf' M1 K' hR' hQ1 hM1
theorem bL_law_1106_1107 {l : Launch} {E : XE} : Snd l E mL_law 1106 1107 (xs [x_aload 1]) := Snd.cons (snd_aload_n (i := 1) dL_law_1106 rfl) Snd.nil
theorem bL_law_1110_1111 {l : Launch} {E : XE} : Snd l E mL_law 1110 1111 (xs [x_aload 2]) := Snd.cons (snd_aload_n (i := 2) dL_law_1110 rfl) Snd.nil
set_option maxHeartbeats 1000000 in
theorem law_32 {l : Launch} {E : XE} {nc ns i : Nat} (hL : E.2.2.2 41 ≤ 2048) (hi : i + 4 ≤ E.2.2.2 41) (hnc : nc + 4 ≤ 600000) (hns : ns + 124 ≤ 7302249) (hk : LawK l E (nc + 4) (ns + 124) i 1155) : LawK l E nc ns i 1106 := by
  intro T S P U O B Q C R tl rf M K hR hQ hM
  refine ev_b bL_law_1106_1107 (lv' := [(3, .int (nI (i))), (2, .ref 49), (1, .ref 0), (0, .float 40)]) (st' := [.ref 0]) (w2 := compW T S P U O B Q C R tl rf ++ modW 49 S (mkX M C T tl rf) K) rfl ?_
  obtain ⟨v, T', S', P', lt', sz', tl', rf', K', dx, dy, mcy, msy, b1, b2, b3, b4, hR', hX, hY⟩ := pr_image   hR hQ hM
  refine ev_lawX (st := []) hX dL_law_1107 tw_883 kX6_image rfl rfl trivial trivial rfl (by omega) (Nat.le_of_ble_eq_true rfl) (by omega) (by omega) (fun U1 O1 B1 Q1 C1 R1 hQ1 hC1 hC2 => ?_)
  refine ev_b bL_law_1110_1111 (lv' := [(3, .int (nI (i))), (2, .ref 49), (1, .ref 0), (0, .float 40)]) (st' := [.ref 49, .int (v)]) (w2 := compW T' S' P' U1 O1 B1 Q1 C1 R1 tl' rf' ++ modW 49 S (mkX M C T tl rf) K) rfl ?_
  refine ev_lawM (st := [.int v]) hY dL_law_1111 tw_1481 kX7_image rfl rfl trivial trivial rfl rfl rfl (by omega) (Nat.le_of_ble_eq_true rfl) b3 b4 (by omega) (by omega) (fun X1 hM1 m1 m2 m3 m4 m5 => ?_)
  refine ev_icmp_eq (tgt := 1155) dL_law_1114 (by decide) (fun _ => ?_) (fun h => absurd rfl h)
  subst hC1 hC2
  obtain ⟨M1, rfl⟩ : ∃ M1, X1 = mkX M1 C1 T' tl' rf' := ⟨X1, mkX_eq m1 m2 m3 m4 m5⟩
  exact hk T' S' P' U1 O1 B1 Q1 C1 R1 tl' rf' M1 K' hR' hQ1 hM1
theorem bL_law_1119_1120 {l : Launch} {E : XE} : Snd l E mL_law 1119 1120 (xs [x_aload 1]) := Snd.cons (snd_aload_n (i := 1) dL_law_1119 rfl) Snd.nil
theorem bL_law_1123_1124 {l : Launch} {E : XE} : Snd l E mL_law 1123 1124 (xs [x_aload 2]) := Snd.cons (snd_aload_n (i := 2) dL_law_1123 rfl) Snd.nil
set_option maxHeartbeats 1000000 in
theorem law_33 {l : Launch} {E : XE} {nc ns i : Nat} (hL : E.2.2.2 41 ≤ 2048) (hi : i + 4 ≤ E.2.2.2 41) (hnc : nc + 4 ≤ 600000) (hns : ns + 124 ≤ 7302249) (hk : LawK l E (nc + 4) (ns + 124) i 1155) : LawK l E nc ns i 1119 := by
  intro T S P U O B Q C R tl rf M K hR hQ hM
  refine ev_b bL_law_1119_1120 (lv' := [(3, .int (nI (i))), (2, .ref 49), (1, .ref 0), (0, .float 40)]) (st' := [.ref 0]) (w2 := compW T S P U O B Q C R tl rf ++ modW 49 S (mkX M C T tl rf) K) rfl ?_
  obtain ⟨v, T', S', P', lt', sz', tl', rf', K', dx, dy, mcy, msy, b1, b2, b3, b4, hR', hX, hY⟩ := pr_on   hR hQ hM
  refine ev_lawX (st := []) hX dL_law_1120 tw_887 kX6_on rfl rfl trivial trivial rfl (by omega) (Nat.le_of_ble_eq_true rfl) (by omega) (by omega) (fun U1 O1 B1 Q1 C1 R1 hQ1 hC1 hC2 => ?_)
  refine ev_b bL_law_1123_1124 (lv' := [(3, .int (nI (i))), (2, .ref 49), (1, .ref 0), (0, .float 40)]) (st' := [.ref 49, .int (v)]) (w2 := compW T' S' P' U1 O1 B1 Q1 C1 R1 tl' rf' ++ modW 49 S (mkX M C T tl rf) K) rfl ?_
  refine ev_lawM (st := [.int v]) hY dL_law_1124 tw_1485 kX7_on rfl rfl trivial trivial rfl rfl rfl (by omega) (Nat.le_of_ble_eq_true rfl) b3 b4 (by omega) (by omega) (fun X1 hM1 m1 m2 m3 m4 m5 => ?_)
  refine ev_icmp_eq (tgt := 1155) dL_law_1127 (by decide) (fun _ => ?_) (fun h => absurd rfl h)
  subst hC1 hC2
  obtain ⟨M1, rfl⟩ : ∃ M1, X1 = mkX M1 C1 T' tl' rf' := ⟨X1, mkX_eq m1 m2 m3 m4 m5⟩
  exact hk T' S' P' U1 O1 B1 Q1 C1 R1 tl' rf' M1 K' hR' hQ1 hM1
theorem bL_law_1132_1136 {l : Launch} {E : XE} : Snd l E mL_law 1132 1136 (xs [x_aload 1, x_aload 0, x_iload 3, x_push (.int (nI 1))]) := Snd.cons (snd_aload_n (i := 1) dL_law_1132 rfl) (Snd.cons (snd_aload_n (i := 0) dL_law_1133 rfl) (Snd.cons (snd_iload_n (i := 3) dL_law_1134 rfl) (Snd.cons (snd_iconst (v := nI 1) dL_law_1135 (by decide)) Snd.nil)))
theorem bL_law_1141_1145 {l : Launch} {E : XE} : Snd l E mL_law 1141 1145 (xs [x_aload 2, x_aload 0, x_iload 3, x_push (.int (nI 1))]) := Snd.cons (snd_aload_n (i := 2) dL_law_1141 rfl) (Snd.cons (snd_aload_n (i := 0) dL_law_1142 rfl) (Snd.cons (snd_iload_n (i := 3) dL_law_1143 rfl) (Snd.cons (snd_iconst (v := nI 1) dL_law_1144 (by decide)) Snd.nil)))
set_option maxHeartbeats 1000000 in
theorem law_34 {l : Launch} {E : XE} {nc ns i : Nat} (hL : E.2.2.2 41 ≤ 2048) (hi : i + 4 ≤ E.2.2.2 41) (hnc : nc + 4 ≤ 600000) (hns : ns + 124 ≤ 7302249) (hk : LawK l E (nc + 4) (ns + 124) i 1155) : LawK l E nc ns i 1132 := by
  intro T S P U O B Q C R tl rf M K hR hQ hM
  refine ev_b bL_law_1132_1136 (lv' := [(3, .int (nI (i))), (2, .ref 49), (1, .ref 0), (0, .float 40)]) (st' := [.int (nI (1)), .int (nI (i)), .float 40, .ref 0]) (w2 := compW T S P U O B Q C R tl rf ++ modW 49 S (mkX M C T tl rf) K) rfl ?_
  refine ev_iadd_n dL_law_1136 ?_
  refine ev_lald (i := i + 1) dL_law_1137 (by omega) (by omega) ?_
  obtain ⟨z1, e1, r1⟩ := i32z (nI (E.2.2.2 (1000 + (i + 1))))
  refine ev_top (y := zI z1) e1 ?_
  obtain ⟨v, T', S', P', lt', sz', tl', rf', K', dx, dy, mcy, msy, b1, b2, b3, b4, hR', hX, hY⟩ := pr_count z1 r1 hR hQ hM
  refine ev_lawX (st := []) hX dL_law_1138 tw_891 kX6_count rfl rfl trivial trivial rfl (by omega) (Nat.le_of_ble_eq_true rfl) (by omega) (by omega) (fun U1 O1 B1 Q1 C1 R1 hQ1 hC1 hC2 => ?_)
  refine ev_b bL_law_1141_1145 (lv' := [(3, .int (nI (i))), (2, .ref 49), (1, .ref 0), (0, .float 40)]) (st' := [.int (nI (1)), .int (nI (i)), .float 40, .ref 49, .int (v)]) (w2 := compW T' S' P' U1 O1 B1 Q1 C1 R1 tl' rf' ++ modW 49 S (mkX M C T tl rf) K) rfl ?_
  refine ev_iadd_n dL_law_1145 ?_
  refine ev_lald (i := i + 1) dL_law_1146 (by omega) (by omega) ?_
  refine ev_top (y := zI z1) e1 ?_
  refine ev_lawM (st := [.int v]) hY dL_law_1147 tw_1489 kX7_count rfl rfl trivial trivial rfl rfl rfl (by omega) (Nat.le_of_ble_eq_true rfl) b3 b4 (by omega) (by omega) (fun X1 hM1 m1 m2 m3 m4 m5 => ?_)
  refine ev_icmp_eq (tgt := 1155) dL_law_1150 (by decide) (fun _ => ?_) (fun h => absurd rfl h)
  subst hC1 hC2
  obtain ⟨M1, rfl⟩ : ∃ M1, X1 = mkX M1 C1 T' tl' rf' := ⟨X1, mkX_eq m1 m2 m3 m4 m5⟩
  exact hk T' S' P' U1 O1 B1 Q1 C1 R1 tl' rf' M1 K' hR' hQ1 hM1
