theorem law_world {s : State} {b L : Nat} {xs : Nat → Int32} (hts : ∀ w ∈ lw_tbl, w.before #[Value.ref b] s = true) (hX : va_X b L xs s s.heap) (hL : L ≤ 2048) (hbl : b < s.heap.size) (hgv : (Jvm.Cond.and given_1 narrow_1).before #[Value.ref b] s = true) :
    ∃ E : XE, E.2.2.2 40 = b ∧ E.2.2.2 41 = L ∧ va_K E.1 vwCl (xT E) s ∧ xS E (xA E (fun _ => 0) [] s.heap.size) s ∧ xN s := by
  have ht : ∀ w ∈ tbl, w.before #[Value.ref b] s = true := tb_hold hts
  have hs := flat_of_before _ hgv
  have hA : ∀ a : Nat, a < s.heap.size → ¬ va_A [] s.heap.size a := by
    rintro a ha (⟨k, e, h⟩ | h)
    · cases h
    · omega
  -- the classes
  have hcl : ∀ c : Nat, ∃ q : ClassId × (Nat → Nat), ∀ r, vwCl[c]? = some r → u_Kn s r.1 r.2.1 r.2.2 q.1 q.2 := by
    intro c
    rcases (show c = 0 ∨ c = 1 ∨ c = 2 ∨ c = 3 ∨ c = 4 ∨ c = 5 ∨ c = 6 ∨ c = 7 ∨ c = 8 ∨ 9 ≤ c from by omega) with rfl | rfl | rfl | rfl | rfl | rfl | rfl | rfl | rfl | h
    · obtain ⟨cC, iS, h⟩ := u_known (n := 4) ht inJ4 (ht _ tw_1302)
      exact ⟨(cC, iS), fun r hr => by cases hr; exact h⟩
    · obtain ⟨cC, iS, h⟩ := u_known (n := 8) ht inX0 (ht _ tw_97)
      exact ⟨(cC, iS), fun r hr => by cases hr; exact h⟩
    · obtain ⟨cC, iS, h⟩ := u_known (n := 6) ht inX1 (ht _ tw_71)
      exact ⟨(cC, iS), fun r hr => by cases hr; exact h⟩
    · obtain ⟨cC, iS, h⟩ := u_known (n := 2) ht inX2 (ht _ tw_194)
      exact ⟨(cC, iS), fun r hr => by cases hr; exact h⟩
    · obtain ⟨cC, iS, h⟩ := u_known (n := 9) ht inX3 (ht _ tw_29)
      exact ⟨(cC, iS), fun r hr => by cases hr; exact h⟩
    · obtain ⟨cC, iS, h⟩ := u_known (n := 10) ht inX4 (ht _ tw_155)
      exact ⟨(cC, iS), fun r hr => by cases hr; exact h⟩
    · obtain ⟨cC, iS, h⟩ := u_known (n := 5) ht inX5 (ht _ tw_133)
      exact ⟨(cC, iS), fun r hr => by cases hr; exact h⟩
    · obtain ⟨cC, iS, h⟩ := u_known (n := 12) ht inX6 (ht _ tw_21)
      exact ⟨(cC, iS), fun r hr => by cases hr; exact h⟩
    · obtain ⟨cC, iS, h⟩ := u_known (n := 31) ht inX7 (ht _ tw_897)
      exact ⟨(cC, iS), fun r hr => by cases hr; exact h⟩
    · exact ⟨(0, fun _ => 0), fun r hr => by rw [List.getElem?_eq_none (by show 9 ≤ c; exact h)] at hr; cases hr⟩
  obtain ⟨fc, hfc⟩ := Classical.axiomOfChoice hcl
  -- the classes of arrays
  obtain ⟨ci, ki, pi, i1, i2, i3⟩ := Cond.arrayClass_spec (ht _ tw_69)
  obtain ⟨cb, kb, pb, j1, j2, j3⟩ := Cond.arrayClass_spec (ht _ tw_432)
  have hao : (Cond.arrayOver (.object "java/lang/String")).before #[Value.ref b] s = true := hts _ (by decide +kernel)
  obtain ⟨ps, cs, ks, s1, s2, s3, s4, s5⟩ := Cond.arrayOver_spec hao
  -- the strings
  obtain ⟨adK, adV, hSt, hev⟩ := vk_Sof (N := 10) (tm := strT) (len := sLen) (byt := sByt) (A := va_A [] s.heap.size) (by decide) (fun i hi => hs _ (st_ex i hi)) (fun i hi => hs _ (st_co i hi)) (fun i hi => hs _ (st_ar i hi)) (fun i hi => hs _ (st_le i hi)) (fun i hi j hj => hs _ (st_el i hi j hj))
    (fun i j hi hj hij => (st_ne i hi j hj hij).imp (fun h => hs _ h) (fun h => hs _ h)) hA
  -- the statics
  have hz1 := va_Zof (hts (.laysStatic "java/lang/String" "COMPACT_STRINGS" "Z") (by decide +kernel)) (hts (.initialized "java/lang/String") (by decide +kernel)) (va_eqt (hs (Cond.eq (.static "java/lang/String" "COMPACT_STRINGS" "Z") (.int 1)) (by decide +kernel))) hA
  have hz2 := va_Zqof (hts (.laysStatic "jdk/internal/util/Preconditions" "SIOOBE_FORMATTER" "Ljava/util/function/BiFunction;") (by decide +kernel)) (hts (.initialized "jdk/internal/util/Preconditions") (by decide +kernel)) (hs (Cond.isRef (.static "jdk/internal/util/Preconditions" "SIOOBE_FORMATTER" "Ljava/util/function/BiFunction;")) (by decide +kernel)) hA
  obtain ⟨fm, hfm⟩ : ∃ fm : Nat, va_Z "jdk/internal/util/Preconditions" "SIOOBE_FORMATTER" "Ljava/util/function/BiFunction;" .null (va_A [] s.heap.size) s s.heap ∨ va_Z "jdk/internal/util/Preconditions" "SIOOBE_FORMATTER" "Ljava/util/function/BiFunction;" (.ref fm) (va_A [] s.heap.size) s s.heap := by
    rcases hz2 with h | ⟨t, h⟩
    · exact ⟨0, Or.inl h⟩
    · exact ⟨t, Or.inr h⟩
  obtain ⟨t21, ev21, hT21⟩ := va_Tof (N := 100) (f := fun j => .int (nI (48 + j / 10))) (A := va_A [] s.heap.size) (by decide) (hs (Cond.arrayOf (.static "java/lang/Integer" "DigitTens" "[B") .byte) (by decide +kernel)) (va_eqt (hs (Cond.eq (.length (.static "java/lang/Integer" "DigitTens" "[B")) (.int (Int32.ofNat 100))) (by decide +kernel))) (fun j hj => va_eqt (hs _ (dg_t j hj))) hA
  obtain ⟨t22, ev22, hT22⟩ := va_Tof (N := 100) (f := fun j => .int (nI (48 + j % 10))) (A := va_A [] s.heap.size) (by decide) (hs (Cond.arrayOf (.static "java/lang/Integer" "DigitOnes" "[B") .byte) (by decide +kernel)) (va_eqt (hs (Cond.eq (.length (.static "java/lang/Integer" "DigitOnes" "[B")) (.int (Int32.ofNat 100))) (by decide +kernel))) (fun j hj => va_eqt (hs _ (dg_o j hj))) hA
  have hz3 := va_Zof (hts (.laysStatic "java/lang/Integer" "DigitTens" "[B") (by decide +kernel)) (hts (.initialized "java/lang/Integer") (by decide +kernel)) ev21 hA
  have hz4 := va_Zof (hts (.laysStatic "java/lang/Integer" "DigitOnes" "[B") (by decide +kernel)) (hts (.initialized "java/lang/Integer") (by decide +kernel)) ev22 hA
  -- the addresses
  obtain ⟨xc, hxc⟩ := Classical.axiomOfChoice (fun j : Nat => n_code (xs j))
  obtain ⟨ad, had⟩ : ∃ ad : Nat → Nat, ad = fun n => if n < 10 then adK n else if n < 20 then adV (n - 10) else if n = 20 then fm else if n = 21 then t21 else if n = 22 then t22 else if n = 30 then cb else if n = 40 then b else if n = 41 then L else xc (n - 1000) := ⟨_, rfl⟩
  have a1 : ∀ n, n < 10 → ad n = adK n := fun n h => by rw [had]; exact if_pos h
  have a2 : ∀ n, n < 10 → ad (10 + n) = adV n := fun n h => by
    rw [had]
    show (if 10 + n < 10 then _ else if 10 + n < 20 then _ else _) = _
    rw [if_neg (by omega), if_pos (by omega), show 10 + n - 10 = n by omega]
  have a3 : ∀ j, ad (1000 + j) = xc j := fun j => by
    rw [had]
    show (if 1000 + j < 10 then _ else if 1000 + j < 20 then _ else if 1000 + j = 20 then _ else if 1000 + j = 21 then _ else if 1000 + j = 22 then _ else if 1000 + j = 30 then _ else if 1000 + j = 40 then _ else if 1000 + j = 41 then _ else _) = _
    rw [if_neg (by omega), if_neg (by omega), if_neg (by omega), if_neg (by omega), if_neg (by omega), if_neg (by omega), if_neg (by omega), if_neg (by omega), show 1000 + j - 1000 = j by omega]
  have a20 : ad 20 = fm := by rw [had]; rfl
  have a21 : ad 21 = t21 := by rw [had]; rfl
  have a22 : ad 22 = t22 := by rw [had]; rfl
  have a30 : ad 30 = cb := by rw [had]; rfl
  have a40 : ad 40 = b := by rw [had]; rfl
  have a41 : ad 41 = L := by rw [had]; rfl
  refine ⟨((fun c => (fc c).1, fun c => (fc c).2), ci, cs, ad), a40, a41, ⟨fun c r hr => hfc c r hr, ?_⟩, ⟨⟨⟨fun i hi => ?_, fun i j hi hj h => ?_⟩, ?_⟩, ?_⟩, fun w hw => va_Nw.of (isNest_on (List.mem_filter.mp hw).2) (hts w (List.mem_filter.mp hw).1)⟩
  · intro k q hk
    rcases (show k = 0 ∨ k = 1 ∨ k = 2 ∨ 3 ≤ k from by omega) with rfl | rfl | rfl | h
    · cases hk
      exact ⟨fun N z => ⟨(fun k h => by cases h), ki, i2, pi, i3⟩, i1⟩
    · cases hk
      exact ⟨fun N z => ⟨(fun k h => by cases h), ks, s3, ps, s4⟩, ks, ps, s3, s4, s1, s5⟩
    · cases hk
      show ArrOfT s (ad 30) .byte ∧ va_RA s (ad 30) .byte
      rw [a30]
      exact ⟨fun N z => ⟨(fun k h => by cases h), kb, j2, pb, j3⟩, j1⟩
    · rw [List.getElem?_eq_none (by show 3 ≤ k; exact h)] at hk
      cases hk
  · show va_O _ (ad i) _ _ _ ∧ va_OF _ _ _ _ (ad i) _ _ _ ∧ va_OF _ _ _ (.ref (ad (10 + i))) (ad i) _ _ _ ∧ va_T _ (ad (10 + i)) _ _ _ _ _
    rw [a1 i hi, a2 i hi]
    exact hSt.1 i hi
  · refine hSt.2 i j hi hj ?_
    rw [← a1 i hi, ← a1 j hj]
    exact h
  · refine ⟨hz1, ?_, ⟨?_, ?_⟩, ⟨?_, ?_⟩, va_AO.of hao, ?_⟩
    · show _ ∨ va_Z _ _ _ (.ref (ad 20)) _ _ _
      rw [a20]
      exact hfm
    · show va_Z _ _ _ (.ref (ad 21)) _ _ _
      rw [a21]
      exact hz3
    · show va_T _ (ad 21) _ _ _ _ _
      rw [a21]
      exact hT21
    · show va_Z _ _ _ (.ref (ad 22)) _ _ _
      rw [a22]
      exact hz4
    · show va_T _ (ad 22) _ _ _ _ _
      rw [a22]
      exact hT22
    · show va_T .int (ad 40) (ad 41) (fun j => .int (nI (ad (1000 + j)))) _ _ _
      rw [a40, a41]
      obtain ⟨scr, x1, x2, x3, x4, x5⟩ := hX
      refine ⟨scr, x1, x2, x3, Nat.le_of_eq x4.symm, by rw [x4], fun j hj => (x5 j hj).trans ?_, hA b hbl⟩
      show some (Value.int (xs j)) = some (Value.int (nI (ad (1000 + j))))
      rw [a3 j, hxc j]
  · intro q hq
    have hst : ∀ i, i < 10 → (strT i).eval #[Value.ref b] s none [] s = some (.ref (ad i)) := fun i hi => by rw [a1 i hi]; exact hev i hi
    have hp : ∀ q ∈ sRefs, (Cond.stringRef q.1 q.2.1 q.2.2.1 : Cond) ∈ lw_tbl := by decide +kernel
    have hq2 := hp q hq
    have he : (Term.string q.1 q.2.1).eval #[Value.ref b] s none [] s = some (.ref (ad q.2.2.2)) := by
      simp only [sRefs, List.mem_cons, List.not_mem_nil, or_false] at hq
      rcases hq with rfl | rfl | rfl | rfl | rfl | rfl | rfl | rfl | rfl | rfl | rfl | rfl | rfl | rfl | rfl
      · exact hst 0 (by omega)
      · exact hst 1 (by omega)
      · exact hst 2 (by omega)
      · exact hst 3 (by omega)
      · exact hst 4 (by omega)
      · exact eval_same (hs (Cond.eq (.string "BundlesOfBids$Script" 81) (.string "BundlesOfBidsModel" 49)) (by decide +kernel)) (hst 0 (by omega))
      · exact eval_same (hs (Cond.eq (.string "BundlesOfBids$Script" 87) (.string "BundlesOfBidsModel" 51)) (by decide +kernel)) (hst 1 (by omega))
      · exact eval_same (hs (Cond.eq (.string "BundlesOfBids$Script" 89) (.string "BundlesOfBidsModel" 53)) (by decide +kernel)) (hst 2 (by omega))
      · exact eval_same (hs (Cond.eq (.string "BundlesOfBids$Script" 91) (.string "BundlesOfBidsModel" 54)) (by decide +kernel)) (hst 3 (by omega))
      · exact eval_same (hs (Cond.eq (.string "BundlesOfBids$Script" 93) (.string "BundlesOfBidsModel" 56)) (by decide +kernel)) (hst 4 (by omega))
      · exact hst 5 (by omega)
      · exact hst 6 (by omega)
      · exact hst 7 (by omega)
      · exact hst 8 (by omega)
      · exact hst 9 (by omega)
    exact vk_R.of (hts _ hq2) he

