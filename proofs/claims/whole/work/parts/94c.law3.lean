theorem bL_law_1158_18 {l : Launch} {E : XE} : Snd l E mL_law 1158 18 (xs [x_id]) := Snd.cons (snd_goto (tgt := 18) dL_law_1158 (by decide)) Snd.nil
theorem law_back {l : Launch} {E : XE} {nc ns i : Nat} (hk : LawK l E nc ns (i + 4) 18) : LawK l E nc ns i 1155 := by
  intro T S P U O B Q C R tl rf M K hR hQ hM
  refine ev_iinc_n (x := i) (v := 4) dL_law_1155 rfl (by decide) ?_
  refine ev_eq (lv' := [(3, .int (nI (i + 4))), (2, .ref 49), (1, .ref 0), (0, .float 40)]) rfl rfl rfl ?_
  refine ev_b bL_law_1158_18 (lv' := [(3, .int (nI (i + 4))), (2, .ref 49), (1, .ref 0), (0, .float 40)]) (st' := []) (w2 := compW T S P U O B Q C R tl rf ++ modW 49 S (mkX M C T tl rf) K) rfl ?_
  exact hk T S P U O B Q C R tl rf M K hR hQ hM
theorem and63 {c : Nat} {z : Int} (e : nI c = zI z) : ∃ o : Nat, o < 64 ∧ zI z &&& nI 63 = nI o := by
  refine ⟨c &&& 63, ?_, ?_⟩
  · have h : c &&& 63 ≤ 63 := Nat.and_le_right
    omega
  · rw [← e]
    exact n_and c 63

theorem bL_law_18_20 {l : Launch} {E : XE} : Snd l E mL_law 18 20 (xs [x_iload 3, x_aload 0]) := Snd.cons (snd_iload_n (i := 3) dL_law_18 rfl) (Snd.cons (snd_aload_n (i := 0) dL_law_19 rfl) Snd.nil)
theorem bL_law_21_22 {l : Launch} {E : XE} : Snd l E mL_law 21 22 (xs [x_push (.int (nI 4))]) := Snd.cons (snd_iconst (v := nI 4) dL_law_21 (by decide)) Snd.nil
theorem bL_law_1161_1162 {l : Launch} {E : XE} : Snd l E mL_law 1161 1162 (xs [x_push (.int (nI 1))]) := Snd.cons (snd_iconst (v := nI 1) dL_law_1161 (by decide)) Snd.nil
theorem law_out {l : Launch} {E : XE} {nc ns i : Nat} (hL : E.2.2.2 41 ≤ 2048) (hi : E.2.2.2 41 < i + 4) (hi2 : i ≤ 2052) (hnc : nc ≤ 600000) (hns : ns ≤ 7302249) : LawK l E nc ns i 18 := by
  intro T S P U O B Q C R tl rf M K hR hQ hM
  refine ev_b bL_law_18_20 (lv' := [(3, .int (nI (i))), (2, .ref 49), (1, .ref 0), (0, .float 40)]) (st' := [.float 40, .int (nI (i))]) (w2 := compW T S P U O B Q C R tl rf ++ modW 49 S (mkX M C T tl rf) K) rfl ?_
  refine ev_llen dL_law_20 ?_
  refine ev_b bL_law_21_22 (lv' := [(3, .int (nI (i))), (2, .ref 49), (1, .ref 0), (0, .float 40)]) (st' := [.int (nI (4)), .int (nI (E.2.2.2 41)), .int (nI (i))]) (w2 := compW T S P U O B Q C R tl rf ++ modW 49 S (mkX M C T tl rf) K) rfl ?_
  refine ev_top (y := zI 4) (by decide) ?_
  refine ev_top2 (y := zI (((E.2.2.2 41 : Nat) : Int))) (zI_nat _).symm ?_
  refine ev_isub_z dL_law_22 ?_
  refine ev_top2 (y := zI (((i : Nat) : Int))) (zI_nat _).symm ?_
  refine ev_icmp_gt_z (tgt := 1161) (by constructor <;> omega) (by constructor <;> omega) dL_law_23 (by decide) (fun _ => ?_) (fun h => absurd h (by omega))
  refine ev_b bL_law_1161_1162 (lv' := [(3, .int (nI (i))), (2, .ref 49), (1, .ref 0), (0, .float 40)]) (st' := [.int (nI (1))]) (w2 := compW T S P U O B Q C R tl rf ++ modW 49 S (mkX M C T tl rf) K) rfl ?_
  exact ev_zret dL_law_1162 rfl rfl (Nat.zero_le _) (by omega) (by omega) rfl
theorem bL_law_26_28 {l : Launch} {E : XE} : Snd l E mL_law 26 28 (xs [x_aload 0, x_iload 3]) := Snd.cons (snd_aload_n (i := 0) dL_law_26 rfl) (Snd.cons (snd_iload_n (i := 3) dL_law_27 rfl) Snd.nil)
theorem bL_law_29_31 {l : Launch} {E : XE} : Snd l E mL_law 29 31 (xs [x_push (.int (nI 63))]) := Snd.cons (snd_bipush (v := nI 63) dL_law_29 (by decide)) Snd.nil
theorem bL_law_31_32 {l : Launch} {E : XE} : Snd l E mL_law 31 32 (xs [x_i2 (fun x y => x &&& y)]) := Snd.cons (snd_iand dL_law_31) Snd.nil
set_option maxHeartbeats 1000000 in
theorem law_in {l : Launch} {E : XE} {nc ns i : Nat} (hL : E.2.2.2 41 ≤ 2048) (hi : i + 4 ≤ E.2.2.2 41) (hnc : nc + 4 ≤ 600000) (hns : ns + 124 ≤ 7302249) (hk : LawK l E (nc + 4) (ns + 124) i 1155) : LawK l E nc ns i 18 := by
  intro T S P U O B Q C R tl rf M K hR hQ hM
  refine ev_b bL_law_18_20 (lv' := [(3, .int (nI (i))), (2, .ref 49), (1, .ref 0), (0, .float 40)]) (st' := [.float 40, .int (nI (i))]) (w2 := compW T S P U O B Q C R tl rf ++ modW 49 S (mkX M C T tl rf) K) rfl ?_
  refine ev_llen dL_law_20 ?_
  refine ev_b bL_law_21_22 (lv' := [(3, .int (nI (i))), (2, .ref 49), (1, .ref 0), (0, .float 40)]) (st' := [.int (nI (4)), .int (nI (E.2.2.2 41)), .int (nI (i))]) (w2 := compW T S P U O B Q C R tl rf ++ modW 49 S (mkX M C T tl rf) K) rfl ?_
  refine ev_top (y := zI 4) (by decide) ?_
  refine ev_top2 (y := zI (((E.2.2.2 41 : Nat) : Int))) (zI_nat _).symm ?_
  refine ev_isub_z dL_law_22 ?_
  refine ev_top2 (y := zI (((i : Nat) : Int))) (zI_nat _).symm ?_
  refine ev_icmp_gt_z (tgt := 1161) (by constructor <;> omega) (by constructor <;> omega) dL_law_23 (by decide) (fun h => absurd h (by omega)) (fun _ => ?_)
  refine ev_b bL_law_26_28 (lv' := [(3, .int (nI (i))), (2, .ref 49), (1, .ref 0), (0, .float 40)]) (st' := [.int (nI (i)), .float 40]) (w2 := compW T S P U O B Q C R tl rf ++ modW 49 S (mkX M C T tl rf) K) rfl ?_
  refine ev_lald (i := i) dL_law_28 (by omega) (by omega) ?_
  obtain ⟨z1, e1, r1⟩ := i32z (nI (E.2.2.2 (1000 + (i))))
  refine ev_top (y := zI z1) e1 ?_
  refine ev_b bL_law_29_31 (lv' := [(3, .int (nI (i))), (2, .ref 49), (1, .ref 0), (0, .float 40)]) (st' := [.int (nI (63)), .int (zI (z1))]) (w2 := compW T S P U O B Q C R tl rf ++ modW 49 S (mkX M C T tl rf) K) rfl ?_
  obtain ⟨o, ho, eo⟩ := and63 e1
  refine ev_b bL_law_31_32 (lv' := [(3, .int (nI (i))), (2, .ref 49), (1, .ref 0), (0, .float 40)]) (st' := [.int (zI z1 &&& nI 63)]) (w2 := compW T S P U O B Q C R tl rf ++ modW 49 S (mkX M C T tl rf) K) rfl ?_
  refine ev_top (y := nI o) eo ?_
  rcases (show o = 0 ∨ o = 1 ∨ o = 2 ∨ o = 3 ∨ o = 4 ∨ o = 5 ∨ o = 6 ∨ o = 7 ∨ o = 8 ∨ o = 9 ∨ o = 10 ∨ o = 11 ∨ o = 12 ∨ o = 13 ∨ o = 14 ∨ o = 15 ∨ o = 16 ∨ o = 17 ∨ o = 18 ∨ o = 19 ∨ o = 20 ∨ o = 21 ∨ o = 22 ∨ o = 23 ∨ o = 24 ∨ o = 25 ∨ o = 26 ∨ o = 27 ∨ o = 28 ∨ o = 29 ∨ o = 30 ∨ o = 31 ∨ o = 32 ∨ o = 33 ∨ o = 34 ∨ 34 < o from by omega) with rfl | rfl | rfl | rfl | rfl | rfl | rfl | rfl | rfl | rfl | rfl | rfl | rfl | rfl | rfl | rfl | rfl | rfl | rfl | rfl | rfl | rfl | rfl | rfl | rfl | rfl | rfl | rfl | rfl | rfl | rfl | rfl | rfl | rfl | rfl | h
  · exact ev_tableIn (off := 156) (tgt := 188) dL_law_32 (by decide) (by decide) (by decide) (by decide) (law_0 hL hi hnc hns hk T S P U O B Q C R tl rf M K hR hQ hM)
  · exact ev_tableIn (off := 179) (tgt := 211) dL_law_32 (by decide) (by decide) (by decide) (by decide) (law_1 hL hi hnc hns hk T S P U O B Q C R tl rf M K hR hQ hM)
  · exact ev_tableIn (off := 192) (tgt := 224) dL_law_32 (by decide) (by decide) (by decide) (by decide) (law_2 hL hi hnc hns hk T S P U O B Q C R tl rf M K hR hQ hM)
  · exact ev_tableIn (off := 235) (tgt := 267) dL_law_32 (by decide) (by decide) (by decide) (by decide) (law_3 hL hi hnc hns hk T S P U O B Q C R tl rf M K hR hQ hM)
  · exact ev_tableIn (off := 258) (tgt := 290) dL_law_32 (by decide) (by decide) (by decide) (by decide) (law_4 hL hi hnc hns hk T S P U O B Q C R tl rf M K hR hQ hM)
  · exact ev_tableIn (off := 291) (tgt := 323) dL_law_32 (by decide) (by decide) (by decide) (by decide) (law_5 hL hi hnc hns hk T S P U O B Q C R tl rf M K hR hQ hM)
  · exact ev_tableIn (off := 334) (tgt := 366) dL_law_32 (by decide) (by decide) (by decide) (by decide) (law_6 hL hi hnc hns hk T S P U O B Q C R tl rf M K hR hQ hM)
  · exact ev_tableIn (off := 367) (tgt := 399) dL_law_32 (by decide) (by decide) (by decide) (by decide) (law_7 hL hi hnc hns hk T S P U O B Q C R tl rf M K hR hQ hM)
  · exact ev_tableIn (off := 400) (tgt := 432) dL_law_32 (by decide) (by decide) (by decide) (by decide) (law_8 hL hi hnc hns hk T S P U O B Q C R tl rf M K hR hQ hM)
  · exact ev_tableIn (off := 433) (tgt := 465) dL_law_32 (by decide) (by decide) (by decide) (by decide) (law_9 hL hi hnc hns hk T S P U O B Q C R tl rf M K hR hQ hM)
  · exact ev_tableIn (off := 456) (tgt := 488) dL_law_32 (by decide) (by decide) (by decide) (by decide) (law_10 hL hi hnc hns hk T S P U O B Q C R tl rf M K hR hQ hM)
  · exact ev_tableIn (off := 479) (tgt := 511) dL_law_32 (by decide) (by decide) (by decide) (by decide) (law_11 hL hi hnc hns hk T S P U O B Q C R tl rf M K hR hQ hM)
  · exact ev_tableIn (off := 512) (tgt := 544) dL_law_32 (by decide) (by decide) (by decide) (by decide) (law_12 hL hi hnc hns hk T S P U O B Q C R tl rf M K hR hQ hM)
  · exact ev_tableIn (off := 545) (tgt := 577) dL_law_32 (by decide) (by decide) (by decide) (by decide) (law_13 hL hi hnc hns hk T S P U O B Q C R tl rf M K hR hQ hM)
  · exact ev_tableIn (off := 578) (tgt := 610) dL_law_32 (by decide) (by decide) (by decide) (by decide) (law_14 hL hi hnc hns hk T S P U O B Q C R tl rf M K hR hQ hM)
  · exact ev_tableIn (off := 611) (tgt := 643) dL_law_32 (by decide) (by decide) (by decide) (by decide) (law_15 hL hi hnc hns hk T S P U O B Q C R tl rf M K hR hQ hM)
  · exact ev_tableIn (off := 644) (tgt := 676) dL_law_32 (by decide) (by decide) (by decide) (by decide) (law_16 hL hi hnc hns hk T S P U O B Q C R tl rf M K hR hQ hM)
  · exact ev_tableIn (off := 677) (tgt := 709) dL_law_32 (by decide) (by decide) (by decide) (by decide) (law_17 hL hi hnc hns hk T S P U O B Q C R tl rf M K hR hQ hM)
  · exact ev_tableIn (off := 690) (tgt := 722) dL_law_32 (by decide) (by decide) (by decide) (by decide) (law_18 hL hi hnc hns hk T S P U O B Q C R tl rf M K hR hQ hM)
  · exact ev_tableIn (off := 723) (tgt := 755) dL_law_32 (by decide) (by decide) (by decide) (by decide) (law_19 hL hi hnc hns hk T S P U O B Q C R tl rf M K hR hQ hM)
  · exact ev_tableIn (off := 756) (tgt := 788) dL_law_32 (by decide) (by decide) (by decide) (by decide) (law_20 hL hi hnc hns hk T S P U O B Q C R tl rf M K hR hQ hM)
  · exact ev_tableIn (off := 779) (tgt := 811) dL_law_32 (by decide) (by decide) (by decide) (by decide) (law_21 hL hi hnc hns hk T S P U O B Q C R tl rf M K hR hQ hM)
  · exact ev_tableIn (off := 802) (tgt := 834) dL_law_32 (by decide) (by decide) (by decide) (by decide) (law_22 hL hi hnc hns hk T S P U O B Q C R tl rf M K hR hQ hM)
  · exact ev_tableIn (off := 825) (tgt := 857) dL_law_32 (by decide) (by decide) (by decide) (by decide) (law_23 hL hi hnc hns hk T S P U O B Q C R tl rf M K hR hQ hM)
  · exact ev_tableIn (off := 838) (tgt := 870) dL_law_32 (by decide) (by decide) (by decide) (by decide) (law_24 hL hi hnc hns hk T S P U O B Q C R tl rf M K hR hQ hM)
  · exact ev_tableIn (off := 882) (tgt := 914) dL_law_32 (by decide) (by decide) (by decide) (by decide) (law_25 hL hi hnc hns hk T S P U O B Q C R tl rf M K hR hQ hM)
  · exact ev_tableIn (off := 916) (tgt := 948) dL_law_32 (by decide) (by decide) (by decide) (by decide) (law_26 hL hi hnc hns hk T S P U O B Q C R tl rf M K hR hQ hM)
  · exact ev_tableIn (off := 939) (tgt := 971) dL_law_32 (by decide) (by decide) (by decide) (by decide) (law_27 hL hi hnc hns hk T S P U O B Q C R tl rf M K hR hQ hM)
  · exact ev_tableIn (off := 972) (tgt := 1004) dL_law_32 (by decide) (by decide) (by decide) (by decide) (law_28 hL hi hnc hns hk T S P U O B Q C R tl rf M K hR hQ hM)
  · exact ev_tableIn (off := 995) (tgt := 1027) dL_law_32 (by decide) (by decide) (by decide) (by decide) (law_29 hL hi hnc hns hk T S P U O B Q C R tl rf M K hR hQ hM)
  · exact ev_tableIn (off := 1018) (tgt := 1050) dL_law_32 (by decide) (by decide) (by decide) (by decide) (law_30 hL hi hnc hns hk T S P U O B Q C R tl rf M K hR hQ hM)
  · exact ev_tableIn (off := 1031) (tgt := 1063) dL_law_32 (by decide) (by decide) (by decide) (by decide) (law_31 hL hi hnc hns hk T S P U O B Q C R tl rf M K hR hQ hM)
  · exact ev_tableIn (off := 1074) (tgt := 1106) dL_law_32 (by decide) (by decide) (by decide) (by decide) (law_32 hL hi hnc hns hk T S P U O B Q C R tl rf M K hR hQ hM)
  · exact ev_tableIn (off := 1087) (tgt := 1119) dL_law_32 (by decide) (by decide) (by decide) (by decide) (law_33 hL hi hnc hns hk T S P U O B Q C R tl rf M K hR hQ hM)
  · exact ev_tableIn (off := 1100) (tgt := 1132) dL_law_32 (by decide) (by decide) (by decide) (by decide) (law_34 hL hi hnc hns hk T S P U O B Q C R tl rf M K hR hQ hM)
  · exact ev_tableOut (tgt := 1155) dL_law_32 (by rw [nI_toInt (by omega)]; omega) (by decide) (ev_more (by omega) (by omega) (hk T S P U O B Q C R tl rf M K hR hQ hM))
theorem law_go {l : Launch} {E : XE} (hL : E.2.2.2 41 ≤ 2048) : ∀ j k : Nat, k + j = 513 → LawK l E (68 + 4 * k) (6909 + 124 * k) (4 * k) 18
  | 0, k, h => law_out hL (by omega) (by omega) (by omega) (by omega)
  | j + 1, k, h => by
    by_cases hi : 4 * k + 4 ≤ E.2.2.2 41
    · exact law_in hL hi (by omega) (by omega) (law_back (law_go hL j (k + 1) (by omega)))
    · exact law_out hL (by omega) (by omega) (by omega) (by omega)
