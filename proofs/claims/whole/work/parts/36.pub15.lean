def seedN (x : Int32) : Int32 := x * 1664525 + 1013904223
theorem bX6_nextSeed_0_9 {l : Launch} {E : XE} : Snd l E mX6_nextSeed 0 9 (xs [x_iload 0, x_push (.int (nI 1664525)), x_i2 (fun x y => x * y), x_push (.int (nI 1013904223)), x_i2 (fun x y => x + y)]) := Snd.cons (snd_iload_n (i := 0) dX6_nextSeed_0 rfl) (Snd.cons (snd_ldcw (v := nI 1664525) dX6_nextSeed_1 tw_877) (Snd.cons (snd_imul dX6_nextSeed_4) (Snd.cons (snd_ldcw (v := nI 1013904223) dX6_nextSeed_5 tw_878) (Snd.cons (snd_iadd dX6_nextSeed_8) Snd.nil))))
set_option maxHeartbeats 4000000 in
set_option maxRecDepth 100000 in
theorem m_X6_nextSeed {l : Launch} {E : XE} (x : Int32)  : MetE l E mX6_nextSeed (0) 0 0 [.int (x)] ([]) (fun r w' => r = some (.int (seedN x)) ∧ w' = []) := by
  refine MetE.of (by decide +kernel) (Nat.le_of_ble_eq_true rfl) ?_
  refine ev_eq (lv' := [(0, .int (x))]) (st' := []) (w' := []) rfl rfl rfl ?_
  refine ev_b bX6_nextSeed_0_9 (lv' := [(0, .int (x))]) (st' := [.int (((x) * (nI (1664525))) + (nI (1013904223)))]) (w2 := []) rfl ?_
  exact ev_iret dX6_nextSeed_9 rfl (Nat.le_of_ble_eq_true rfl) (Nat.le_refl _) (Nat.le_refl _) ⟨(by rfl), rfl⟩
