theorem bX7_otherwise_0_2 {l : Launch} {E : XE} : Snd l E mX7_otherwise 0 2 (xs [x_push (.int (nI 0)), x_istore 1]) := Snd.cons (snd_iconst (v := nI 0) dX7_otherwise_0 (by decide)) (Snd.cons (snd_istore_n (i := 1) dX7_otherwise_1 rfl (by decide)) Snd.nil)
theorem bX7_otherwise_2_7 {l : Launch} {E : XE} : Snd l E mX7_otherwise 2 7 (xs [x_iload 1, x_aload 0, x_get 8 28]) := Snd.cons (snd_iload_n (i := 1) dX7_otherwise_2 rfl) (Snd.cons (snd_aload_n (i := 0) dX7_otherwise_3 rfl) (Snd.cons (snd_get (ci := 8) (k := 28) dX7_otherwise_4 rfl inX7 (by decide) tw_942) Snd.nil))
theorem bX7_otherwise_33_35 {l : Launch} {E : XE} : Snd l E mX7_otherwise 33 35 (xs [x_push (.int (-9))]) := Snd.cons (snd_bipush (v := -9) dX7_otherwise_33 (by decide)) Snd.nil
theorem bX7_otherwise_10_15 {l : Launch} {E : XE} : Snd l E mX7_otherwise 10 15 (xs [x_aload 0, x_get 8 25, x_iload 1]) := Snd.cons (snd_aload_n (i := 0) dX7_otherwise_10 rfl) (Snd.cons (snd_get (ci := 8) (k := 25) dX7_otherwise_11 rfl inX7 (by decide) tw_939) (Snd.cons (snd_iload_n (i := 1) dX7_otherwise_14 rfl) Snd.nil))
theorem bX7_otherwise_16_21 {l : Launch} {E : XE} : Snd l E mX7_otherwise 16 21 (xs [x_aload 0, x_get 8 27, x_iload 1]) := Snd.cons (snd_aload_n (i := 0) dX7_otherwise_16 rfl) (Snd.cons (snd_get (ci := 8) (k := 27) dX7_otherwise_17 rfl inX7 (by decide) tw_941) (Snd.cons (snd_iload_n (i := 1) dX7_otherwise_20 rfl) Snd.nil))
theorem bX7_otherwise_30_2 {l : Launch} {E : XE} : Snd l E mX7_otherwise 30 2 (xs [x_id]) := Snd.cons (snd_goto (tgt := 2) dX7_otherwise_30 (by decide)) Snd.nil
theorem bX7_otherwise_25_26 {l : Launch} {E : XE} : Snd l E mX7_otherwise 25 26 (xs [x_iload 1]) := Snd.cons (snd_iload_n (i := 1) dX7_otherwise_25 rfl) Snd.nil
set_option maxHeartbeats 4000000 in
set_option maxRecDepth 100000 in
theorem m_X7_otherwise {l : Launch} {E : XE} (S : SaleN) (X : ModN) (K : Option (Nat → Nat)) (hb : BndZ X.pd) (hrn : X.rn ≤ 5) (hrr : ∀ k, k < X.rn → X.rr k ≤ 99) : MetE l E mX7_otherwise (0) 0 0 [.ref 0] (modW 0 S X K) (fun r w' => r = some (.int (zI (fwZ X.rr X.pd X.rn 0))) ∧ w' = modW 0 S X K) := by
  refine MetE.of (by decide +kernel) (Nat.le_of_ble_eq_true rfl) ?_
  refine ev_eq (lv' := [(0, .ref 0)]) (st' := []) (w' := modW 0 S X K) rfl rfl rfl ?_
  refine ev_b bX7_otherwise_0_2 (lv' := [(1, .int (nI (0))), (0, .ref 0)]) (st' := []) (w2 := modW 0 S X K) rfl ?_
  have L2 : ∀ (j_ k : Nat), k + j_ = X.rn → (fwZ X.rr X.pd X.rn 0 = fwZ X.rr X.pd (X.rn - k) k) → Ev l E mX7_otherwise (0) 0 0 (modW 0 S X K) (fun r w' => r = some (.int (zI (fwZ X.rr X.pd X.rn 0))) ∧ w' = modW 0 S X K) 0 0 2 [(1, .int (nI (k))), (0, .ref 0)] [] (modW 0 S X K) := by
    intro j_
    induction j_ with
    | zero =>
      intro k hk2  hinv2
      replace hk2 : k = X.rn := hk2
      refine ev_b bX7_otherwise_2_7 (lv' := [(1, .int (nI (k))), (0, .ref 0)]) (st' := [.int (nI (X.rn)), .int (nI (k))]) (w2 := modW 0 S X K) rfl ?_
      refine ev_icmp_ge_n (tgt := 33) (by omega) (by omega) dX7_otherwise_7 (by decide) (fun h7 => ?_) (fun h7 => (by exfalso; omega))
      refine ev_b bX7_otherwise_33_35 (lv' := [(1, .int (nI (k))), (0, .ref 0)]) (st' := [.int (-9)]) (w2 := modW 0 S X K) rfl ?_
      exact ev_iret dX7_otherwise_35 rfl mod_le (Nat.le_refl _) (Nat.le_refl _) ⟨(by rw [hinv2, hk2, Nat.sub_self]; exact congrArg (fun v => some (Value.int v)) (show (-9 : Int32) = zI (-9) from by decide)), rfl⟩
    | succ j_ ih2 =>
      intro k hk2  hinv2
      have hlt2 : k < X.rn := by omega
      have hst := fw_step hinv2 hlt2
      have hbk := hb k (by omega)
      have hrk := hrr k hlt2
      refine ev_b bX7_otherwise_2_7 (lv' := [(1, .int (nI (k))), (0, .ref 0)]) (st' := [.int (nI (X.rn)), .int (nI (k))]) (w2 := modW 0 S X K) rfl ?_
      refine ev_icmp_ge_n (tgt := 33) (by omega) (by omega) dX7_otherwise_7 (by decide) (fun h7 => (by exfalso; omega)) (fun h7 => ?_)
      refine ev_b bX7_otherwise_10_15 (lv' := [(1, .int (nI (k))), (0, .ref 0)]) (st' := [.int (nI (k)), .ref 17]) (w2 := modW 0 S X K) rfl ?_
      refine ev_iald_z (f := X.pd) dX7_otherwise_15 rfl (by omega) (by decide) ?_
      refine ev_b bX7_otherwise_16_21 (lv' := [(1, .int (nI (k))), (0, .ref 0)]) (st' := [.int (nI (k)), .ref 18, .int (zI (X.pd k))]) (w2 := modW 0 S X K) rfl ?_
      refine ev_iald_n (f := X.rr) dX7_otherwise_21 rfl (by omega) (by decide) ?_
      refine ev_top (y := zI (((X.rr k : Nat) : Int))) (zI_nat _).symm ?_
      refine ev_icmp_eq_z (tgt := 27) (by constructor <;> omega) (by constructor <;> omega) dX7_otherwise_22 (by decide) (fun h22 => ?_) (fun h22 => ?_)
      · skip
        have hnext : fwZ X.rr X.pd X.rn 0 = fwZ X.rr X.pd (X.rn - (k + 1)) (k + 1) := by rw [hst, if_pos h22.symm]
        refine ev_iinc_n (x := k) (v := 1) dX7_otherwise_27 rfl (by decide) ?_
        refine ev_eq (lv' := [(1, .int (nI (k + 1))), (0, .ref 0)]) rfl rfl rfl ?_
        refine ev_b bX7_otherwise_30_2 (lv' := [(1, .int (nI (k + 1))), (0, .ref 0)]) (st' := []) (w2 := modW 0 S X K) rfl ?_
        rw [show nI (k + 1) = nI ((k + 1)) from congrArg nI (by omega)]
        exact ih2 (k + 1) (by omega) hnext
      · skip
        refine ev_b bX7_otherwise_25_26 (lv' := [(1, .int (nI (k))), (0, .ref 0)]) (st' := [.int (nI (k))]) (w2 := modW 0 S X K) rfl ?_
        exact ev_iret dX7_otherwise_26 rfl mod_le (Nat.le_refl _) (Nat.le_refl _) ⟨(congrArg (fun t => some (Value.int t)) (show nI (k) = zI (fwZ X.rr X.pd X.rn 0) from by rw [← zI_nat]; exact congrArg zI (by rw [hst, if_neg (fun z => h22 z.symm)]))), rfl⟩
  exact L2 X.rn 0 (by omega) rfl
