/-! ===== payments are not below 0; lifting ends; what calls keep ===== -/
theorem win_ge {S : SaleN} (hS : SaleOK S) {sm m : Nat} (h1 : outc S m) (h2 : andn m sm = 0) : worthN S m ≤ winW S sm := by
  obtain ⟨m0, k1, k2, k3, k4, k5, k6, k7, -, -, k8⟩ := wK_spec hS sm
  have h := k8 m h1 h2
  have h4 := outc_lt hS h1
  have h5 := outc_le hS h1
  unfold keyS at h
  rw [key_val k6, key_val h4] at h
  have p1 := pop_le m
  have p2 := pop_le m0
  rw [k5]
  omega
theorem out_lt10 {S : SaleN} (hS : SaleOK S) {m : Nat} (h : outc S m) : andn m 1023 = 0 := by
  unfold andn
  rw [and_1023 (outc_lt hS h)]
  exact Nat.xor_self m
theorem it_sub {st : Nat → Nat} {m w : Nat} (h : ∀ i, m.testBit i = true → w.testBit i = true) : ∀ n i, (itTo st m n).testBit i = true → (itTo st w n).testBit i = true
  | 0, i, hi => hi
  | n + 1, i, hi => by
    have ih := it_sub (st := st) h n i
    rw [itTo_s] at hi ⊢
    by_cases hm : m.testBit n = true
    · rw [if_pos hm, Nat.testBit_or, Bool.or_eq_true] at hi
      rw [if_pos (h n hm), Nat.testBit_or, Bool.or_eq_true]
      exact hi.imp ih id
    · rw [if_neg hm] at hi
      split
      · rw [Nat.testBit_or, Bool.or_eq_true]
        exact Or.inl (ih hi)
      · exact ih hi
theorem rb_mono {rs : Nat → Nat} {x y : Nat} (h : ∀ i, x.testBit i = true → y.testBit i = true) : ∀ n, rbTo rs y n ≤ rbTo rs x n
  | 0 => Nat.le_refl _
  | n + 1 => by
    have ih := rb_mono (rs := rs) h n
    rw [rbTo_s, rbTo_s]
    by_cases hx : x.testBit n = true
    · rw [if_pos hx, if_pos (h n hx)]
      omega
    · rw [if_neg hx]
      split <;> omega
/-- the winners without a bidder's own are an outcome -/
theorem win_less {S : SaleN} (hS : SaleOK S) {b : Nat} (hb : b < 5) : outc S (andn (winB S 1023) (owF S b)) := by
  have hw := (win_spec hS 1023).1
  have hsub : ∀ i, (andn (winB S 1023) (owF S b)).testBit i = true → (winB S 1023).testBit i = true := fun i hi => by
    rw [andn_bit, Bool.and_eq_true] at hi
    exact hi.1
  have hac : andn (andn (winB S 1023) (owF S b)) S.ac = 0 := by
    rw [andn_0]
    exact fun i hi => andn_0.mp (out_sub hw) i (hsub i hi)
  refine ⟨(packs_iff S.ca (Nat.le_refl _) _).mpr ⟨Nat.lt_of_le_of_lt (xor_and_le _ _) (packsN_lt S S.ca _ hw.1), hac, ?_⟩, fun c hc => ?_⟩
  · have hd := (dsj_iff S.ca).mp (out_dsj hw)
    rw [dsj_iff]
    exact fun i j hij hj hi hbj => hd i j hij hj (hsub i hi) (hsub j hbj)
  · have eo : S.ow c = owF S c := (hS.2.2.2.1 c hc).1
    by_cases e : c = b
    · subst e
      have h0 : andn (winB S 1023) (owF S c) &&& S.ow c = 0 := by
        rw [eo]
        apply Nat.eq_of_testBit_eq
        intro i
        rw [Nat.testBit_and, andn_bit, Nat.zero_testBit]
        cases (owF S c).testBit i <;> simp
      show mayP _ _ (pop (andn (winB S 1023) (owF S c) &&& S.ow c)) _ _
      rw [h0]
      exact may_zero (by decide) pop_0
    · have h0 : andn (winB S 1023) (owF S b) &&& S.ow c = winB S 1023 &&& S.ow c := by
        rw [eo]
        apply Nat.eq_of_testBit_eq
        intro i
        rw [Nat.testBit_and, andn_bit, Nat.testBit_and]
        cases h1 : (owF S c).testBit i with
        | false => simp
        | true =>
          cases h2 : (owF S b).testBit i with
          | false => simp
          | true =>
            have h3 := ((own_bit S.ca i).mp h1).2
            have h4 := ((own_bit S.ca i).mp h2).2
            exact absurd (h3.symm.trans h4) e
      have h1 : mayS S (winB S 1023) c := hw.2 c hc
      show mayP _ _ (pop (andn (winB S 1023) (owF S b) &&& S.ow c)) (prTo S.pr (andn (winB S 1023) (owF S b) &&& S.ow c) S.ca) (pop (itTo S.st (andn (winB S 1023) (owF S b) &&& S.ow c) S.ca))
      rw [h0]
      exact h1
theorem pr_cut {pr : Nat → Nat} {w x : Nat} (n : Nat) : prTo pr w n = prTo pr (andn w x) n + prTo pr (w &&& x) n := by
  have h0 : andn w x &&& (w &&& x) = 0 := by
    apply Nat.eq_of_testBit_eq
    intro i
    rw [Nat.testBit_and, andn_bit, Nat.testBit_and, Nat.zero_testBit]
    cases w.testBit i <;> cases x.testBit i <;> rfl
  have h1 : andn w x ||| (w &&& x) = w := by
    apply Nat.eq_of_testBit_eq
    intro i
    rw [Nat.testBit_or, andn_bit, Nat.testBit_and]
    cases w.testBit i <;> cases x.testBit i <;> rfl
  rw [← pr_or h0 n, h1]
theorem paid_nn {S : SaleN} (hS : SaleOK S) {b : Nat} (hb : b < 5) : 0 ≤ paidZ S b := by
  unfold paidZ
  split
  · exact Int.le_refl _
  · rw [← harm_one hS hb]
    unfold harmM
    have h1 := win_less hS hb
    have h2 : andn (andn (winB S 1023) (owF S b)) (andn 1023 (owF S b)) = 0 := by
      have h3 := andn_0.mp (out_lt10 hS (win_spec hS 1023).1)
      rw [andn_0]
      intro i hi
      rw [andn_bit, Bool.and_eq_true] at hi
      rw [andn_bit, h3 i hi.1, hi.2]
      rfl
    have h4 := win_ge hS h1 h2
    have h5 := (win_spec hS 1023).2.2
    have h6 := pr_cut (pr := S.pr) (w := winB S 1023) (x := owF S b) S.ca
    have h7 := rb_mono (rs := S.rs) (fun i => it_sub (st := S.st) (fun i hi => by rw [andn_bit, Bool.and_eq_true] at hi; exact hi.1) S.ca i : ∀ i, (itTo S.st (andn (winB S 1023) (owF S b)) S.ca).testBit i = true → (itTo S.st (winB S 1023) S.ca).testBit i = true) 6
    unfold worthN at h4 h5
    omega
theorem it_nn {S : SaleN} (hS : SaleOK S) : ∀ n, (∀ i, i < n → (blkS S (itS S i)).2 ≠ -9) → ∀ b, b < 5 → 0 ≤ itS S n b
  | 0, _, b, hb => paid_nn hS hb
  | n + 1, hn, b, hb => by
    have hpre : ∀ i, i < n → (blkS S (itS S i)).2 ≠ -9 := fun i hi => hn i (by omega)
    have h1 := it_nn hS n hpre b hb
    obtain ⟨g, hg, hgz, hg32, hx⟩ := it_exc hS hpre (hn n (by omega))
    have h2 := ((putTo_bnd (g := g) (fun j hj => (it_bnd hS n hpre j hj).2) hx.1 5 (Nat.le_refl _)).2.2 b hb).1
    show 0 ≤ (putTo (wonZ S) (blkS S (itS S n)).2.toNat (itS S n) (excS S (itS S n) (blkS S (itS S n)).2.toNat) 5).1 b
    rw [hg]
    omega
def sum5 (f : Nat → Int) : Int := f 0 + f 1 + f 2 + f 3 + f 4
theorem tot_31 (f : Nat → Int) : totZ f 31 5 = sum5 f := by
  have e : ∀ k, k < 5 → b01 (Nat.testBit 31 k = true) = 1 := fun k hk => b01_t (tb31 k hk)
  show (((((0 + ((b01 (Nat.testBit 31 0 = true) : Nat) : Int) * f 0) + ((b01 (Nat.testBit 31 1 = true) : Nat) : Int) * f 1) + ((b01 (Nat.testBit 31 2 = true) : Nat) : Int) * f 2) + ((b01 (Nat.testBit 31 3 = true) : Nat) : Int) * f 3) + ((b01 (Nat.testBit 31 4 = true) : Nat) : Int) * f 4) = _
  rw [e 0 (by decide), e 1 (by decide), e 2 (by decide), e 3 (by decide), e 4 (by decide)]
  unfold sum5
  omega
theorem tot_ok {S : SaleN} (hS : SaleOK S) {f : Nat → Int} (h0 : ∀ b, b < 5 → 0 ≤ f b) (h1 : ∀ b, b < 5 → f b ≤ wonZ S b) : (0 ≤ totZ f 31 5 ∧ totZ f 31 5 ≤ 5000) ∧ (cntTo (wonZ S) 5 = 0 → totZ f 31 5 = 0) := by
  rw [tot_31]
  have a0 := h0 0 (by decide); have a1 := h0 1 (by decide); have a2 := h0 2 (by decide); have a3 := h0 3 (by decide); have a4 := h0 4 (by decide)
  have c0 := h1 0 (by decide); have c1 := h1 1 (by decide); have c2 := h1 2 (by decide); have c3 := h1 3 (by decide); have c4 := h1 4 (by decide)
  have w0 := wonZ_bnd hS 0; have w1 := wonZ_bnd hS 1; have w2 := wonZ_bnd hS 2; have w3 := wonZ_bnd hS 3; have w4 := wonZ_bnd hS 4
  unfold sum5
  refine ⟨by omega, fun hz => ?_⟩
  change ((((0 + if 0 < wonZ S 0 then 1 else 0) + if 0 < wonZ S 1 then 1 else 0) + if 0 < wonZ S 2 then 1 else 0) + if 0 < wonZ S 3 then 1 else 0) + (if 0 < wonZ S 4 then 1 else 0) = 0 at hz
  generalize wonZ S 0 = u0 at *
  generalize wonZ S 1 = u1 at *
  generalize wonZ S 2 = u2 at *
  generalize wonZ S 3 = u3 at *
  generalize wonZ S 4 = u4 at *
  by_cases e0 : 0 < u0
  · rw [if_pos e0] at hz; omega
  by_cases e1 : 0 < u1
  · rw [if_pos e1] at hz; omega
  by_cases e2 : 0 < u2
  · rw [if_pos e2] at hz; omega
  by_cases e3 : 0 < u3
  · rw [if_pos e3] at hz; omega
  by_cases e4 : 0 < u4
  · rw [if_pos e4] at hz; omega
  omega
theorem mean_0 {S : SaleN} (hS : SaleOK S) : (0 ≤ totZ (wonZ S) 31 5 ∧ totZ (wonZ S) 31 5 ≤ 5000) ∧ (cntTo (wonZ S) 5 = 0 → totZ (wonZ S) 31 5 = 0) := tot_ok hS (fun b _ => (wonZ_bnd hS b).1) (fun _ _ => Int.le_refl _)
theorem mean_1 {S : SaleN} (hS : SaleOK S) : (0 ≤ totZ (paidZ S) 31 5 ∧ totZ (paidZ S) 31 5 ≤ 5000) ∧ (cntTo (wonZ S) 5 = 0 → totZ (paidZ S) 31 5 = 0) := tot_ok hS (fun b hb => paid_nn hS hb) (fun b hb => (paid_bnd hS hb).2)
theorem mean_2 {S : SaleN} (hS : SaleOK S) {n : Nat} (hn : LiftsTo S n) : (0 ≤ totZ (itS S n) 31 5 ∧ totZ (itS S n) 31 5 ≤ 5000) ∧ (cntTo (wonZ S) 5 = 0 → totZ (itS S n) 31 5 = 0) := tot_ok hS (it_nn hS n hn.2.1) (fun b hb => (it_bnd hS n hn.2.1 b hb).2)
/-! lifting -/
def outZ (f : Nat → Int) (g : Nat) : Nat → Int
  | 0 => 0
  | k + 1 => outZ f g k + if g.testBit k = true then 0 else f k
theorem tot_cut {f : Nat → Int} {g : Nat} : ∀ n, n ≤ 5 → totZ f 31 n = totZ f g n + outZ f g n
  | 0, _ => rfl
  | n + 1, hn => by
    rw [totZ_s, totZ_s, tot_cut (g := g) n (by omega), b01_t (tb31 n (by omega))]
    show _ = _ + (outZ f g n + if g.testBit n = true then 0 else f n)
    by_cases h : g.testBit n = true
    · rw [b01_t h, if_pos h]; omega
    · rw [b01_f h, if_neg h]; omega
theorem out_cong {f h : Nat → Int} {g : Nat} : ∀ n, (∀ k, k < n → ¬ g.testBit k = true → f k = h k) → outZ f g n = outZ h g n
  | 0, _ => rfl
  | n + 1, e => by
    show outZ f g n + _ = outZ h g n + _
    rw [out_cong n (fun k hk => e k (by omega))]
    split
    · rfl
    · rename_i hg
      rw [e n (by omega) hg]
theorem tot_cong2 {f h : Nat → Int} {g : Nat} : ∀ n, (∀ k, k < n → g.testBit k = true → f k = h k) → totZ f g n = totZ h g n
  | 0, _ => rfl
  | n + 1, e => by
    rw [totZ_s, totZ_s, tot_cong2 n (fun k hk => e k (by omega))]
    by_cases hg : g.testBit n = true
    · rw [e n (by omega) hg]
    · rw [b01_f hg]; omega
theorem put_in {won li : Nat → Int} {g : Nat} {x : Int} : ∀ k b, g.testBit b = true → (putTo won g li x k).1 b = li b
  | 0, b, _ => rfl
  | k + 1, b, hb => by
    rw [putTo_s]
    split
    · exact put_in k b hb
    · rename_i hg
      show up _ k _ b = li b
      rw [up_ne (fun z => hg (by rw [← z]; exact hb))]
      exact put_in k b hb
theorem put_sum {won li : Nat → Int} {g : Nat} {x : Int} : ∀ k, k ≤ 5 → totZ (putTo won g li x k).1 31 5 + (putTo won g li x k).2 = totZ li 31 5 + x
  | 0, _ => rfl
  | k + 1, hk => by
    have ih := put_sum (won := won) (li := li) (g := g) (x := x) k (by omega)
    rw [putTo_s]
    split
    · exact ih
    · show totZ (up _ k _) 31 5 + (_ - _) = _
      rw [tot_31] at ih ⊢
      generalize (putTo won g li x k).1 = f at ih ⊢
      generalize (putTo won g li x k).2 = r at ih ⊢
      generalize min r (won k - f k) = d
      have h : k = 0 ∨ k = 1 ∨ k = 2 ∨ k = 3 ∨ k = 4 := by omega
      unfold sum5 at ih ⊢
      rcases h with rfl | rfl | rfl | rfl | rfl <;> simp only [up] <;> simp <;> omega
theorem put_full {won li : Nat → Int} {g : Nat} {x : Int} (hle : ∀ j, j < 5 → li j ≤ won j) (hx : 0 ≤ x) : ∀ k, k ≤ 5 → 0 < (putTo won g li x k).2 → ∀ b, b < k → ¬ g.testBit b = true → (putTo won g li x k).1 b = won b
  | 0, _, _, b, hb, _ => absurd hb (Nat.not_lt_zero b)
  | k + 1, hk, hr, b, hb, hg => by
    have hbn := putTo_bnd (g := g) hle hx k (by omega)
    have ih := put_full hle hx k (by omega) (g := g)
    rw [putTo_s] at hr ⊢
    split
    · rename_i hgk
      rw [if_pos hgk] at hr
      have : b ≠ k := fun z => hg (by rw [z]; exact hgk)
      exact ih hr b (by omega) hg
    · rename_i hgk
      rw [if_neg hgk] at hr
      have hck := (hbn.2.2 k (by omega)).2
      change 0 < (putTo won g li x k).2 - min (putTo won g li x k).2 (won k - (putTo won g li x k).1 k) at hr
      show up (putTo won g li x k).1 k _ b = won b
      by_cases e : b = k
      · subst e
        rw [up_at]
        omega
      · rw [up_ne e]
        exact ih (by omega) b (by omega) hg
theorem bg_bit2 {bd : Nat → Nat} {g n k : Nat} (hk : k < n) (hg : g.testBit (bd k) = true) : ∀ m, bd k < m → (bgTo (fun b => ownTo bd b n) g m).testBit k = true
  | 0, h => absurd h (Nat.not_lt_zero _)
  | m + 1, h => by
    rw [bgTo_s]
    by_cases e : bd k = m
    · rw [if_pos (by rw [← e]; exact hg), Nat.testBit_or, Bool.or_eq_true]
      exact Or.inr ((own_bit n k).mpr ⟨hk, e⟩)
    · have ih := bg_bit2 (bd := bd) hk hg m (by omega)
      split
      · rw [Nat.testBit_or, ih]; rfl
      · exact ih
theorem won_all {S : SaleN} (hS : SaleOK S) : totZ (wonZ S) 31 5 = ((prTo S.pr (winB S 1023) S.ca : Nat) : Int) := by
  rw [← won_bg hS]
  have h : winB S 1023 &&& bgTo S.ow 31 5 = winB S 1023 := by
    rw [← bg_ow hS]
    apply Nat.eq_of_testBit_eq
    intro i
    rw [Nat.testBit_and]
    cases hi : (winB S 1023).testBit i with
    | false => rfl
    | true =>
      have hic := (win_tb hS hi).2
      have hbd := (hS.2.2.1 i hic).1
      rw [show (bgTo (owF S) 31 5).testBit i = true from bg_bit2 (bd := S.bd) hic (tb31 _ hbd) 5 hbd]
      rfl
  rw [h]
/-- a lift puts all of it on payments -/
theorem step_all {S : SaleN} (hS : SaleOK S) {n : Nat} (hpre : ∀ i, i < n → (blkS S (itS S i)).2 ≠ -9) (h9 : (blkS S (itS S n)).2 ≠ -9) : totZ (itS S n) 31 5 + 1 ≤ totZ (itS S (n + 1)) 31 5 := by
  obtain ⟨g, hg, hgz, hg32, hx⟩ := it_exc hS hpre h9
  have hle : ∀ j, j < 5 → itS S n j ≤ wonZ S j := fun j hj => (it_bnd hS n hpre j hj).2
  have hB := bill_ok hS hpre (m := 0) (h := paidZ S)
  have hpos : 0 < excS S (itS S n) g := by
    have h2 := blk_exc hB 32 (Nat.le_refl _) h9
    have h3 : 0 < excZ (LB S) (itS S n) (blkTo (LB S) (itS S n) 32).2.toNat := h2.1
    have h4 : (blkTo (LB S) (itS S n) 32).2.toNat = g := hg
    rw [h4] at h3
    exact h3
  have e : itS S (n + 1) = (putTo (wonZ S) g (itS S n) (excS S (itS S n) g) 5).1 := by
    show stepS S (itS S n) = _
    unfold stepS
    rw [hg]
  have hsum := put_sum (won := wonZ S) (li := itS S n) (g := g) (x := excS S (itS S n) g) 5 (Nat.le_refl _)
  have hbn := (putTo_bnd (g := g) hle hx.1 5 (Nat.le_refl _)).1
  rw [e]
  by_cases hr : 0 < (putTo (wonZ S) g (itS S n) (excS S (itS S n) g) 5).2
  · exfalso
    have hfull := put_full hle hx.1 5 (Nat.le_refl _) (g := g) hr
    have h1 := tot_cut (f := (putTo (wonZ S) g (itS S n) (excS S (itS S n) g) 5).1) (g := g) 5 (Nat.le_refl _)
    have h2 := tot_cut (f := wonZ S) (g := g) 5 (Nat.le_refl _)
    rw [out_cong (h := wonZ S) 5 (fun k hk hk2 => hfull k hk hk2), tot_cong2 (h := itS S n) 5 (fun k _ hk2 => put_in 5 k hk2)] at h1
    have h3 := winW_mono hS (bgTo S.ow g 5)
    have h4 := won_all hS
    have h5 := (win_spec hS 1023).2.2
    have h6 : excS S (itS S n) g = ((winW S (bgTo S.ow g 5) : Nat) : Int) - totZ (itS S n) 31 5 - (totZ (wonZ S) g 5 - totZ (itS S n) g 5) - ((rbTo S.rs (itTo S.st (winB S 1023) S.ca) 6 : Nat) : Int) := rfl
    unfold worthN at h5
    omega
  · omega
theorem lifts_ex {S : SaleN} (hS : SaleOK S) : ∃ n, LiftsTo S n := by
  have key : ∀ m, m ≤ 5000 → (∃ n, n < m ∧ (∀ i, i < n → (blkS S (itS S i)).2 ≠ -9) ∧ (blkS S (itS S n)).2 = -9) ∨ (∀ i, i < m → (blkS S (itS S i)).2 ≠ -9) := by
    intro m
    induction m with
    | zero => intro _; exact Or.inr (fun i hi => absurd hi (Nat.not_lt_zero i))
    | succ m ih =>
      intro hm
      rcases ih (by omega) with ⟨n, h1, h2, h3⟩ | h
      · exact Or.inl ⟨n, by omega, h2, h3⟩
      · by_cases h9 : (blkS S (itS S m)).2 = -9
        · exact Or.inl ⟨m, by omega, h, h9⟩
        · refine Or.inr (fun i hi => ?_)
          by_cases e : i = m
          · subst e; exact h9
          · exact h i (by omega)
  have tot : ∀ m, (∀ i, i < m → (blkS S (itS S i)).2 ≠ -9) → ((m : Nat) : Int) ≤ totZ (itS S m) 31 5 := by
    intro m
    induction m with
    | zero => intro _; exact (mean_1 hS).1.1
    | succ m ih =>
      intro h
      have h1 := ih (fun i hi => h i (by omega))
      have h2 := step_all hS (fun i hi => h i (by omega)) (h m (by omega))
      omega
  rcases key 5000 (Nat.le_refl _) with ⟨n, h1, h2, h3⟩ | h
  · exact ⟨n, by omega, h2, h3⟩
  · exfalso
    have h1 := tot 5000 h
    have h2 : totZ (itS S 5000) 31 5 ≤ totZ (wonZ S) 31 5 := by
      rw [tot_31, tot_31]
      have b0 := (it_bnd hS 5000 h 0 (by decide)).2
      have b1 := (it_bnd hS 5000 h 1 (by decide)).2
      have b2 := (it_bnd hS 5000 h 2 (by decide)).2
      have b3 := (it_bnd hS 5000 h 3 (by decide)).2
      have b4 := (it_bnd hS 5000 h 4 (by decide)).2
      unfold sum5
      generalize itS S 5000 = f at *
      omega
    have h3 := won_all hS
    have h4 := pr_le hS (winB S 1023)
    generalize totZ (itS S 5000) 31 5 = u at *
    omega
/-! what calls keep -/
theorem own_cong {f g : Nat → Nat} {b : Nat} : ∀ n, (∀ k, k < n → f k = g k) → ownTo f b n = ownTo g b n
  | 0, _ => rfl
  | n + 1, h => by rw [ownTo_s, ownTo_s, own_cong n (fun k hk => h k (by omega)), h n (by omega)]
theorem add_ok {S : SaleN} (hS : SaleOK S) {b set p : Nat} (hb : b < 5) (hs : 1 ≤ set ∧ set ≤ 63) (hp : p ≤ 99) (hc : S.ca < 10) : SaleOK (addS S b set p) := by
  obtain ⟨h1, h2, h3, h4, h5⟩ := hS
  have hp2 : (2 : Nat) ^ S.ca < 2 ^ (S.ca + 1) := Nat.pow_lt_pow_right (by decide) (by omega)
  refine ⟨by show S.ca + 1 ≤ 10; omega, ?_, fun k hk => ?_, fun c hc2 => ?_, h5⟩
  · show S.ac ||| 1 <<< S.ca < 2 ^ (S.ca + 1)
    exact or_lt (by omega) (shl_lt (by omega))
  · have hk : k < S.ca + 1 := hk
    show up S.bd S.ca b k < 5 ∧ 0 < up S.st S.ca set k ∧ up S.st S.ca set k < 64 ∧ up S.pr S.ca p k ≤ 99
    by_cases e : k = S.ca
    · subst e
      rw [up_at, up_at, up_at]
      omega
    · rw [up_ne e, up_ne e, up_ne e]
      exact h3 k (by omega)
  · have h6 := h4 c hc2
    refine ⟨?_, h6.2⟩
    show up S.ow b (S.ow b ||| 1 <<< S.ca) c = ownTo (up S.bd S.ca b) c (S.ca + 1)
    have h7 : ownTo (up S.bd S.ca b) c S.ca = ownTo S.bd c S.ca := own_cong S.ca (fun k hk => up_ne (by omega))
    rw [ownTo_s, up_at, h7]
    by_cases e : c = b
    · subst e
      rw [up_at, if_pos rfl, h6.1]
    · rw [up_ne e, if_neg (fun z => e z.symm), h6.1]
theorem turn_ok {S : SaleN} (hS : SaleOK S) {k : Nat} (hk : k < S.ca) : SaleOK (turnS S k) := ⟨hS.1, Nat.xor_lt_two_pow hS.2.1 (shl_lt hk), hS.2.2⟩
theorem rank_pre {S : SaleN} (hS : SaleOK S) {k : Nat} (hk : k < (keysOf S (packsN S S.ca)).length) : nextLs (keysOf S (packsN S S.ca)) (rankLs (keysOf S (packsN S S.ca)) k) < 2147483648 ∧ nextLs (keysOf S (packsN S S.ca)) (rankLs (keysOf S (packsN S S.ca)) k) >>> 14 ≤ 1023 := by
  obtain ⟨b, hb, e, -, -⟩ := rk_at hS hk
  rw [e]
  have h1 := outc_lt hS hb
  refine ⟨Nat.lt_trans (key_lt h1) (by decide), ?_⟩
  unfold keyS
  rw [key_shr h1]
  omega

