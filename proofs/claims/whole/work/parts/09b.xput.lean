/-! ===== what comes back from a call, block by block ===== -/
theorem xput_cons {is0 : List Nat} {n : Nat} (a : va_E) : ∀ (is : List Nat) (w w' : AW), xput is0 n (a :: w) (is.map (fun i => i + 1)) w' = a :: xput is0 n w is w'
  | [], w, w' => by cases w' <;> rfl
  | i :: is, w, [] => rfl
  | i :: is, w, e :: w' => by
    show xput is0 n ((a :: w).set (i + 1) (xr is0 n e)) (is.map (fun i => i + 1)) w' = a :: xput is0 n (w.set i (xr is0 n e)) is w'
    rw [List.set_cons_succ]
    exact xput_cons a is _ w'
/-- b, b + 1 .. -/
def rng (b : Nat) : Nat → List Nat
  | 0 => []
  | n + 1 => b :: rng (b + 1) n
theorem rng_succ (b : Nat) : ∀ n, (rng b n).map (fun i => i + 1) = rng (b + 1) n
  | 0 => rfl
  | n + 1 => by
    show (b + 1) :: (rng (b + 1) n).map (fun i => i + 1) = _
    rw [rng_succ (b + 1) n]
    rfl
theorem xput_blk0 {is0 : List Nat} {n : Nat} : ∀ (X W Z : AW), W.length = X.length → xput is0 n (X ++ Z) (rng 0 X.length) W = W.map (xr is0 n) ++ Z
  | [], [], Z, _ => rfl
  | [], _ :: _, _, h => by cases h
  | _ :: _, [], _, h => by cases h
  | x :: X, e :: W, Z, h => by
    show xput is0 n (((x :: X) ++ Z).set 0 (xr is0 n e)) (rng 1 X.length) W = _
    rw [List.cons_append, List.set_cons_zero, ← rng_succ 0, xput_cons, xput_blk0 X W Z (by simpa using h)]
    rfl
theorem xput_blk {is0 : List Nat} {n : Nat} : ∀ (A X Z W : AW), W.length = X.length → xput is0 n (A ++ (X ++ Z)) (rng A.length X.length) W = A ++ (W.map (xr is0 n) ++ Z)
  | [], X, Z, W, h => xput_blk0 X W Z h
  | a :: A, X, Z, W, h => by
    show xput is0 n (a :: (A ++ (X ++ Z))) (rng (A.length + 1) X.length) W = a :: (A ++ (W.map (xr is0 n) ++ Z))
    rw [← rng_succ, xput_cons, xput_blk A X Z W h]
theorem xput_app {is0 : List Nat} {n : Nat} : ∀ (i1 i2 : List Nat) (w w1 w2 : AW), w1.length = i1.length → xput is0 n w (i1 ++ i2) (w1 ++ w2) = xput is0 n (xput is0 n w i1 w1) i2 w2
  | [], i2, w, [], w2, _ => by cases i2 <;> cases w2 <;> rfl
  | [], _, _, _ :: _, _, h => by cases h
  | _ :: _, _, _, [], _, h => by cases h
  | i :: i1, i2, w, e :: w1, w2, h => by
    show xput is0 n (w.set i (xr is0 n e)) (i1 ++ i2) (w1 ++ w2) = xput is0 n (xput is0 n (w.set i (xr is0 n e)) i1 w1) i2 w2
    exact xput_app i1 i2 _ w1 w2 (by simpa using h)
theorem rng_get (b : Nat) : ∀ (n j : Nat), (rng b n)[j]? = if j < n then some (b + j) else none
  | 0, j => by simp [rng]
  | n + 1, 0 => by simp [rng]
  | n + 1, j + 1 => by
    show (rng (b + 1) n)[j]? = _
    rw [rng_get (b + 1) n j]
    by_cases h : j < n
    · rw [if_pos h, if_pos (by omega)]
      congr 1
      omega
    · rw [if_neg h, if_neg (by omega)]
theorem xsg_id (n j : Nat) : xsg (rng 0 n) n j = j := by
  unfold xsg
  rw [rng_get]
  by_cases h : j < n
  · rw [if_pos h]
    show 0 + j = j
    omega
  · rw [if_neg h, show (rng 0 n).length = n from rng_len 0 n]
    show n + (j - n) = j
    omega
where rng_len (b : Nat) : ∀ n, (rng b n).length = n
  | 0 => rfl
  | n + 1 => by rw [rng, List.length_cons, rng_len (b + 1) n]
theorem xrV_id (n : Nat) (v : Value) : xrV (rng 0 n) n v = v := by
  cases v <;> first | rfl | (show Value.ref _ = _; rw [xsg_id])
theorem xr_id (n : Nat) (e : va_E) : xr (rng 0 n) n e = e := by
  rcases e with x | ⟨ci, fs⟩
  · rfl
  · show Sum.inr _ = _
    rw [List.map_congr_left (fun v _ => xrV_id n v), List.map_id']
theorem same_hw (w : AW) : (rng 0 w.length).map (fun i => w[i]?) = w.map (fun e => some (xr (rng 0 w.length) w.length e)) := by
  apply List.ext_getElem?
  intro i
  rw [List.getElem?_map, List.getElem?_map, rng_get]
  by_cases h : i < w.length
  · rw [if_pos h, List.getElem?_eq_getElem h]
    show some (w[0 + i]?) = some (some (xr (rng 0 w.length) w.length w[i]))
    rw [xr_id, Nat.zero_add, List.getElem?_eq_getElem h]
  · rw [if_neg h, List.getElem?_eq_none (by omega)]
    rfl
theorem same_xp (w w' : AW) (h : w'.length = w.length) : xput (rng 0 w.length) w.length w (rng 0 w.length) w' = w' := by
  have h1 := xput_blk0 (is0 := rng 0 w.length) (n := w.length) w w' [] h
  rw [List.append_nil, List.append_nil, List.map_congr_left (fun e _ => xr_id w.length e), List.map_id'] at h1
  exact h1

