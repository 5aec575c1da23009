/-! ===== the start: what the Statement gives of it ===== -/
def strT (i : Nat) : Term := match i with
  | 0 => .string "BundlesOfBids$Script" 81
  | 1 => .string "BundlesOfBids$Script" 87
  | 2 => .string "BundlesOfBids$Script" 89
  | 3 => .string "BundlesOfBids$Script" 91
  | 4 => .string "BundlesOfBids$Script" 93
  | 5 => .string "BundlesOfBidsModel" 61
  | 6 => .string "BundlesOfBidsModel" 63
  | 7 => .string "BundlesOfBidsModel" 65
  | 8 => .string "BundlesOfBidsModel" 67
  | _ => .string "BundlesOfBidsModel" 69
abbrev flatL : List Cond := flatC (Jvm.Cond.and given_1 narrow_1)
theorem st_ex : ∀ i, i < 10 → Cond.exactly (strT i) "java/lang/String" ∈ flatL := by decide +kernel
theorem st_co : ∀ i, i < 10 → Cond.eq (.field (strT i) "java/lang/String" "coder" "B") (.int 0) ∈ flatL := by decide +kernel
theorem st_ar : ∀ i, i < 10 → Cond.arrayOf (.field (strT i) "java/lang/String" "value" "[B") .byte ∈ flatL := by decide +kernel
theorem st_le : ∀ i, i < 10 → Cond.eq (.length (.field (strT i) "java/lang/String" "value" "[B")) (.int (Int32.ofNat (sLen.getD i 0))) ∈ flatL := by decide +kernel
theorem st_el : ∀ i, i < 10 → ∀ j, j < sLen.getD i 0 → Cond.eq (.elem (.field (strT i) "java/lang/String" "value" "[B") (.int (Int32.ofNat j))) (.int ((sByt.getD i []).getD j 0)) ∈ flatL := by decide +kernel
theorem st_ne : ∀ i, i < 10 → ∀ j, j < 10 → i ≠ j → Cond.not (Cond.eq (strT i) (strT j)) ∈ flatL ∨ Cond.not (Cond.eq (strT j) (strT i)) ∈ flatL := by decide +kernel
def dgC (nm : String) (f : Nat → Nat) (j : Nat) : Cond := Cond.eq (.elem (.static "java/lang/Integer" nm "[B") (.int (Int32.ofNat j))) (.int (nI (f j)))
theorem seg_mem {α : Type} {A : List α} {p n : Nat} {f : Nat → α} (h : (A.drop p).take n = (List.range n).map f) {j : Nat} (hj : j < n) : f j ∈ A := by
  have h1 : f j ∈ (List.range n).map f := List.mem_map.mpr ⟨j, List.mem_range.mpr hj, rfl⟩
  rw [← h] at h1
  exact List.mem_of_mem_drop (List.mem_of_mem_take h1)
theorem dg_to : (flatL.drop 12).take 100 = (List.range 100).map (dgC "DigitOnes" (fun j => 48 + j % 10)) := by decide +kernel
theorem dg_tt : (flatL.drop 115).take 100 = (List.range 100).map (dgC "DigitTens" (fun j => 48 + j / 10)) := by decide +kernel
theorem dg_t (j : Nat) (hj : j < 100) : Cond.eq (.elem (.static "java/lang/Integer" "DigitTens" "[B") (.int (Int32.ofNat j))) (.int (nI (48 + j / 10))) ∈ flatL := seg_mem dg_tt hj
theorem dg_o (j : Nat) (hj : j < 100) : Cond.eq (.elem (.static "java/lang/Integer" "DigitOnes" "[B") (.int (Int32.ofNat j))) (.int (nI (48 + j % 10))) ∈ flatL := seg_mem dg_to hj
theorem n_code (q : Int32) : ∃ c : Nat, nI c = q := by
  obtain ⟨z, rfl, h1, h2⟩ := i32z q
  by_cases hz : 0 ≤ z
  · obtain ⟨n, rfl⟩ := Int.eq_ofNat_of_zero_le hz
    exact ⟨n, (zI_nat n).symm⟩
  · obtain ⟨n, hn⟩ := Int.eq_ofNat_of_zero_le (show 0 ≤ z + 4294967296 by omega)
    refine ⟨n, ?_⟩
    rw [← zI_nat, ← hn]
    show Int32.ofInt (z + 4294967296) = Int32.ofInt z
    apply Int32.toInt_inj.mp
    rw [Int32.toInt_ofInt, Int32.toInt_ofInt]
    show Int.bmod (z + ((4294967296 : Nat) : Int)) 4294967296 = Int.bmod z 4294967296
    exact Int.add_bmod_right z 4294967296
theorem eval_same {args : Array Value} {s : State} {t1 t2 : Term} {a : Nat} (h : (Cond.eq t1 t2).before args s = true) (h1 : t1.eval args s none [] s = some (.ref a)) : t2.eval args s none [] s = some (.ref a) := by
  cases h2 : t2.eval args s none [] s with
  | none => simp [Cond.before, Cond.holds, Cond.value, h1, h2] at h
  | some w =>
    cases w with
    | ref c =>
      simp [Cond.before, Cond.holds, Cond.value, h1, h2] at h
      rw [h]
    | _ => simp [Cond.before, Cond.holds, Cond.value, h1, h2] at h

