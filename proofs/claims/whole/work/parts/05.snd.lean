/-! ===== straight stretches: an instruction is a function of the locals, the stack and the cells ===== -/
abbrev XSt : Type := AL × List Value × AW
def Snd (l : Launch) (E : XE) (Y : MI) (pc pc' : Nat) (f : XSt → Option XSt) : Prop :=
  ∀ (d mc ms : Nat) (w0 : AW) (Po : Option Value → AW → Prop) (nc ns : Nat) (lv : AL) (st : List Value) (w : AW) (lv' : AL) (st' : List Value) (w2 : AW),
    f (lv, st, w) = some (lv', st', w2) → Ev l E Y d mc ms w0 Po nc ns pc' lv' st' w2 → Ev l E Y d mc ms w0 Po nc ns pc lv st w
def xs : List (XSt → Option XSt) → XSt → Option XSt
  | [], s => some s
  | f :: fs, s => match f s with
    | some s' => xs fs s'
    | none => none
def x_push (v : Value) : XSt → Option XSt := fun s => match s with
  | (lv, st, w) => some (lv, v :: st, w)
def x_iload (i : Nat) : XSt → Option XSt := fun s => match s with
  | (lv, st, w) => match xG lv i with
    | some (.int x) => some (lv, .int x :: st, w)
    | _ => none
def x_lload (i : Nat) : XSt → Option XSt := fun s => match s with
  | (lv, st, w) => match xG lv i with
    | some (.long x) => some (lv, .long x :: st, w)
    | _ => none
def x_aload (i : Nat) : XSt → Option XSt := fun s => match s with
  | (lv, st, w) => match xG lv i with
    | some (.ref x) => some (lv, .ref x :: st, w)
    | some (.float x) => some (lv, .float x :: st, w)
    | _ => none
def x_istore (i : Nat) : XSt → Option XSt := fun s => match s with
  | (lv, .int x :: st, w) => some (xP1 lv i (.int x), st, w)
  | _ => none
def x_lstore (i : Nat) : XSt → Option XSt := fun s => match s with
  | (lv, .long x :: st, w) => some (xP2 lv i (.long x), st, w)
  | _ => none
def x_astore (i : Nat) : XSt → Option XSt := fun s => match s with
  | (lv, .ref x :: st, w) => some (xP1 lv i (.ref x), st, w)
  | _ => none
def x_iinc (i : Nat) (k : Int32) : XSt → Option XSt := fun s => match s with
  | (lv, st, w) => match xG lv i with
    | some (.int x) => some (xP1 lv i (.int (x + k)), st, w)
    | _ => none
def x_i2 (g : Int32 → Int32 → Int32) : XSt → Option XSt := fun s => match s with
  | (lv, .int y :: .int x :: st, w) => some (lv, .int (g x y) :: st, w)
  | _ => none
def x_i1 (g : Int32 → Int32) : XSt → Option XSt := fun s => match s with
  | (lv, .int x :: st, w) => some (lv, .int (g x) :: st, w)
  | _ => none
def x_l2 (g : Int64 → Int64 → Int64) : XSt → Option XSt := fun s => match s with
  | (lv, .long y :: .long x :: st, w) => some (lv, .long (g x y) :: st, w)
  | _ => none
def x_lcmp : XSt → Option XSt := fun s => match s with
  | (lv, .long y :: .long x :: st, w) => some (lv, .int (lg_cmp x y) :: st, w)
  | _ => none
def x_i2l : XSt → Option XSt := fun s => match s with
  | (lv, .int x :: st, w) => some (lv, .long x.toInt64 :: st, w)
  | _ => none
def xc1 : Value → Bool
  | .int _ => true
  | .ref _ => true
  | .float _ => true
  | .null => true
  | _ => false
def x_dup : XSt → Option XSt := fun s => match s with
  | (lv, v :: st, w) => if xc1 v then some (lv, v :: v :: st, w) else none
  | _ => none
def x_pop : XSt → Option XSt := fun s => match s with
  | (lv, v :: st, w) => if xc1 v then some (lv, st, w) else none
  | _ => none
def x_dup2 : XSt → Option XSt := fun s => match s with
  | (lv, u :: v :: st, w) => if xc1 u && xc1 v then some (lv, u :: v :: u :: v :: st, w) else none
  | _ => none
def x_get (ci k : Nat) : XSt → Option XSt := fun s => match s with
  | (lv, .ref a :: st, w) => match w[a]? with
    | some (.inr (c, fs)) => if c = ci then match fs[k]? with
      | some v => some (lv, v :: st, w)
      | none => none else none
    | _ => none
  | _ => none
def x_puti (ci k : Nat) : XSt → Option XSt := fun s => match s with
  | (lv, .int v :: .ref a :: st, w) => match w[a]? with
    | some (.inr (c, fs)) => if c = ci then (if k < fs.length then some (lv, st, w.set a (.inr (ci, fs.set k (.int v)))) else none) else none
    | _ => none
  | _ => none
def x_len : XSt → Option XSt := fun s => match s with
  | (lv, .ref a :: st, w) => match w[a]? with
    | some (.inl (0, n, .inl f)) => some (lv, .int (nI n) :: st, w)
    | some (.inl (1, n, .inl f)) => some (lv, .int (nI n) :: st, w)
    | _ => none
  | _ => none
def x_id : XSt → Option XSt := fun s => some s
section SND
variable {l : Launch} {E : XE} {Y : MI} {pc pc' p1 : Nat}
theorem Snd.nil : Snd l E Y pc pc (xs []) := by
  intro d mc ms w0 Po nc ns lv st w lv' st' w2 h k
  cases h
  exact k
theorem Snd.cons {f : XSt → Option XSt} {fs : List (XSt → Option XSt)} (h1 : Snd l E Y pc p1 f) (h2 : Snd l E Y p1 pc' (xs fs)) : Snd l E Y pc pc' (xs (f :: fs)) := by
  intro d mc ms w0 Po nc ns lv st w lv' st' w2 h k
  unfold xs at h
  cases hf : f (lv, st, w) with
  | none => rw [hf] at h; cases h
  | some s =>
    obtain ⟨lv1, st1, w1⟩ := s
    rw [hf] at h
    exact h1 d mc ms w0 Po nc ns lv st w lv1 st1 w1 hf (h2 d mc ms w0 Po nc ns lv1 st1 w1 lv' st' w2 h k)
theorem ev_b {f : XSt → Option XSt} (h : Snd l E Y pc pc' f) {d mc ms : Nat} {w0 : AW} {Po : Option Value → AW → Prop} {nc ns : Nat} {lv : AL} {st : List Value} {w : AW} {lv' : AL} {st' : List Value} {w2 : AW} (e : f (lv, st, w) = some (lv', st', w2)) (k : Ev l E Y d mc ms w0 Po nc ns pc' lv' st' w2) : Ev l E Y d mc ms w0 Po nc ns pc lv st w :=
  h d mc ms w0 Po nc ns lv st w lv' st' w2 e k
theorem xc1_cat {v : Value} (h : xc1 v = true) : v.category = 1 := by cases v <;> first | rfl | cases h
/-- the pattern of all: open the judgement, take one kit row -/
theorem snd_iconst {n : Int} {v : Int32} (hd : decode Y.2.1 pc = .ok (.iconst n, 1)) (hv : Int32.ofInt n = v) : Snd l E Y pc (pc + 1) (x_push (.int v)) := by
  intro d mc ms w0 Po nc ns lv st w lv' st' w2 h k p e s m args below meth c ad0 ad H locs ls C ha0 ha hP hD hS hl
  cases h
  exact lv_iconst C.1 C.2.1 hd hv (k p e s m args below meth c ad0 ad H locs ls C ha0 ha hP hD hS hl)
theorem snd_bipush {n : Int} {v : Int32} (hd : decode Y.2.1 pc = .ok (.bipush n, 2)) (hv : (Int8.ofInt n).toInt32 = v) : Snd l E Y pc (pc + 2) (x_push (.int v)) := by
  intro d mc ms w0 Po nc ns lv st w lv' st' w2 h k p e s m args below meth c ad0 ad H locs ls C ha0 ha hP hD hS hl
  cases h
  exact lv_bipush C.1 C.2.1 hd hv (k p e s m args below meth c ad0 ad H locs ls C ha0 ha hP hD hS hl)
theorem snd_sipush {n : Int} {v : Int32} (hd : decode Y.2.1 pc = .ok (.sipush n, 3)) (hv : (Int16.ofInt n).toInt32 = v) : Snd l E Y pc (pc + 3) (x_push (.int v)) := by
  intro d mc ms w0 Po nc ns lv st w lv' st' w2 h k p e s m args below meth c ad0 ad H locs ls C ha0 ha hP hD hS hl
  cases h
  exact lv_sipush C.1 C.2.1 hd hv (k p e s m args below meth c ad0 ad H locs ls C ha0 ha hP hD hS hl)
theorem snd_lconst {n : Fin 2} {v : Int64} (hd : decode Y.2.1 pc = .ok (.lconst n, 1)) (hv : Int64.ofNat (n : Nat) = v) : Snd l E Y pc (pc + 1) (x_push (.long v)) := by
  intro d mc ms w0 Po nc ns lv st w lv' st' w2 h k p e s m args below meth c ad0 ad H locs ls C ha0 ha hP hD hS hl
  cases h
  exact lv_lconst C.1 C.2.1 hd hv (k p e s m args below meth c ad0 ad H locs ls C ha0 ha hP hD hS hl)
theorem snd_ldc {i : Nat} {v : Int32} (hd : decode Y.2.1 pc = .ok (.ldc i, 2)) (hw : (.constant Y.1.cls i v : Cond) ∈ tbl) : Snd l E Y pc (pc + 2) (x_push (.int v)) := by
  intro d mc ms w0 Po nc ns lv st w lv' st' w2 h k p e s m args below meth c ad0 ad H locs ls C ha0 ha hP hD hS hl
  cases h
  exact lv_ldc C.1 C.2.1 C.2.2.2.2.1 (C.2.2.2.2.2.1 _ (List.mem_cons_of_mem _ hw)) hd (k p e s m args below meth c ad0 ad H locs ls C ha0 ha hP hD hS hl)
theorem snd_ldcw {i : Nat} {v : Int32} (hd : decode Y.2.1 pc = .ok (.ldc_w i, 3)) (hw : (.constant Y.1.cls i v : Cond) ∈ tbl) : Snd l E Y pc (pc + 3) (x_push (.int v)) := by
  intro d mc ms w0 Po nc ns lv st w lv' st' w2 h k p e s m args below meth c ad0 ad H locs ls C ha0 ha hP hD hS hl
  cases h
  exact lv_ldcw C.1 C.2.1 C.2.2.2.2.1 (C.2.2.2.2.2.1 _ (List.mem_cons_of_mem _ hw)) hd (k p e s m args below meth c ad0 ad H locs ls C ha0 ha hP hD hS hl)
theorem snd_ldc2 {i : Nat} {v : Int64} (hd : decode Y.2.1 pc = .ok (.ldc2_w i, 3)) (hw : (.constantLong Y.1.cls i v : Cond) ∈ tbl) : Snd l E Y pc (pc + 3) (x_push (.long v)) := by
  intro d mc ms w0 Po nc ns lv st w lv' st' w2 h k p e s m args below meth c ad0 ad H locs ls C ha0 ha hP hD hS hl
  cases h
  exact lv_ldc2 C.1 C.2.1 C.2.2.2.2.1 (C.2.2.2.2.2.1 _ (List.mem_cons_of_mem _ hw)) hd (k p e s m args below meth c ad0 ad H locs ls C ha0 ha hP hD hS hl)
theorem snd_ldcS {i q : Nat} {tx : String} {b : UInt32} (hd : decode Y.2.1 pc = .ok (.ldc i, 2)) (hw : (Y.1.cls, i, tx, b.toNat) ∈ sRefs) : Snd l E Y pc (pc + 2) (x_push (.float b)) := by
  intro d mc ms w0 Po nc ns lv st w lv' st' w2 h k p e s m args below meth c ad0 ad H locs ls C ha0 ha hP hD hS hl
  cases h
  exact va_ldcS C.1 C.2.1 C.2.2.2.2.1 (C.2.2.2.2.2.2.2.2.2.1.2 _ hw) hd (k p e s m args below meth c ad0 ad H locs ls C ha0 ha hP hD hS hl)
theorem snd_null (hd : decode Y.2.1 pc = .ok (.aconst_null, 1)) : Snd l E Y pc (pc + 1) (x_push .null) := by
  intro d mc ms w0 Po nc ns lv st w lv' st' w2 h k p e s m args below meth c ad0 ad H locs ls C ha0 ha hP hD hS hl
  cases h
  exact lv_null C.1 C.2.1 hd (k p e s m args below meth c ad0 ad H locs ls C ha0 ha hP hD hS hl)
theorem snd_iload_n {q : Fin 4} {i : Nat} (hd : decode Y.2.1 pc = .ok (.iload_n q, 1)) (hi : (q : Nat) = i) : Snd l E Y pc (pc + 1) (x_iload i) := by
  intro d mc ms w0 Po nc ns lv st w lv' st' w2 h k p e s m args below meth c ad0 ad H locs ls C ha0 ha hP hD hS hl
  unfold x_iload at h
  try dsimp only at h
  split at h
  · rename_i x hx
    cases h
    exact lv_iload_n C.1 C.2.1 hd hi (xG_at hl hx) (k p e s m args below meth c ad0 ad H locs ls C ha0 ha hP hD hS hl)
  · cases h
theorem snd_iload {i : Nat} (hd : decode Y.2.1 pc = .ok (.iload i, 2)) : Snd l E Y pc (pc + 2) (x_iload i) := by
  intro d mc ms w0 Po nc ns lv st w lv' st' w2 h k p e s m args below meth c ad0 ad H locs ls C ha0 ha hP hD hS hl
  unfold x_iload at h
  try dsimp only at h
  split at h
  · rename_i x hx
    cases h
    exact lv_iload C.1 C.2.1 hd (xG_at hl hx) (k p e s m args below meth c ad0 ad H locs ls C ha0 ha hP hD hS hl)
  · cases h
theorem snd_lload_n {q : Fin 4} {i : Nat} (hd : decode Y.2.1 pc = .ok (.lload_n q, 1)) (hi : (q : Nat) = i) : Snd l E Y pc (pc + 1) (x_lload i) := by
  intro d mc ms w0 Po nc ns lv st w lv' st' w2 h k p e s m args below meth c ad0 ad H locs ls C ha0 ha hP hD hS hl
  unfold x_lload at h
  try dsimp only at h
  split at h
  · rename_i x hx
    cases h
    exact lv_lload_n C.1 C.2.1 hd hi (xG_at hl hx) (k p e s m args below meth c ad0 ad H locs ls C ha0 ha hP hD hS hl)
  · cases h
theorem snd_lload {i : Nat} (hd : decode Y.2.1 pc = .ok (.lload i, 2)) : Snd l E Y pc (pc + 2) (x_lload i) := by
  intro d mc ms w0 Po nc ns lv st w lv' st' w2 h k p e s m args below meth c ad0 ad H locs ls C ha0 ha hP hD hS hl
  unfold x_lload at h
  try dsimp only at h
  split at h
  · rename_i x hx
    cases h
    exact lv_lload C.1 C.2.1 hd (xG_at hl hx) (k p e s m args below meth c ad0 ad H locs ls C ha0 ha hP hD hS hl)
  · cases h
theorem snd_aload_n {q : Fin 4} {i : Nat} (hd : decode Y.2.1 pc = .ok (.aload_n q, 1)) (hi : (q : Nat) = i) : Snd l E Y pc (pc + 1) (x_aload i) := by
  intro d mc ms w0 Po nc ns lv st w lv' st' w2 h k p e s m args below meth c ad0 ad H locs ls C ha0 ha hP hD hS hl
  unfold x_aload at h
  try dsimp only at h
  split at h
  · rename_i x hx
    cases h
    exact lv_aload_n C.1 C.2.1 hd hi (xG_at hl hx) (k p e s m args below meth c ad0 ad H locs ls C ha0 ha hP hD hS hl)
  · rename_i x hx
    cases h
    exact lv_aload_n C.1 C.2.1 hd hi (xG_at hl hx) (k p e s m args below meth c ad0 ad H locs ls C ha0 ha hP hD hS hl)
  · cases h
theorem snd_aload {i : Nat} (hd : decode Y.2.1 pc = .ok (.aload i, 2)) : Snd l E Y pc (pc + 2) (x_aload i) := by
  intro d mc ms w0 Po nc ns lv st w lv' st' w2 h k p e s m args below meth c ad0 ad H locs ls C ha0 ha hP hD hS hl
  unfold x_aload at h
  try dsimp only at h
  split at h
  · rename_i x hx
    cases h
    exact lv_aload C.1 C.2.1 hd (xG_at hl hx) (k p e s m args below meth c ad0 ad H locs ls C ha0 ha hP hD hS hl)
  · rename_i x hx
    cases h
    exact lv_aload C.1 C.2.1 hd (xG_at hl hx) (k p e s m args below meth c ad0 ad H locs ls C ha0 ha hP hD hS hl)
  · cases h
theorem snd_istore_n {q : Fin 4} {i : Nat} (hd : decode Y.2.1 pc = .ok (.istore_n q, 1)) (hi : (q : Nat) = i) (hn : i < Y.2.2.1) : Snd l E Y pc (pc + 1) (x_istore i) := by
  intro d mc ms w0 Po nc ns lv st w lv' st' w2 h k p e s m args below meth c ad0 ad H locs ls C ha0 ha hP hD hS hl
  unfold x_istore at h
  try dsimp only at h
  split at h
  · rename_i heq
    cases heq
    cases h
    exact lv_istore_n C.1 C.2.1 hd hi hl hn (xL_P1 (v := .int _)) (fun ls hl => k p e s m args below meth c ad0 ad H locs ls C ha0 ha hP hD hS hl)
  · cases h
theorem snd_istore {i : Nat} (hd : decode Y.2.1 pc = .ok (.istore i, 2)) (hn : i < Y.2.2.1) : Snd l E Y pc (pc + 2) (x_istore i) := by
  intro d mc ms w0 Po nc ns lv st w lv' st' w2 h k p e s m args below meth c ad0 ad H locs ls C ha0 ha hP hD hS hl
  unfold x_istore at h
  try dsimp only at h
  split at h
  · rename_i heq
    cases heq
    cases h
    exact lv_istore C.1 C.2.1 hd hl hn (xL_P1 (v := .int _)) (fun ls hl => k p e s m args below meth c ad0 ad H locs ls C ha0 ha hP hD hS hl)
  · cases h
theorem snd_lstore_n {q : Fin 4} {i : Nat} (hd : decode Y.2.1 pc = .ok (.lstore_n q, 1)) (hi : (q : Nat) = i) (hn : i + 1 < Y.2.2.1) : Snd l E Y pc (pc + 1) (x_lstore i) := by
  intro d mc ms w0 Po nc ns lv st w lv' st' w2 h k p e s m args below meth c ad0 ad H locs ls C ha0 ha hP hD hS hl
  unfold x_lstore at h
  try dsimp only at h
  split at h
  · rename_i heq
    cases heq
    cases h
    exact lv_lstore_n C.1 C.2.1 hd hi hl hn (xL_P2 (v := .long _)) (fun ls hl => k p e s m args below meth c ad0 ad H locs ls C ha0 ha hP hD hS hl)
  · cases h
theorem snd_lstore {i : Nat} (hd : decode Y.2.1 pc = .ok (.lstore i, 2)) (hn : i + 1 < Y.2.2.1) : Snd l E Y pc (pc + 2) (x_lstore i) := by
  intro d mc ms w0 Po nc ns lv st w lv' st' w2 h k p e s m args below meth c ad0 ad H locs ls C ha0 ha hP hD hS hl
  unfold x_lstore at h
  try dsimp only at h
  split at h
  · rename_i heq
    cases heq
    cases h
    exact lv_lstore C.1 C.2.1 hd hl hn (xL_P2 (v := .long _)) (fun ls hl => k p e s m args below meth c ad0 ad H locs ls C ha0 ha hP hD hS hl)
  · cases h
theorem snd_astore_n {q : Fin 4} {i : Nat} (hd : decode Y.2.1 pc = .ok (.astore_n q, 1)) (hi : (q : Nat) = i) (hn : i < Y.2.2.1) : Snd l E Y pc (pc + 1) (x_astore i) := by
  intro d mc ms w0 Po nc ns lv st w lv' st' w2 h k p e s m args below meth c ad0 ad H locs ls C ha0 ha hP hD hS hl
  unfold x_astore at h
  try dsimp only at h
  split at h
  · rename_i heq
    cases heq
    cases h
    exact lv_astore_n C.1 C.2.1 hd hi hl hn (xL_P1 (v := .ref _)) (fun ls hl => k p e s m args below meth c ad0 ad H locs ls C ha0 ha hP hD hS hl)
  · cases h
theorem snd_astore {i : Nat} (hd : decode Y.2.1 pc = .ok (.astore i, 2)) (hn : i < Y.2.2.1) : Snd l E Y pc (pc + 2) (x_astore i) := by
  intro d mc ms w0 Po nc ns lv st w lv' st' w2 h k p e s m args below meth c ad0 ad H locs ls C ha0 ha hP hD hS hl
  unfold x_astore at h
  try dsimp only at h
  split at h
  · rename_i heq
    cases heq
    cases h
    exact lv_astore C.1 C.2.1 hd hl hn (xL_P1 (v := .ref _)) (fun ls hl => k p e s m args below meth c ad0 ad H locs ls C ha0 ha hP hD hS hl)
  · cases h
theorem snd_iinc {i : Nat} {n : Int} {v : Int32} (hd : decode Y.2.1 pc = .ok (.iinc i n, 3)) (hv : Int32.ofInt n = v) (hn : i < Y.2.2.1) : Snd l E Y pc (pc + 3) (x_iinc i v) := by
  intro d mc ms w0 Po nc ns lv st w lv' st' w2 h k p e s m args below meth c ad0 ad H locs ls C ha0 ha hP hD hS hl
  unfold x_iinc at h
  try dsimp only at h
  split at h
  · rename_i x hx
    cases h
    obtain ⟨j, hj⟩ := List.getElem?_of_mem (List.mem_map.mpr ⟨(i, Value.int x), xG_mem hx, rfl⟩ : (i, Value.int x) ∈ xL E ad lv)
    exact lv_iinc C.1 C.2.1 hd hl hj (by rw [hv]) hn (xL_P1 (v := .int _)) (fun ls hl => k p e s m args below meth c ad0 ad H locs ls C ha0 ha hP hD hS hl)
  · cases h
theorem snd_iadd (hd : decode Y.2.1 pc = .ok (.iadd, 1)) : Snd l E Y pc (pc + 1) (x_i2 (fun x y => x + y)) := by
  intro d mc ms w0 Po nc ns lv st w lv' st' w2 h k p e s m args below meth c ad0 ad H locs ls C ha0 ha hP hD hS hl
  unfold x_i2 at h
  try dsimp only at h
  split at h
  · rename_i heq
    cases heq
    cases h
    exact lv_iadd C.1 C.2.1 hd (k p e s m args below meth c ad0 ad H locs ls C ha0 ha hP hD hS hl)
  · cases h
theorem snd_isub (hd : decode Y.2.1 pc = .ok (.isub, 1)) : Snd l E Y pc (pc + 1) (x_i2 (fun x y => x - y)) := by
  intro d mc ms w0 Po nc ns lv st w lv' st' w2 h k p e s m args below meth c ad0 ad H locs ls C ha0 ha hP hD hS hl
  unfold x_i2 at h
  try dsimp only at h
  split at h
  · rename_i heq
    cases heq
    cases h
    exact lv_isub C.1 C.2.1 hd (k p e s m args below meth c ad0 ad H locs ls C ha0 ha hP hD hS hl)
  · cases h
theorem snd_imul (hd : decode Y.2.1 pc = .ok (.imul, 1)) : Snd l E Y pc (pc + 1) (x_i2 (fun x y => x * y)) := by
  intro d mc ms w0 Po nc ns lv st w lv' st' w2 h k p e s m args below meth c ad0 ad H locs ls C ha0 ha hP hD hS hl
  unfold x_i2 at h
  try dsimp only at h
  split at h
  · rename_i heq
    cases heq
    cases h
    exact lv_imul C.1 C.2.1 hd (k p e s m args below meth c ad0 ad H locs ls C ha0 ha hP hD hS hl)
  · cases h
theorem snd_iand (hd : decode Y.2.1 pc = .ok (.iand, 1)) : Snd l E Y pc (pc + 1) (x_i2 (fun x y => x &&& y)) := by
  intro d mc ms w0 Po nc ns lv st w lv' st' w2 h k p e s m args below meth c ad0 ad H locs ls C ha0 ha hP hD hS hl
  unfold x_i2 at h
  try dsimp only at h
  split at h
  · rename_i heq
    cases heq
    cases h
    exact lv_iand C.1 C.2.1 hd (k p e s m args below meth c ad0 ad H locs ls C ha0 ha hP hD hS hl)
  · cases h
theorem snd_ior (hd : decode Y.2.1 pc = .ok (.ior, 1)) : Snd l E Y pc (pc + 1) (x_i2 (fun x y => x ||| y)) := by
  intro d mc ms w0 Po nc ns lv st w lv' st' w2 h k p e s m args below meth c ad0 ad H locs ls C ha0 ha hP hD hS hl
  unfold x_i2 at h
  try dsimp only at h
  split at h
  · rename_i heq
    cases heq
    cases h
    exact lv_ior C.1 C.2.1 hd (k p e s m args below meth c ad0 ad H locs ls C ha0 ha hP hD hS hl)
  · cases h
theorem snd_ixor (hd : decode Y.2.1 pc = .ok (.ixor, 1)) : Snd l E Y pc (pc + 1) (x_i2 (fun x y => x ^^^ y)) := by
  intro d mc ms w0 Po nc ns lv st w lv' st' w2 h k p e s m args below meth c ad0 ad H locs ls C ha0 ha hP hD hS hl
  unfold x_i2 at h
  try dsimp only at h
  split at h
  · rename_i heq
    cases heq
    cases h
    exact lv_ixor C.1 C.2.1 hd (k p e s m args below meth c ad0 ad H locs ls C ha0 ha hP hD hS hl)
  · cases h
theorem snd_ishl (hd : decode Y.2.1 pc = .ok (.ishl, 1)) : Snd l E Y pc (pc + 1) (x_i2 (fun x y => x <<< (y &&& 31))) := by
  intro d mc ms w0 Po nc ns lv st w lv' st' w2 h k p e s m args below meth c ad0 ad H locs ls C ha0 ha hP hD hS hl
  unfold x_i2 at h
  try dsimp only at h
  split at h
  · rename_i heq
    cases heq
    cases h
    exact lv_ishl C.1 C.2.1 hd (k p e s m args below meth c ad0 ad H locs ls C ha0 ha hP hD hS hl)
  · cases h
theorem snd_ishr (hd : decode Y.2.1 pc = .ok (.ishr, 1)) : Snd l E Y pc (pc + 1) (x_i2 (fun x y => x >>> (y &&& 31))) := by
  intro d mc ms w0 Po nc ns lv st w lv' st' w2 h k p e s m args below meth c ad0 ad H locs ls C ha0 ha hP hD hS hl
  unfold x_i2 at h
  try dsimp only at h
  split at h
  · rename_i heq
    cases heq
    cases h
    exact lv_ishr C.1 C.2.1 hd (k p e s m args below meth c ad0 ad H locs ls C ha0 ha hP hD hS hl)
  · cases h
theorem snd_ladd (hd : decode Y.2.1 pc = .ok (.ladd, 1)) : Snd l E Y pc (pc + 1) (x_l2 (fun x y => x + y)) := by
  intro d mc ms w0 Po nc ns lv st w lv' st' w2 h k p e s m args below meth c ad0 ad H locs ls C ha0 ha hP hD hS hl
  unfold x_l2 at h
  try dsimp only at h
  split at h
  · rename_i heq
    cases heq
    cases h
    exact lv_ladd C.1 C.2.1 hd (k p e s m args below meth c ad0 ad H locs ls C ha0 ha hP hD hS hl)
  · cases h
theorem snd_lsub (hd : decode Y.2.1 pc = .ok (.lsub, 1)) : Snd l E Y pc (pc + 1) (x_l2 (fun x y => x - y)) := by
  intro d mc ms w0 Po nc ns lv st w lv' st' w2 h k p e s m args below meth c ad0 ad H locs ls C ha0 ha hP hD hS hl
  unfold x_l2 at h
  try dsimp only at h
  split at h
  · rename_i heq
    cases heq
    cases h
    exact lv_lsub C.1 C.2.1 hd (k p e s m args below meth c ad0 ad H locs ls C ha0 ha hP hD hS hl)
  · cases h
theorem snd_lmul (hd : decode Y.2.1 pc = .ok (.lmul, 1)) : Snd l E Y pc (pc + 1) (x_l2 (fun x y => x * y)) := by
  intro d mc ms w0 Po nc ns lv st w lv' st' w2 h k p e s m args below meth c ad0 ad H locs ls C ha0 ha hP hD hS hl
  unfold x_l2 at h
  try dsimp only at h
  split at h
  · rename_i heq
    cases heq
    cases h
    exact lv_lmul C.1 C.2.1 hd (k p e s m args below meth c ad0 ad H locs ls C ha0 ha hP hD hS hl)
  · cases h
theorem snd_iushr (hd : decode Y.2.1 pc = .ok (.iushr, 1)) : Snd l E Y pc (pc + 1) (x_i2 (fun x y => (x.toUInt32 >>> (y.toUInt32 &&& Int32.toUInt32 31)).toInt32)) := by
  intro d mc ms w0 Po nc ns lv st w lv' st' w2 h k p e s m args below meth c ad0 ad H locs ls C ha0 ha hP hD hS hl
  unfold x_i2 at h
  try dsimp only at h
  split at h
  · rename_i heq
    cases heq
    cases h
    exact lv_iushr C.1 C.2.1 hd rfl (k p e s m args below meth c ad0 ad H locs ls C ha0 ha hP hD hS hl)
  · cases h
theorem snd_ineg (hd : decode Y.2.1 pc = .ok (.ineg, 1)) : Snd l E Y pc (pc + 1) (x_i1 (fun x => -x)) := by
  intro d mc ms w0 Po nc ns lv st w lv' st' w2 h k p e s m args below meth c ad0 ad H locs ls C ha0 ha hP hD hS hl
  unfold x_i1 at h
  try dsimp only at h
  split at h
  · rename_i heq
    cases heq
    cases h
    exact lv_ineg C.1 C.2.1 hd (k p e s m args below meth c ad0 ad H locs ls C ha0 ha hP hD hS hl)
  · cases h
theorem snd_lcmp (hd : decode Y.2.1 pc = .ok (.lcmp, 1)) : Snd l E Y pc (pc + 1) x_lcmp := by
  intro d mc ms w0 Po nc ns lv st w lv' st' w2 h k p e s m args below meth c ad0 ad H locs ls C ha0 ha hP hD hS hl
  unfold x_lcmp at h
  try dsimp only at h
  split at h
  · rename_i heq
    cases heq
    cases h
    exact W.lcmp C.1 C.2.1 hd (k p e s m args below meth c ad0 ad H locs ls C ha0 ha hP hD hS hl)
  · cases h
theorem snd_i2l (hd : decode Y.2.1 pc = .ok (.i2l, 1)) : Snd l E Y pc (pc + 1) x_i2l := by
  intro d mc ms w0 Po nc ns lv st w lv' st' w2 h k p e s m args below meth c ad0 ad H locs ls C ha0 ha hP hD hS hl
  unfold x_i2l at h
  try dsimp only at h
  split at h
  · rename_i heq
    cases heq
    cases h
    exact lv_i2l C.1 C.2.1 hd rfl (k p e s m args below meth c ad0 ad H locs ls C ha0 ha hP hD hS hl)
  · cases h
theorem snd_dup (hd : decode Y.2.1 pc = .ok (.dup, 1)) : Snd l E Y pc (pc + 1) x_dup := by
  intro d mc ms w0 Po nc ns lv st w lv' st' w2 h k p e s m args below meth c ad0 ad H locs ls C ha0 ha hP hD hS hl
  unfold x_dup at h
  try dsimp only at h
  split at h
  · rename_i heq
    cases heq
    split at h
    · rename_i hc
      cases h
      exact lv_dup C.1 C.2.1 hd (by rw [xV_cat]; exact xc1_cat hc) (k p e s m args below meth c ad0 ad H locs ls C ha0 ha hP hD hS hl)
    · cases h
  · cases h
theorem snd_pop (hd : decode Y.2.1 pc = .ok (.pop, 1)) : Snd l E Y pc (pc + 1) x_pop := by
  intro d mc ms w0 Po nc ns lv st w lv' st' w2 h k p e s m args below meth c ad0 ad H locs ls C ha0 ha hP hD hS hl
  unfold x_pop at h
  try dsimp only at h
  split at h
  · rename_i heq
    cases heq
    split at h
    · rename_i hc
      cases h
      exact lv_pop C.1 C.2.1 hd (by rw [xV_cat]; exact xc1_cat hc) (k p e s m args below meth c ad0 ad H locs ls C ha0 ha hP hD hS hl)
    · cases h
  · cases h
theorem snd_dup2 (hd : decode Y.2.1 pc = .ok (.dup2, 1)) : Snd l E Y pc (pc + 1) x_dup2 := by
  intro d mc ms w0 Po nc ns lv st w lv' st' w2 h k p e s m args below meth c ad0 ad H locs ls C ha0 ha hP hD hS hl
  unfold x_dup2 at h
  try dsimp only at h
  split at h
  · rename_i heq
    cases heq
    split at h
    · rename_i hc
      rw [Bool.and_eq_true] at hc
      cases h
      exact lv_dup2_11 C.1 C.2.1 hd (by rw [xV_cat]; exact xc1_cat hc.1) (by rw [xV_cat]; exact xc1_cat hc.2) (k p e s m args below meth c ad0 ad H locs ls C ha0 ha hP hD hS hl)
    · cases h
  · cases h
theorem snd_goto {off : Int} {tgt : Nat} (hd : decode Y.2.1 pc = .ok (.goto off, 3)) (ht : (pc : Int) + off = (tgt : Int)) : Snd l E Y pc tgt x_id := by
  intro d mc ms w0 Po nc ns lv st w lv' st' w2 h k p e s m args below meth c ad0 ad H locs ls C ha0 ha hP hD hS hl
  cases h
  exact lv_goto C.1 C.2.1 hd ht (k p e s m args below meth c ad0 ad H locs ls C ha0 ha hP hD hS hl)
theorem xfind {s : State} {x : String × String × String × Bool} {ref : String} (h : x.1 = ref) : ∀ y, s.fieldFound? x.1 x.2.1 x.2.2.1 = some y → s.fieldFound? ref x.2.1 x.2.2.1 = some y := by
  subst h
  exact fun _ h => h
theorem snd_get {C0 : String} {T : u_T} {N ci i k : Nat} (hd : decode Y.2.1 pc = .ok (.getfield i, 3)) (hc : vwCl[ci]? = some (C0, T, N)) (hin : ∀ w ∈ u_ws C0 T N, w ∈ tbl) (hk : k < N) (hlink : (.fieldLink Y.1.cls i (T k).1 (T k).2.1 (T k).2.2.1 : Cond) ∈ tbl) : Snd l E Y pc (pc + 3) (x_get ci k) := by
  intro d mc ms w0 Po nc ns lv st w lv' st' w2 h kk p e s m args below meth c ad0 ad H locs ls C ha0 ha hP hD hS hl
  unfold x_get at h
  try dsimp only at h
  split at h
  · rename_i heq
    cases heq
    split at h
    · rename_i c1 fs hw
      split at h
      · rename_i hci
        subst hci
        split at h
        · rename_i v hv
          cases h
          obtain ⟨hx, hb, hr, hml, hown, hts, hlk, hnm, hK, hXS, hXN⟩ := id C
          exact va_get hx hb hts (fun w hw => List.mem_cons_of_mem _ (hin w hw)) hown hK hP _ (xW_at hw) hc k hk (hts _ (List.mem_cons_of_mem _ hlink)) (fun _ h => h) (v := xV E ad v) (by rw [List.getElem?_map, hv]; rfl) hd (kk p e s m args below meth c ad0 ad H locs ls C ha0 ha hP hD hS hl)
        · cases h
      · cases h
    · cases h
  · cases h
theorem snd_getN {C0 host : String} {T : u_T} {N ci i k : Nat} (hd : decode Y.2.1 pc = .ok (.getfield i, 3)) (hc : vwCl[ci]? = some (C0, T, N)) (hin : ∀ w ∈ u_ws C0 T N, w ∈ tbl) (hk : k < N) (hlink : (.fieldLinkNest Y.1.cls i (T k).1 (T k).2.1 (T k).2.2.1 host : Cond) ∈ tbn) : Snd l E Y pc (pc + 3) (x_get ci k) := by
  intro d mc ms w0 Po nc ns lv st w lv' st' w2 h kk p e s m args below meth c ad0 ad H locs ls C ha0 ha hP hD hS hl
  unfold x_get at h
  try dsimp only at h
  split at h
  · rename_i heq
    cases heq
    split at h
    · rename_i c1 fs hw
      split at h
      · rename_i hci
        subst hci
        split at h
        · rename_i v hv
          cases h
          obtain ⟨hx, hb, hr, hml, hown, hts, hlk, hnm, hK, hXS, hXN⟩ := id C
          exact va_getN hx hb hts (fun w hw => List.mem_cons_of_mem _ (hin w hw)) hown hK hP _ (xW_at hw) hc k hk (va_Nw.use rfl (hXN _ hlink)) (fun _ h => h) (v := xV E ad v) (by rw [List.getElem?_map, hv]; rfl) hd (kk p e s m args below meth c ad0 ad H locs ls C ha0 ha hP hD hS hl)
        · cases h
      · cases h
    · cases h
  · cases h
theorem xV_int {E : XE} {ad : Nat → Nat} {v : Value} (h : fits .int v = true) : xV E ad v = v := by cases v <;> first | rfl | cases h
/-- a field of numbers; 'tyk' is int or boolean, the value fits -/
theorem snd_put {C0 : String} {T : u_T} {ty0 : Nat → FieldType} {N ci i k : Nat} (hd : decode Y.2.1 pc = .ok (.putfield i, 3)) (hc : vwCl[ci]? = some (C0, T, N)) (hin : ∀ w ∈ u_ws C0 T N, w ∈ tbl) (hty : ∀ k, k < N → parseFieldDescriptor (T k).2.2.1 = some (ty0 k)) (hnm : ∀ a, a < N → ∀ b, b < N → a ≠ b → (T a).2.1 ≠ (T b).2.1) (hk : k < N) (hlink : (.fieldLink Y.1.cls i (T k).1 (T k).2.1 (T k).2.2.1 : Cond) ∈ tbl) (hfin : (T k).2.2.2 = false)
    {d mc ms : Nat} {w0 : AW} {Po : Option Value → AW → Prop} {nc ns : Nat} {lv : AL} {st : List Value} {w : AW} {a : Nat} {fs : List Value} {v : Value} (hw : w[a]? = some (.inr (ci, fs))) (hl : k < fs.length) (hn : ∀ ad, narrow (ty0 k) (xV E ad v) = xV E ad v) (hf : ∀ ad, fits (ty0 k) (xV E ad v) = true)
    (kk : Ev l E Y d mc ms w0 Po nc ns (pc + 3) lv st (w.set a (.inr (ci, fs.set k v)))) : Ev l E Y d mc ms w0 Po nc ns pc lv (v :: .ref a :: st) w := by
  intro p e s m args below meth c ad0 ad H locs ls C ha0 ha hP hD hS hls
  obtain ⟨hx, hb, hr, hml, hown, hts, hlk, hnm2, hK, hXS, hXN⟩ := id C
  refine va_put hx hb hts (fun w hw => List.mem_cons_of_mem _ (hin w hw)) ty0 hty hnm hown hK hP hD hS a (xW_at hw) hc k hk (hts _ (List.mem_cons_of_mem _ hlink)) (fun _ h => h) hfin (v := xV E ad v) (hty k hk) (hn ad) (hf ad) (by rw [List.length_map]; exact hl) hd (fun H1 locs1 hP1 hD1 hS1 => ?_)
  have he : (xW E ad w).set a (ad a, Sum.inr (ci, (fs.map (xV E ad)).set k (xV E ad v))) = xW E ad (w.set a (.inr (ci, fs.set k v))) := by
    rw [← List.map_set]
    exact xW_set (e := .inr (ci, fs.set k v))
  rw [he] at hP1 hD1
  exact kk p e s m args below meth c ad0 ad H1 locs1 ls C ha0 ha hP1 hD1 hS1 hls
theorem snd_putN {C0 host : String} {T : u_T} {ty0 : Nat → FieldType} {N ci i k : Nat} (hd : decode Y.2.1 pc = .ok (.putfield i, 3)) (hc : vwCl[ci]? = some (C0, T, N)) (hin : ∀ w ∈ u_ws C0 T N, w ∈ tbl) (hty : ∀ k, k < N → parseFieldDescriptor (T k).2.2.1 = some (ty0 k)) (hnm : ∀ a, a < N → ∀ b, b < N → a ≠ b → (T a).2.1 ≠ (T b).2.1) (hk : k < N) (hlink : (.fieldLinkNest Y.1.cls i (T k).1 (T k).2.1 (T k).2.2.1 host : Cond) ∈ tbn) (hfin : (T k).2.2.2 = false)
    {d mc ms : Nat} {w0 : AW} {Po : Option Value → AW → Prop} {nc ns : Nat} {lv : AL} {st : List Value} {w : AW} {a : Nat} {fs : List Value} {v : Value} (hw : w[a]? = some (.inr (ci, fs))) (hl : k < fs.length) (hn : ∀ ad, narrow (ty0 k) (xV E ad v) = xV E ad v) (hf : ∀ ad, fits (ty0 k) (xV E ad v) = true)
    (kk : Ev l E Y d mc ms w0 Po nc ns (pc + 3) lv st (w.set a (.inr (ci, fs.set k v)))) : Ev l E Y d mc ms w0 Po nc ns pc lv (v :: .ref a :: st) w := by
  intro p e s m args below meth c ad0 ad H locs ls C ha0 ha hP hD hS hls
  obtain ⟨hx, hb, hr, hml, hown, hts, hlk, hnm2, hK, hXS, hXN⟩ := id C
  refine va_putN hx hb hts (fun w hw => List.mem_cons_of_mem _ (hin w hw)) ty0 hty hnm hown hK hP hD hS a (xW_at hw) hc k hk (va_Nw.use rfl (hXN _ hlink)) (fun _ h => h) hfin (v := xV E ad v) (hty k hk) (hn ad) (hf ad) (by rw [List.length_map]; exact hl) hd (fun H1 locs1 hP1 hD1 hS1 => ?_)
  have he : (xW E ad w).set a (ad a, Sum.inr (ci, (fs.map (xV E ad)).set k (xV E ad v))) = xW E ad (w.set a (.inr (ci, fs.set k v))) := by
    rw [← List.map_set]
    exact xW_set (e := .inr (ci, fs.set k v))
  rw [he] at hP1 hD1
  exact kk p e s m args below meth c ad0 ad H1 locs1 ls C ha0 ha hP1 hD1 hS1 hls
/-- a final field, in the constructor of its own class -/
theorem snd_putF {C0 : String} {T : u_T} {ty0 : Nat → FieldType} {N ci i k : Nat} (hd : decode Y.2.1 pc = .ok (.putfield i, 3)) (hc : vwCl[ci]? = some (C0, T, N)) (hin : ∀ w ∈ u_ws C0 T N, w ∈ tbl) (hty : ∀ k, k < N → parseFieldDescriptor (T k).2.2.1 = some (ty0 k)) (hnm : ∀ a, a < N → ∀ b, b < N → a ≠ b → (T a).2.1 ≠ (T b).2.1) (hk : k < N) (hlink : (.fieldLink Y.1.cls i (T k).1 (T k).2.1 (T k).2.2.1 : Cond) ∈ tbl) (hfin : (T k).2.2.2 = true) (hini : Y.1.name = "<init>") (hdecl : (T k).1 = Y.1.cls)
    {d mc ms : Nat} {w0 : AW} {Po : Option Value → AW → Prop} {nc ns : Nat} {lv : AL} {st : List Value} {w : AW} {a : Nat} {fs : List Value} {v : Value} (hw : w[a]? = some (.inr (ci, fs))) (hl : k < fs.length) (hn : ∀ ad, narrow (ty0 k) (xV E ad v) = xV E ad v) (hf : ∀ ad, fits (ty0 k) (xV E ad v) = true)
    (kk : Ev l E Y d mc ms w0 Po nc ns (pc + 3) lv st (w.set a (.inr (ci, fs.set k v)))) : Ev l E Y d mc ms w0 Po nc ns pc lv (v :: .ref a :: st) w := by
  intro p e s m args below meth c ad0 ad H locs ls C ha0 ha hP hD hS hls
  obtain ⟨hx, hb, hr, hml, hown, hts, hlk, hnm2, hK, hXS, hXN⟩ := id C
  refine va_putF hx hb hts (fun w hw => List.mem_cons_of_mem _ (hin w hw)) ty0 hty hnm hown hK hP hD hS a (xW_at hw) hc k hk (hts _ (List.mem_cons_of_mem _ hlink)) (fun _ h => h) hfin (hnm2.trans hini) hdecl (v := xV E ad v) (hty k hk) (hn ad) (hf ad) (by rw [List.length_map]; exact hl) hd (fun H1 locs1 hP1 hD1 hS1 => ?_)
  have he : (xW E ad w).set a (ad a, Sum.inr (ci, (fs.map (xV E ad)).set k (xV E ad v))) = xW E ad (w.set a (.inr (ci, fs.set k v))) := by
    rw [← List.map_set]
    exact xW_set (e := .inr (ci, fs.set k v))
  rw [he] at hP1 hD1
  exact kk p e s m args below meth c ad0 ad H1 locs1 ls C ha0 ha hP1 hD1 hS1 hls
/-- a field of ints, in a straight stretch -/
theorem snd_puti {C0 : String} {T : u_T} {ty0 : Nat → FieldType} {N ci i k : Nat} (hd : decode Y.2.1 pc = .ok (.putfield i, 3)) (hc : vwCl[ci]? = some (C0, T, N)) (hin : ∀ w ∈ u_ws C0 T N, w ∈ tbl) (hty : ∀ k, k < N → parseFieldDescriptor (T k).2.2.1 = some (ty0 k)) (hnm : ∀ a, a < N → ∀ b, b < N → a ≠ b → (T a).2.1 ≠ (T b).2.1) (hk : k < N) (hlink : (.fieldLink Y.1.cls i (T k).1 (T k).2.1 (T k).2.2.1 : Cond) ∈ tbl) (hfin : (T k).2.2.2 = false) (hint : ty0 k = .int) : Snd l E Y pc (pc + 3) (x_puti ci k) := by
  intro d mc ms w0 Po nc ns lv st w lv' st' w2 h kk
  unfold x_puti at h
  try dsimp only at h
  split at h
  · rename_i heq
    cases heq
    split at h
    · rename_i c1 fs hw
      split at h
      · rename_i hci
        subst hci
        split at h
        · rename_i hlt
          cases h
          exact snd_put hd hc hin hty hnm hk hlink hfin hw hlt (fun ad => by rw [hint]; rfl) (fun ad => by rw [hint]; rfl) kk
        · cases h
      · cases h
    · cases h
  · cases h
theorem snd_putiN {C0 host : String} {T : u_T} {ty0 : Nat → FieldType} {N ci i k : Nat} (hd : decode Y.2.1 pc = .ok (.putfield i, 3)) (hc : vwCl[ci]? = some (C0, T, N)) (hin : ∀ w ∈ u_ws C0 T N, w ∈ tbl) (hty : ∀ k, k < N → parseFieldDescriptor (T k).2.2.1 = some (ty0 k)) (hnm : ∀ a, a < N → ∀ b, b < N → a ≠ b → (T a).2.1 ≠ (T b).2.1) (hk : k < N) (hlink : (.fieldLinkNest Y.1.cls i (T k).1 (T k).2.1 (T k).2.2.1 host : Cond) ∈ tbn) (hfin : (T k).2.2.2 = false) (hint : ty0 k = .int) : Snd l E Y pc (pc + 3) (x_puti ci k) := by
  intro d mc ms w0 Po nc ns lv st w lv' st' w2 h kk
  unfold x_puti at h
  try dsimp only at h
  split at h
  · rename_i heq
    cases heq
    split at h
    · rename_i c1 fs hw
      split at h
      · rename_i hci
        subst hci
        split at h
        · rename_i hlt
          cases h
          exact snd_putN hd hc hin hty hnm hk hlink hfin hw hlt (fun ad => by rw [hint]; rfl) (fun ad => by rw [hint]; rfl) kk
        · cases h
      · cases h
    · cases h
  · cases h
theorem snd_len (hd : decode Y.2.1 pc = .ok (.arraylength, 1)) : Snd l E Y pc (pc + 1) x_len := by
  intro d mc ms w0 Po nc ns lv st w lv' st' w2 h kk p e s m args below meth c ad0 ad H locs ls C ha0 ha hP hD hS hl
  unfold x_len at h
  try dsimp only at h
  split at h
  · rename_i heq
    cases heq
    split at h
    · rename_i n f hw
      cases h
      obtain ⟨hx, hb, hr, hml, hown, hts, hlk, hnm, hK, hXS, hXN⟩ := id C
      exact va_alen hx hb hK hP _ 0 (xW_at hw) (ty := .int) rfl rfl hd (kk p e s m args below meth c ad0 ad H locs ls C ha0 ha hP hD hS hl)
    · rename_i n f hw
      cases h
      obtain ⟨hx, hb, hr, hml, hown, hts, hlk, hnm, hK, hXS, hXN⟩ := id C
      exact va_alen hx hb hK hP _ 1 (xW_at hw) (ty := .object "java/lang/String") rfl rfl hd (kk p e s m args below meth c ad0 ad H locs ls C ha0 ha hP hD hS hl)
    · cases h
  · cases h
end SND
