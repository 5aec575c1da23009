/-! ===== abstract worlds: a method's cells by places; references are places, a float stands for a string constant ===== -/
abbrev AW : Type := List va_E
abbrev AL : Type := List (Nat × Value)
/-- the classes' numbers, int[]'s class, String[]'s class, where the string constants are -/
abbrev XE : Type := va_G × ClassId × ClassId × (Nat → Nat)
abbrev MI : Type := MethodName × ByteArray × Nat × Option FieldType
def xV (E : XE) (ad : Nat → Nat) : Value → Value
  | .ref a => .ref (ad a)
  | .float b => .ref (E.2.2.2 b.toNat)
  | v => v
def xE (E : XE) (ad : Nat → Nat) : va_E → va_E
  | .inl (k, n, .inl f) => if k = 0 then .inl (E.2.1, n, .inl f) else if k = 2 then .inl (E.2.2.2 30, n, .inl f) else if k = 3 then .inl (E.2.2.1, n, .inr (.inr (.inr (.inr (fun j => if f j < 0 then none else some (E.2.2.2 (f j).toNatClampNeg)))))) else .inl (E.2.2.1, n, .inr (.inr (.inr (.inr (fun j => some (E.2.2.2 (f j).toNatClampNeg))))))
  | .inl (_, n, .inr x) => .inl (E.2.1, n, .inr x)
  | .inr (ci, fs) => .inr (ci, fs.map (xV E ad))
def xW (E : XE) (ad : Nat → Nat) (w : AW) : va_W := w.mapIdx (fun i e => (ad i, xE E ad e))
def xL (E : XE) (ad : Nat → Nat) (lv : AL) : AL := lv.map (fun q => (q.1, xV E ad q.2))
theorem xV_cat {E : XE} {ad : Nat → Nat} (v : Value) : (xV E ad v).category = v.category := by cases v <;> rfl
theorem xW_get {E : XE} {ad : Nat → Nat} {w : AW} {k : Nat} : (xW E ad w)[k]? = (w[k]?).map (fun e => (ad k, xE E ad e)) := by
  simp [xW, List.getElem?_mapIdx]
theorem xW_at {E : XE} {ad : Nat → Nat} {w : AW} {k : Nat} {e : va_E} (h : w[k]? = some e) : (xW E ad w)[k]? = some (ad k, xE E ad e) := by
  rw [xW_get, h]; rfl
theorem xW_len {E : XE} {ad : Nat → Nat} {w : AW} : (xW E ad w).length = w.length := by simp [xW]
theorem xW_set {E : XE} {ad : Nat → Nat} {w : AW} {k : Nat} {e : va_E} : (xW E ad w).set k (ad k, xE E ad e) = xW E ad (w.set k e) := by
  apply List.ext_getElem?
  intro i
  rw [xW_get, List.getElem?_set, List.getElem?_set, xW_len]
  by_cases h : k = i
  · subst h
    by_cases hk : k < w.length
    · simp [hk]
    · simp [hk]
  · simp [h, xW_get]
theorem xW_push {E : XE} {ad : Nat → Nat} {w : AW} {e : va_E} : xW E ad (w ++ [e]) = xW E ad w ++ [(ad w.length, xE E ad e)] := by
  simp [xW, List.mapIdx_append]
theorem xW_inv {E : XE} {ad : Nat → Nat} {w : AW} {k : Nat} {q : Nat × va_E} (h : (xW E ad w)[k]? = some q) : ∃ e, w[k]? = some e ∧ q = (ad k, xE E ad e) := by
  rw [xW_get] at h
  cases hk : w[k]? with
  | none => rw [hk] at h; cases h
  | some e => rw [hk] at h; cases h; exact ⟨e, rfl, rfl⟩
theorem xL_at {E : XE} {ad : Nat → Nat} {lv : AL} {ls : Array Slot} {nL k i : Nat} {v : Value} (h : lv_has ls nL (xL E ad lv)) (hk : lv[k]? = some (i, v)) : ls[i]? = some (.val (xV E ad v)) :=
  lv_at h k (by rw [xL, List.getElem?_map, hk]; rfl)
/-- the place of a local -/
def xG : AL → Nat → Option Value
  | [], _ => none
  | (j, v) :: l, i => if j = i then some v else xG l i
theorem xG_mem {i : Nat} {v : Value} : ∀ {lv : AL}, xG lv i = some v → (i, v) ∈ lv
  | [], h => by cases h
  | (j, u) :: l, h => by
    unfold xG at h
    by_cases hj : j = i
    · rw [if_pos hj] at h; cases h; subst hj; exact List.mem_cons_self
    · rw [if_neg hj] at h; exact List.mem_cons_of_mem _ (xG_mem h)
theorem xG_at {E : XE} {ad : Nat → Nat} {lv : AL} {ls : Array Slot} {nL i : Nat} {v : Value} (h : lv_has ls nL (xL E ad lv)) (hk : xG lv i = some v) : ls[i]? = some (.val (xV E ad v)) :=
  h.2.2 (i, xV E ad v) (List.mem_map.mpr ⟨(i, v), xG_mem hk, rfl⟩)
/-- storing at a local: what was there goes, the others keep their order -/
def xP1 (lv : AL) (i : Nat) (v : Value) : AL := (i, v) :: lv.filter (fun q => !(q.1 == i) && !(q.1 + 1 == i && q.2.category == 2))
def xP2 (lv : AL) (i : Nat) (v : Value) : AL := (i, v) :: lv.filter (fun q => !(q.1 == i) && (!(q.1 == i + 1) && !(q.1 + 1 == i && q.2.category == 2)))
theorem xL_P1 {E : XE} {ad : Nat → Nat} {lv : AL} {i : Nat} {v : Value} : (i, xV E ad v) :: (xL E ad lv).filter (fun q => !(q.1 == i) && !(q.1 + 1 == i && q.2.category == 2)) = xL E ad (xP1 lv i v) := by
  unfold xP1 xL
  rw [List.map_cons, List.filter_map]
  congr 2
  apply List.filter_congr
  intro q _
  simp [xV_cat]
theorem xL_P2 {E : XE} {ad : Nat → Nat} {lv : AL} {i : Nat} {v : Value} : (i, xV E ad v) :: (xL E ad lv).filter (fun q => !(q.1 == i) && (!(q.1 == i + 1) && !(q.1 + 1 == i && q.2.category == 2))) = xL E ad (xP2 lv i v) := by
  unfold xP2 xL
  rw [List.map_cons, List.filter_map]
  congr 2
  apply List.filter_congr
  intro q _
  simp [xV_cat]
theorem xL_args {E : XE} {ad : Nat → Nat} : ∀ (vs : List Value) (i : Nat), lv_args i (vs.map (xV E ad)) = xL E ad (lv_args i vs)
  | [], _ => rfl
  | v :: vs, i => by
    simp only [List.map_cons, lv_args, xV_cat]
    rw [xL_args vs _]
    rfl
theorem xL_slots {E : XE} {ad : Nat → Nat} : ∀ (vs : List Value), (lg_sl (vs.map (xV E ad))).length = (lg_sl vs).length
  | [] => rfl
  | v :: vs => by
    have h := xL_slots (E := E) (ad := ad) vs
    unfold lg_sl at h ⊢
    simp only [List.map_cons, List.flatMap_cons, List.length_append, xV_cat, h]
    split <;> rfl
theorem xCats {E : XE} {ad : Nat → Nat} : ∀ (st : List Value), ((st.map (xV E ad)).map fun v => v.category) = st.map fun v => v.category
  | [] => rfl
  | v :: st => by simp only [List.map_cons, xV_cat, xCats st]
def xN (s : State) : Prop := ∀ w ∈ tbn, va_Nw w s
theorem isNest_on {w : Cond} (h : isNest w = true) : w.onTables = true := by
  cases w <;> first | rfl | cases h
theorem xN.same {u U : State} (h : u.vm = U.vm) (hN : xN u) : xN U := fun w hw => va_Nw.same (isNest_on (List.mem_filter.mp hw).2) h (hN w hw)
theorem xN.warm {s U : State} (hW : s.WarmedH U.vm) (hN : xN s) : xN U := by
  intro w hw
  have h1 := (List.mem_filter.mp hw).2
  have h2 := hN w hw
  cases w <;> first | exact va_Nw.warmM hW h2 | exact va_Nw.warmF hW h2 | cases h1
/-! the string constants: 0 bid 1 off 2 kind 3 keep 4 price 5 nsn 6 n 7 nnn 8 ln 9 nn -/
def sLen : List Nat := [3, 3, 4, 4, 5, 3, 1, 3, 2, 2]
def sByt : List (List Int32) := [[98, 105, 100], [111, 102, 102], [107, 105, 110, 100], [107, 101, 101, 112], [112, 114, 105, 99, 101], [110, 115, 110], [110], [110, 110, 110], [108, 110], [110, 110]]
def sRefs : List (String × Nat × String × Nat) := [("BundlesOfBids$Script", 81, "bid", 0), ("BundlesOfBids$Script", 87, "off", 1), ("BundlesOfBids$Script", 89, "kind", 2), ("BundlesOfBids$Script", 91, "keep", 3), ("BundlesOfBids$Script", 93, "price", 4), ("BundlesOfBidsModel", 49, "bid", 0), ("BundlesOfBidsModel", 51, "off", 1), ("BundlesOfBidsModel", 53, "kind", 2), ("BundlesOfBidsModel", 54, "keep", 3), ("BundlesOfBidsModel", 56, "price", 4), ("BundlesOfBidsModel", 61, "nsn", 5), ("BundlesOfBidsModel", 63, "n", 6), ("BundlesOfBidsModel", 65, "nnn", 7), ("BundlesOfBidsModel", 67, "ln", 8), ("BundlesOfBidsModel", 69, "nn", 9)]
/-- what the JDK's statics hold: 20 a place for the formatter, 21 and 22 the digits' tables, 30 the class of byte[]; 40 the law's script, 41 its length, from 1000 on what it holds -/
def xZ (E : XE) (A : Nat → Prop) (s : State) : Prop :=
  va_Z "java/lang/String" "COMPACT_STRINGS" "Z" (.int 1) A s s.heap ∧
  (va_Z "jdk/internal/util/Preconditions" "SIOOBE_FORMATTER" "Ljava/util/function/BiFunction;" .null A s s.heap ∨ va_Z "jdk/internal/util/Preconditions" "SIOOBE_FORMATTER" "Ljava/util/function/BiFunction;" (.ref (E.2.2.2 20)) A s s.heap) ∧
  (va_Z "java/lang/Integer" "DigitTens" "[B" (.ref (E.2.2.2 21)) A s s.heap ∧ va_T .byte (E.2.2.2 21) 100 (fun j => .int (nI (48 + j / 10))) A s s.heap) ∧
  (va_Z "java/lang/Integer" "DigitOnes" "[B" (.ref (E.2.2.2 22)) A s s.heap ∧ va_T .byte (E.2.2.2 22) 100 (fun j => .int (nI (48 + j % 10))) A s s.heap) ∧
  va_AO "java/lang/String" s ∧ va_T .int (E.2.2.2 40) (E.2.2.2 41) (fun j => .int (nI (E.2.2.2 (1000 + j)))) A s s.heap
theorem xZ.same {E : XE} {A : Nat → Prop} {u U : State} (h : u.vm = U.vm) (hh : U.heap = u.heap) (hS : xZ E A u) : xZ E A U := by
  have hm : u.vm.Alike U.vm := by rw [h]; exact Vm.Alike.refl _
  obtain ⟨h1, h2, ⟨h3, h4⟩, ⟨h5, h6⟩, h7, h8⟩ := hS
  unfold xZ
  rw [hh]
  refine ⟨va_Z.moved hm h1, ?_, ⟨va_Z.moved hm h3, va_T.moved hm h4⟩, ⟨va_Z.moved hm h5, va_T.moved hm h6⟩, va_AO.moved hm h7, va_T.moved hm h8⟩
  rcases h2 with h2 | h2
  · exact Or.inl (va_Z.moved hm h2)
  · exact Or.inr (va_Z.moved hm h2)
theorem xZ.into {E : XE} {A B : Nat → Prop} {s U : State} {locs : List Loc} (hW : s.WarmedH U.vm) (hS0 : va_S A s.heap U.heap locs) (hAB : ∀ q, B q → A q) (hS : xZ E A s) : xZ E B U := by
  obtain ⟨h1, h2, ⟨h3, h4⟩, ⟨h5, h6⟩, h7, h8⟩ := hS
  have hm := hW.alike
  have kz : ∀ {C n d : String} {v : Value}, va_Z C n d v A s s.heap → va_Z C n d v B U U.heap := fun h => va_Z.moved hm ((va_Z.kept h hS0.2.1).narrow hAB)
  have kt : ∀ {ty : FieldType} {t N : Nat} {f : Nat → Value}, va_T ty t N f A s s.heap → va_T ty t N f B U U.heap := fun h => va_T.moved hm ((va_T.kept h hS0.2.1).narrow hAB)
  refine ⟨kz h1, ?_, ⟨kz h3, kt h4⟩, ⟨kz h5, kt h6⟩, va_AO.moved hm h7, kt h8⟩
  rcases h2 with h2 | h2
  · exact Or.inl (kz h2)
  · exact Or.inr (kz h2)
/-- string constant b stands at E.2.2.2 b, its bytes at E.2.2.2 (10 + b) -/
def xS (E : XE) (A : Nat → Prop) (s : State) : Prop := (vk_S 10 sLen sByt E.2.2.2 (fun b => E.2.2.2 (10 + b)) A s s.heap ∧ xZ E A s) ∧ ∀ q ∈ sRefs, vk_R q.1 q.2.1 q.2.2.1 (E.2.2.2 q.2.2.2) s
theorem xS.same {E : XE} {A : Nat → Prop} {u U : State} (h : u.vm = U.vm) (hh : U.heap = u.heap) (hS : xS E A u) : xS E A U := by
  obtain ⟨⟨h1, h0⟩, h2⟩ := hS
  exact ⟨⟨by rw [hh]; exact h1.moved (by rw [h]; exact Vm.Alike.refl _), h0.same h hh⟩, fun q hq => vk_R.same h.symm (h2 q hq)⟩
theorem xS.into {E : XE} {A B : Nat → Prop} {s U : State} {locs : List Loc} (hW : s.WarmedH U.vm) (hS0 : va_S A s.heap U.heap locs) (hAB : ∀ q, B q → A q) (hS : xS E A s) : xS E B U := by
  obtain ⟨⟨h1, h0⟩, h2⟩ := hS
  exact ⟨⟨((h1.kept hS0.2.1).narrow hAB).moved hW.alike, h0.into hW hS0 hAB⟩, fun q hq => vk_R.warm hW (h2 q hq)⟩
/-! ===== a method's contract, and the judgement that walks it ===== -/
abbrev xT (E : XE) : List (ClassId × FieldType) := [(E.2.1, .int), (E.2.2.1, .object "java/lang/String"), (E.2.2.2 30, .byte)]
abbrev xR (d mc ms : Nat) : Room := { frames := d, cells := mc, slots := ms, locals := 100 * d }
abbrev xWs (Y : MI) : List Cond := .code Y.1 Y.2.1 Y.2.2.1 Y.2.2.2 :: tbl
abbrev xA (E : XE) (ad : Nat → Nat) (w : AW) (sz : Nat) : Nat → Prop := va_A (xW E ad w) sz
def xPre (E : XE) (ad : Nat → Nat) (w : AW) (sz : Nat) (U : State) : Prop :=
  U.heap.size = sz ∧ va_P E.1 vwCl (xW E ad w) U.heap ∧ va_K E.1 vwCl (xT E) U ∧ va_D (fun _ => True) (xW E ad w) ∧ xS E (xA E ad w sz) U ∧ xN U
def xPost (E : XE) (ad : Nat → Nat) (w : AW) (sz mc : Nat) (Po : Option Value → AW → Prop) : Array Value → State → Outcome → State → Prop := fun _ st oc t =>
  (∃ (ad' : Nat → Nat) (r : Option Value) (w' : AW), oc = .returned (r.map (xV E ad')) ∧ Po r w' ∧ (mc = 0 → ad' = ad) ∧ (∀ k, k < w.length → ad' k = ad k) ∧ va_P E.1 vwCl (xW E ad' w') t.heap ∧ va_K E.1 vwCl (xT E) t ∧ va_D (xA E ad w sz) (xW E ad' w')) ∧ va_F (xA E ad w sz) st t
def MetE (l : Launch) (E : XE) (Y : MI) (d mc ms : Nat) (av : List Value) (w : AW) (Po : Option Value → AW → Prop) : Prop :=
  ∀ (ad : Nat → Nat) (sz : Nat), Met l Y.1 (xWs Y) (xR d mc ms) (va_Pc (av.map (xV E ad)) (xPre E ad w sz)) (xPost E ad w sz mc Po) mc ms (xA E ad w sz)
def XC (E : XE) (Y : MI) (w0 : AW) (p : Program) (s : State) (m : MethodId) (args : Array Value) (meth : Method) (c : Code) (ad0 : Nat → Nat) : Prop :=
  p.tables.exec = Jvm.exec ∧ c.code = Y.2.1 ∧ meth.sig.returnType = Y.2.2.2 ∧ c.maxLocals = Y.2.2.1 ∧ s.vm.findClass Y.1.cls = some m.cls ∧ (∀ w ∈ xWs Y, w.before args s = true) ∧ meth.locks = false ∧ meth.name = Y.1.name ∧ va_K E.1 vwCl (xT E) s ∧ xS E (xA E ad0 w0 s.heap.size) s ∧ xN s
def Ev (l : Launch) (E : XE) (Y : MI) (d mc ms : Nat) (w0 : AW) (Po : Option Value → AW → Prop) (nc ns pc : Nat) (lv : AL) (st : List Value) (w : AW) : Prop :=
  ∀ (p : Program) (e : Env) (s : State) (m : MethodId) (args : Array Value) (below : List Frame) (meth : Method) (c : Code) (ad0 ad : Nat → Nat) (H : Heap) (locs : List Loc) (ls : Array Slot),
    XC E Y w0 p s m args meth c ad0 → (mc = 0 → ad = ad0) → (∀ k, k < w0.length → ad k = ad0 k) → va_P E.1 vwCl (xW E ad w) H → va_D (xA E ad0 w0 s.heap.size) (xW E ad w) → va_S (xA E ad0 w0 s.heap.size) s.heap H locs → lv_has ls Y.2.2.1 (xL E ad lv) →
    W p l e (xR d mc ms) s m args below meth c H locs nc ns (MQ below (xPost E ad0 w0 s.heap.size mc Po) args s mc ms (xA E ad0 w0 s.heap.size)) (F0 m pc ls (st.map (xV E ad)))
section EV
variable {l : Launch} {E : XE} {Y : MI} {d mc ms : Nat} {w0 : AW} {Po : Option Value → AW → Prop} {nc ns pc : Nat} {lv : AL} {st : List Value} {w : AW}
theorem MetE.of {av : List Value} (hy : plainName Y.1.cls = true) (hn : (lg_sl av).length ≤ Y.2.2.1) (h : Ev l E Y d mc ms w Po 0 0 0 (lv_args 0 av) [] w) : MetE l E Y d mc ms av w Po := by
  intro ad sz
  refine Met.ofW (cc := Y.2.1) (maxL := Y.2.2.1) (ret := Y.2.2.2) hy rfl ?_
  intro p e s m args below meth c s₁ B hml hv
  obtain ⟨rfl, rfl, hP, hK, hD0, hXS, hXN⟩ := hv
  have hl := lv_entry (av.map (xV E ad)) (n := Y.2.2.1) (by rw [xL_slots]; exact hn)
  rw [xL_args] at hl
  rw [lg_entry_eq]
  exact h p e s m _ below meth c ad ad s.heap [] _ ⟨B.exec, B.bytes, B.returns, hml, findClass_of_methodNamed B.named, atoms_spec (ws := xWs Y) B.pre, B.notSynchronized, (name_of_methodNamed B.named B.method).1, hK, hXS, hXN⟩ (fun _ => rfl) (fun _ _ => rfl) hP hD0.self va_S.rf hl
theorem MetE.mono {av : List Value} {Po' : Option Value → AW → Prop} (h : MetE l E Y d mc ms av w Po) (hp : ∀ r w', Po r w' → Po' r w') : MetE l E Y d mc ms av w Po' := by
  intro ad sz p e ha hc hk s m args below hf happ hP hK
  obtain ⟨k, o, h1, h2, h3, ⟨⟨ad', r, w', q1, q2, q3⟩, q4⟩, q5⟩ := h ad sz p e ha hc hk s m args below hf happ hP hK
  exact ⟨k, o, h1, h2, h3, ⟨⟨ad', r, w', q1, hp _ _ q2, q3⟩, q4⟩, q5⟩
end EV
