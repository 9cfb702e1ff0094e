
/-! ===== worlds of numbered cells ===== -/
def cV (q : Nat → Nat) : Value → Value
  | .ref i => .ref (q i)
  | .int x => .int x
  | .long x => .long x
  | .float x => .float x
  | .double x => .double x
  | .null => .null
  | .retAddr x => .retAddr x
theorem cV_cat (q : Nat → Nat) (v : Value) : (cV q v).category = v.category := by cases v <;> rfl
abbrev mE : Type := (Nat × vp_A) ⊕ (Nat × List Value)
abbrev mW : Type := List mE
def cR (q : Nat → Nat) : vp_A → vp_A
  | (n, .inl f) => (n, .inl f)
  | (n, .inr (.inl f)) => (n, .inr (.inl f))
  | (n, .inr (.inr (.inl f))) => (n, .inr (.inr (.inl f)))
  | (n, .inr (.inr (.inr (.inl f)))) => (n, .inr (.inr (.inr (.inl f))))
  | (n, .inr (.inr (.inr (.inr f)))) => (n, .inr (.inr (.inr (.inr (fun i => (f i).map q)))))
def cE (q : Nat → Nat) (dA : Nat → ClassId) : mE → va_E
  | .inl (t, a) => .inl (dA t, cR q a)
  | .inr (ci, fs) => .inr (ci, fs.map (cV q))
def cW (q : Nat → Nat) (dA : Nat → ClassId) (w : mW) : va_W := w.mapIdx fun i e => (q i, cE q dA e)
theorem cW_get {q : Nat → Nat} {dA : Nat → ClassId} {w : mW} {a : Nat} {e : mE} (h : w[a]? = some e) : (cW q dA w)[a]? = some (q a, cE q dA e) := by
  simp [cW, List.getElem?_mapIdx, h]
theorem cW_set {q : Nat → Nat} {dA : Nat → ClassId} {w : mW} {a : Nat} {e : mE} : (cW q dA w).set a (q a, cE q dA e) = cW q dA (w.set a e) := by
  apply List.ext_getElem?
  intro i
  simp only [cW, List.getElem?_set, List.getElem?_mapIdx, List.length_mapIdx]
  by_cases h : a = i
  · subst h
    by_cases h2 : a < w.length <;> simp [h2]
  · simp [h]
abbrev iA (n : Nat) (f : Nat → Int32) : mE := .inl (0, n, .inl f)
abbrev bA (n : Nat) (f : Nat → Int32) : mE := .inl (1, n, .inl f)
abbrev rA (n : Nat) (f : Nat → Option Nat) : mE := .inl (2, n, .inr (.inr (.inr (.inr f))))
def tyA (dA : Nat → ClassId) : List (ClassId × FieldType) := [(dA 0, .int), (dA 1, .byte), (dA 2, .array .int)]
/-! the ambient: the String constant and what its search reads -/
def Amb (q : Nat → Nat) (A : Nat → Prop) (U : State) (H : Heap) : Prop :=
  vk_S 1 [5] [[107, 119, 102, 99, 98]] (fun _ => q 1000) (fun _ => q 1001) A U H ∧ vk_R "LeapBoard$Page" 46 "kwfcb" (q 1000) U ∧ va_Z "java/lang/String" "COMPACT_STRINGS" "Z" (.int 1) A U H
/-! locals -/
def lvl (q : Nat → Nat) (ls : List Value) : List (Nat × Value) := (List.range ls.length).filterMap fun j => if ls[j]? = some .null then none else (ls[j]?).map fun v => (j, cV q v)
theorem lvl_mem {q : Nat → Nat} {ls : List Value} {j : Nat} {v : Value} (h : ls[j]? = some v) (hn : v ≠ .null) : (j, cV q v) ∈ lvl q ls := by
  refine List.mem_filterMap.mpr ⟨j, List.mem_range.mpr (List.getElem?_eq_some_iff.mp h).1, ?_⟩
  rw [h, if_neg (by intro e; exact hn (Option.some.inj e))]
  rfl
theorem lvl_of {q : Nat → Nat} {ls : List Value} {x : Nat × Value} (h : x ∈ lvl q ls) : ∃ v, ls[x.1]? = some v ∧ v ≠ .null ∧ x.2 = cV q v := by
  obtain ⟨j, -, h2⟩ := List.mem_filterMap.mp h
  by_cases hn : ls[j]? = some .null
  · rw [if_pos hn] at h2; cases h2
  · rw [if_neg hn] at h2
    cases hv : ls[j]? with
    | none => rw [hv] at h2; cases h2
    | some v =>
      rw [hv] at h2
      cases h2
      exact ⟨v, hv, fun e => hn (by rw [hv, e]), rfl⟩
def lvH (q : Nat → Nat) (arr : Array Slot) (n : Nat) (ls : List Value) : Prop := arr.size = n ∧ lv_wf arr ∧ ∀ (i : Nat) (v : Value), ls[i]? = some v → v ≠ .null → arr[i]? = some (.val (cV q v))
theorem lvH.has {q : Nat → Nat} {arr : Array Slot} {n : Nat} {ls : List Value} (h : lvH q arr n ls) : lv_has arr n (lvl q ls) := by
  refine ⟨h.1, h.2.1, fun x hx => ?_⟩
  obtain ⟨v, h1, h2, h3⟩ := lvl_of hx
  rw [h3]
  exact h.2.2 _ _ h1 h2
theorem lvH.of {q : Nat → Nat} {arr : Array Slot} {n : Nat} {ls : List Value} {lv : List (Nat × Value)} (h : lv_has arr n lv) (hm : ∀ (i : Nat) (v : Value), ls[i]? = some v → v ≠ .null → (i, cV q v) ∈ lv) : lvH q arr n ls :=
  ⟨h.1, h.2.1, fun i v h1 h2 => h.2.2 _ (hm i v h1 h2)⟩
/-- no long begins just below place i -/
def okAt (ls : List Value) : Nat → Bool
  | 0 => true
  | j + 1 => match ls[j]? with
    | some (.long _) => false
    | some (.double _) => false
    | _ => true
theorem okAt_cat {q : Nat → Nat} {ls : List Value} {i j : Nat} {v : Value} (h : okAt ls i = true) (hv : ls[j]? = some v) (hj : j + 1 = i) : (cV q v).category ≠ 2 := by
  subst hj
  simp only [okAt] at h
  rw [hv] at h
  cases v <;> first | (simp at h; done) | (simp [cV, Value.category])
theorem lvH.store {q : Nat → Nat} {arr' : Array Slot} {n i : Nat} {ls : List Value} {x y : Value} (hx : cV q x = y) (ho : okAt ls i = true) (h' : lv_has arr' n ((i, y) :: (lvl q ls).filter (fun q => !(q.1 == i) && !(q.1 + 1 == i && q.2.category == 2)))) : lvH q arr' n (ls.set i x) := by
  refine lvH.of h' fun j v h1 h2 => ?_
  rw [List.getElem?_set] at h1
  by_cases hj : i = j
  · subst hj
    rw [if_pos rfl] at h1
    split at h1
    · cases h1; rw [hx]; exact List.mem_cons_self
    · cases h1
  · rw [if_neg hj] at h1
    refine List.mem_cons_of_mem _ (List.mem_filter.mpr ⟨lvl_mem h1 h2, ?_⟩)
    have h3 : (j == i) = false := by simp; omega
    simp only [h3, Bool.not_false, Bool.true_and]
    by_cases hk : j + 1 = i
    · have := okAt_cat (q := q) ho h1 hk
      simp [this]
    · simp [hk]
theorem lvH.store2 {q : Nat → Nat} {arr' : Array Slot} {n i : Nat} {ls : List Value} {x y : Value} (hx : cV q x = y) (ho : okAt ls i = true) (h' : lv_has arr' n ((i, y) :: (lvl q ls).filter (fun q => !(q.1 == i) && (!(q.1 == i + 1) && !(q.1 + 1 == i && q.2.category == 2))))) : lvH q arr' n ((ls.set i x).set (i + 1) .null) := by
  refine lvH.of h' fun j v h1 h2 => ?_
  rw [List.getElem?_set] at h1
  by_cases hj1 : i + 1 = j
  · rw [if_pos hj1] at h1
    split at h1
    · cases h1; exact absurd rfl h2
    · cases h1
  · rw [if_neg hj1, List.getElem?_set] at h1
    by_cases hj : i = j
    · subst hj
      rw [if_pos rfl] at h1
      split at h1
      · cases h1; rw [hx]; exact List.mem_cons_self
      · cases h1
    · rw [if_neg hj] at h1
      refine List.mem_cons_of_mem _ (List.mem_filter.mpr ⟨lvl_mem h1 h2, ?_⟩)
      have h3 : (j == i) = false := by simp; omega
      have h4 : (j == i + 1) = false := by simp; omega
      simp only [h3, h4, Bool.not_false, Bool.true_and]
      by_cases hk : j + 1 = i
      · have := okAt_cat (q := q) ho h1 hk
        simp [this]
      · simp [hk]
/-- a method's first locals -/
def entL : List Value → List Value
  | [] => []
  | v :: vs => if v.category = 2 then v :: .null :: entL vs else v :: entL vs
def ent (n : Nat) (as : List Value) : List Value := entL as ++ List.replicate (n - (entL as).length) .null
theorem entL_mem {q : Nat → Nat} (as : List Value) : ∀ (b i : Nat) (v : Value), (entL as)[i]? = some v → v ≠ .null → (b + i, cV q v) ∈ lv_args b (as.map (cV q)) := by
  induction as with
  | nil => intro b i v h; simp [entL] at h
  | cons a as ih =>
    intro b i v h hn
    simp only [List.map_cons, lv_args, cV_cat]
    unfold entL at h
    by_cases hc : a.category = 2
    · rw [if_pos hc] at h
      rw [if_pos hc]
      match i, h with
      | 0, h => cases h; exact List.mem_cons_self
      | 1, h => cases h; exact absurd rfl hn
      | i + 2, h =>
        have := ih (b + 2) i v (by simpa using h) hn
        rw [show b + (i + 2) = b + 2 + i by omega]
        exact List.mem_cons_of_mem _ this
    · rw [if_neg hc] at h
      rw [if_neg hc]
      match i, h with
      | 0, h => cases h; exact List.mem_cons_self
      | i + 1, h =>
        have := ih (b + 1) i v (by simpa using h) hn
        rw [show b + (i + 1) = b + 1 + i by omega]
        exact List.mem_cons_of_mem _ this
theorem ent_mem {q : Nat → Nat} {n : Nat} {as : List Value} {i : Nat} {v : Value} (h : (ent n as)[i]? = some v) (hn : v ≠ .null) : (i, cV q v) ∈ lv_args 0 (as.map (cV q)) := by
  unfold ent at h
  by_cases hi : i < (entL as).length
  · rw [List.getElem?_append_left hi] at h
    have := entL_mem (q := q) as 0 i v h hn
    rwa [Nat.zero_add] at this
  · rw [List.getElem?_append_right (by omega)] at h
    exact absurd (List.eq_of_mem_replicate (List.mem_of_getElem? h)) hn
theorem entL_len (q : Nat → Nat) (as : List Value) : (lg_sl (as.map (cV q))).length = (entL as).length := by
  induction as with
  | nil => rfl
  | cons a as ih =>
    have : (lg_sl (List.map (cV q) (a :: as))).length = (if a.category = 2 then 2 else 1) + (lg_sl (as.map (cV q))).length := by
      simp only [lg_sl, List.map_cons, List.flatMap_cons, List.length_append]
      congr 1
      cases a <;> simp [cV, Value.category]
    rw [this, ih]
    have e : entL (a :: as) = if a.category = 2 then a :: .null :: entL as else a :: entL as := rfl
    rw [e]
    by_cases hc : a.category = 2
    · rw [if_pos hc, if_pos hc]; simp only [List.length_cons]; omega
    · rw [if_neg hc, if_neg hc]; simp only [List.length_cons]; omega
/-! ===== the judgement ===== -/
def jR (d : Nat) : Room := { frames := d, cells := 0, slots := 0, locals := 64 * d }
def JC (p : Program) (s : State) (m : MethodId) (args : Array Value) (meth : Method) (c : Code) (mi : MI) (q : Nat → Nat) (D : va_G) (dA : Nat → ClassId) (A : Nat → Prop) : Prop :=
  p.tables.exec = Jvm.exec ∧ c.code = mi.2.1 ∧ c.maxLocals = mi.2.2.1 ∧ meth.sig.returnType = mi.2.2.2.1 ∧ meth.locks = false ∧ s.vm.findClass mi.1.cls = some m.cls ∧ (∀ w ∈ UW, w.before args s = true) ∧ (∀ w ∈ NW, va_Nw w s) ∧ va_K D vwCl (tyA dA) s ∧ Amb q A s s.heap
def JQ (q : Nat → Nat) (D : va_G) (dA : Nat → ClassId) (A : Nat → Prop) (Q : Option Value → mW → Prop) : Array Value → State → Outcome → State → Prop := fun _ s o t =>
  (∃ (v : Option Value) (w' : mW), o = .returned (v.map (cV q)) ∧ Q v w' ∧ va_P D vwCl (cW q dA w') t.heap ∧ va_K D vwCl (tyA dA) t ∧ va_D A (cW q dA w')) ∧ va_F A s t
def J (d : Nat) (mi : MI) (pc : Nat) (ls st : List Value) (w : mW) (Q : Option Value → mW → Prop) : Prop :=
  ∀ (p : Program) (l : Launch) (e : Env) (R : Room) (s : State) (m : MethodId) (args : Array Value) (below : List Frame) (meth : Method) (c : Code) (H : Heap) (locs : List Loc) (q : Nat → Nat) (D : va_G) (dA : Nat → ClassId) (A : Nat → Prop) (arr : Array Slot),
    (d ≤ R.frames ∧ 64 * d ≤ R.locals) → JC p s m args meth c mi q D dA A → va_S A s.heap H locs → va_P D vwCl (cW q dA w) H → va_D A (cW q dA w) → lvH q arr mi.2.2.1 ls →
    W p l e R s m args below meth c H locs 0 0 (MQ below (JQ q D dA A Q) args s 0 0 A) (F0 m pc arr (st.map (cV q)))
/-- a call's whole: from its entry -/
def JX (d : Nat) (mi : MI) (as : List Value) (w : mW) (Q : Option Value → mW → Prop) : Prop := J d mi 0 (ent mi.2.2.1 as) [] w Q
def JR (d : Nat) (mi : MI) (as : List Value) (w : mW) (r : Value) (w' : mW) : Prop := JX d mi as w (fun v u => v = some r ∧ u = w')
def JV (d : Nat) (mi : MI) (as : List Value) (w : mW) (w' : mW) : Prop := JX d mi as w (fun v u => v = none ∧ u = w')
section JRules
variable {d : Nat} {mi : MI} {pc pc' : Nat} {ls st : List Value} {w : mW} {Q Q' : Option Value → mW → Prop}
theorem J.mono {d' : Nat} (h : J d mi pc ls st w Q) (hd : d ≤ d') : J d' mi pc ls st w Q := by
  intro p l e R s m args below meth c H locs q D dA A arr hR C hS hP hD hl
  exact h p l e R s m args below meth c H locs q D dA A arr ⟨by omega, by omega⟩ C hS hP hD hl
theorem J.conseq (h : J d mi pc ls st w Q') (hQ : ∀ v u, Q' v u → Q v u) : J d mi pc ls st w Q := by
  intro p l e R s m args below meth c H locs q D dA A arr hR C hS hP hD hl T hT X
  obtain ⟨t, a1, o, b1, b2, ⟨⟨v, w', c1, c2, c3⟩, b3⟩, b4⟩ := h p l e R s m args below meth c H locs q D dA A arr hR C hS hP hD hl T hT X
  exact ⟨t, a1, o, b1, b2, ⟨⟨v, w', c1, hQ _ _ c2, c3⟩, b3⟩, b4⟩
theorem JX.mono {d' : Nat} {as : List Value} (h : JX d mi as w Q) (hd : d ≤ d') : JX d' mi as w Q := J.mono h hd
/-- fewer locals are known -/
theorem J.forget {ls' : List Value} (h : J d mi pc ls' st w Q) (hl : ∀ (i : Nat) (v : Value), ls'[i]? = some v → v ≠ .null → ls[i]? = some v) : J d mi pc ls st w Q := by
  intro p l e R s m args below meth c H locs q D dA A arr hR C hS hP hD hl2
  exact h p l e R s m args below meth c H locs q D dA A arr hR C hS hP hD ⟨hl2.1, hl2.2.1, fun i v h1 h2 => hl2.2.2 i v (hl i v h1 h2) h2⟩

theorem j_iadd {x y : Int32} (h : decode mi.2.1 pc = .ok (.iadd, 1) ∧ pc + 1 = pc')  (k : J d mi pc' ls (.int (x + y) :: st) w Q) : J d mi pc ls (.int y :: .int x :: st) w Q := by
  intro p l e R s m args below meth c H locs q D dA A arr hR C hS hP hD hl
  obtain ⟨h, rfl⟩ := h
  exact lv_iadd C.1 C.2.1 h (k p l e R s m args below meth c H locs q D dA A arr hR C hS hP hD hl)
theorem j_isub {x y : Int32} (h : decode mi.2.1 pc = .ok (.isub, 1) ∧ pc + 1 = pc')  (k : J d mi pc' ls (.int (x - y) :: st) w Q) : J d mi pc ls (.int y :: .int x :: st) w Q := by
  intro p l e R s m args below meth c H locs q D dA A arr hR C hS hP hD hl
  obtain ⟨h, rfl⟩ := h
  exact lv_isub C.1 C.2.1 h (k p l e R s m args below meth c H locs q D dA A arr hR C hS hP hD hl)
theorem j_imul {x y : Int32} (h : decode mi.2.1 pc = .ok (.imul, 1) ∧ pc + 1 = pc')  (k : J d mi pc' ls (.int (x * y) :: st) w Q) : J d mi pc ls (.int y :: .int x :: st) w Q := by
  intro p l e R s m args below meth c H locs q D dA A arr hR C hS hP hD hl
  obtain ⟨h, rfl⟩ := h
  exact lv_imul C.1 C.2.1 h (k p l e R s m args below meth c H locs q D dA A arr hR C hS hP hD hl)
theorem j_iand {x y : Int32} (h : decode mi.2.1 pc = .ok (.iand, 1) ∧ pc + 1 = pc')  (k : J d mi pc' ls (.int (x &&& y) :: st) w Q) : J d mi pc ls (.int y :: .int x :: st) w Q := by
  intro p l e R s m args below meth c H locs q D dA A arr hR C hS hP hD hl
  obtain ⟨h, rfl⟩ := h
  exact lv_iand C.1 C.2.1 h (k p l e R s m args below meth c H locs q D dA A arr hR C hS hP hD hl)
theorem j_ior {x y : Int32} (h : decode mi.2.1 pc = .ok (.ior, 1) ∧ pc + 1 = pc')  (k : J d mi pc' ls (.int (x ||| y) :: st) w Q) : J d mi pc ls (.int y :: .int x :: st) w Q := by
  intro p l e R s m args below meth c H locs q D dA A arr hR C hS hP hD hl
  obtain ⟨h, rfl⟩ := h
  exact lv_ior C.1 C.2.1 h (k p l e R s m args below meth c H locs q D dA A arr hR C hS hP hD hl)
theorem j_ixor {x y : Int32} (h : decode mi.2.1 pc = .ok (.ixor, 1) ∧ pc + 1 = pc')  (k : J d mi pc' ls (.int (x ^^^ y) :: st) w Q) : J d mi pc ls (.int y :: .int x :: st) w Q := by
  intro p l e R s m args below meth c H locs q D dA A arr hR C hS hP hD hl
  obtain ⟨h, rfl⟩ := h
  exact lv_ixor C.1 C.2.1 h (k p l e R s m args below meth c H locs q D dA A arr hR C hS hP hD hl)
theorem j_ishl {x y : Int32} (h : decode mi.2.1 pc = .ok (.ishl, 1) ∧ pc + 1 = pc')  (k : J d mi pc' ls (.int (x <<< (y &&& 31)) :: st) w Q) : J d mi pc ls (.int y :: .int x :: st) w Q := by
  intro p l e R s m args below meth c H locs q D dA A arr hR C hS hP hD hl
  obtain ⟨h, rfl⟩ := h
  exact lv_ishl C.1 C.2.1 h (k p l e R s m args below meth c H locs q D dA A arr hR C hS hP hD hl)
theorem j_ishr {x y : Int32} (h : decode mi.2.1 pc = .ok (.ishr, 1) ∧ pc + 1 = pc')  (k : J d mi pc' ls (.int (x >>> (y &&& 31)) :: st) w Q) : J d mi pc ls (.int y :: .int x :: st) w Q := by
  intro p l e R s m args below meth c H locs q D dA A arr hR C hS hP hD hl
  obtain ⟨h, rfl⟩ := h
  exact lv_ishr C.1 C.2.1 h (k p l e R s m args below meth c H locs q D dA A arr hR C hS hP hD hl)
theorem j_idiv {x y : Int32} (h : decode mi.2.1 pc = .ok (.idiv, 1) ∧ pc + 1 = pc') (hne : ¬ y = 0) (k : J d mi pc' ls (.int (x / y) :: st) w Q) : J d mi pc ls (.int y :: .int x :: st) w Q := by
  intro p l e R s m args below meth c H locs q D dA A arr hR C hS hP hD hl
  obtain ⟨h, rfl⟩ := h
  exact lv_idiv C.1 C.2.1 h hne (k p l e R s m args below meth c H locs q D dA A arr hR C hS hP hD hl)
theorem j_irem {x y : Int32} (h : decode mi.2.1 pc = .ok (.irem, 1) ∧ pc + 1 = pc') (hne : ¬ y = 0) (k : J d mi pc' ls (.int (x - x / y * y) :: st) w Q) : J d mi pc ls (.int y :: .int x :: st) w Q := by
  intro p l e R s m args below meth c H locs q D dA A arr hR C hS hP hD hl
  obtain ⟨h, rfl⟩ := h
  exact lv_irem C.1 C.2.1 h hne (k p l e R s m args below meth c H locs q D dA A arr hR C hS hP hD hl)
theorem j_ineg {x : Int32} (h : decode mi.2.1 pc = .ok (.ineg, 1) ∧ pc + 1 = pc')  (k : J d mi pc' ls (.int (-x) :: st) w Q) : J d mi pc ls (.int x :: st) w Q := by
  intro p l e R s m args below meth c H locs q D dA A arr hR C hS hP hD hl
  obtain ⟨h, rfl⟩ := h
  exact lv_ineg C.1 C.2.1 h (k p l e R s m args below meth c H locs q D dA A arr hR C hS hP hD hl)
theorem j_iushr {x y : Int32} (h : decode mi.2.1 pc = .ok (.iushr, 1) ∧ pc + 1 = pc')  (k : J d mi pc' ls (.int ((x.toUInt32 >>> (y.toUInt32 &&& Int32.toUInt32 31)).toInt32) :: st) w Q) : J d mi pc ls (.int y :: .int x :: st) w Q := by
  intro p l e R s m args below meth c H locs q D dA A arr hR C hS hP hD hl
  obtain ⟨h, rfl⟩ := h
  exact lv_iushr C.1 C.2.1 h rfl (k p l e R s m args below meth c H locs q D dA A arr hR C hS hP hD hl)
theorem j_ladd {x y : Int64} (h : decode mi.2.1 pc = .ok (.ladd, 1) ∧ pc + 1 = pc')  (k : J d mi pc' ls (.long (x + y) :: st) w Q) : J d mi pc ls (.long y :: .long x :: st) w Q := by
  intro p l e R s m args below meth c H locs q D dA A arr hR C hS hP hD hl
  obtain ⟨h, rfl⟩ := h
  exact lv_ladd C.1 C.2.1 h (k p l e R s m args below meth c H locs q D dA A arr hR C hS hP hD hl)
theorem j_lmul {x y : Int64} (h : decode mi.2.1 pc = .ok (.lmul, 1) ∧ pc + 1 = pc')  (k : J d mi pc' ls (.long (x * y) :: st) w Q) : J d mi pc ls (.long y :: .long x :: st) w Q := by
  intro p l e R s m args below meth c H locs q D dA A arr hR C hS hP hD hl
  obtain ⟨h, rfl⟩ := h
  exact lv_lmul C.1 C.2.1 h (k p l e R s m args below meth c H locs q D dA A arr hR C hS hP hD hl)
theorem j_land {x y : Int64} (h : decode mi.2.1 pc = .ok (.land, 1) ∧ pc + 1 = pc')  (k : J d mi pc' ls (.long (x &&& y) :: st) w Q) : J d mi pc ls (.long y :: .long x :: st) w Q := by
  intro p l e R s m args below meth c H locs q D dA A arr hR C hS hP hD hl
  obtain ⟨h, rfl⟩ := h
  exact lv_land C.1 C.2.1 h (k p l e R s m args below meth c H locs q D dA A arr hR C hS hP hD hl)
theorem j_ldiv {x y : Int64} (h : decode mi.2.1 pc = .ok (.ldiv, 1) ∧ pc + 1 = pc') (hne : ¬ y = 0) (k : J d mi pc' ls (.long (x / y) :: st) w Q) : J d mi pc ls (.long y :: .long x :: st) w Q := by
  intro p l e R s m args below meth c H locs q D dA A arr hR C hS hP hD hl
  obtain ⟨h, rfl⟩ := h
  exact lv_ldiv C.1 C.2.1 h hne (k p l e R s m args below meth c H locs q D dA A arr hR C hS hP hD hl)
theorem j_lrem {x y : Int64} (h : decode mi.2.1 pc = .ok (.lrem, 1) ∧ pc + 1 = pc') (hne : ¬ y = 0) (k : J d mi pc' ls (.long (x - x / y * y) :: st) w Q) : J d mi pc ls (.long y :: .long x :: st) w Q := by
  intro p l e R s m args below meth c H locs q D dA A arr hR C hS hP hD hl
  obtain ⟨h, rfl⟩ := h
  exact lv_lrem C.1 C.2.1 h hne (k p l e R s m args below meth c H locs q D dA A arr hR C hS hP hD hl)
theorem j_i2l {x : Int32} (h : decode mi.2.1 pc = .ok (.i2l, 1) ∧ pc + 1 = pc')  (k : J d mi pc' ls (.long (x.toInt64) :: st) w Q) : J d mi pc ls (.int x :: st) w Q := by
  intro p l e R s m args below meth c H locs q D dA A arr hR C hS hP hD hl
  obtain ⟨h, rfl⟩ := h
  exact lv_i2l C.1 C.2.1 h rfl (k p l e R s m args below meth c H locs q D dA A arr hR C hS hP hD hl)
theorem j_l2i {x : Int64} (h : decode mi.2.1 pc = .ok (.l2i, 1) ∧ pc + 1 = pc')  (k : J d mi pc' ls (.int (x.toInt32) :: st) w Q) : J d mi pc ls (.long x :: st) w Q := by
  intro p l e R s m args below meth c H locs q D dA A arr hR C hS hP hD hl
  obtain ⟨h, rfl⟩ := h
  exact lv_l2i C.1 C.2.1 h rfl (k p l e R s m args below meth c H locs q D dA A arr hR C hS hP hD hl)
theorem j_i2b {x : Int32} (h : decode mi.2.1 pc = .ok (.i2b, 1) ∧ pc + 1 = pc')  (k : J d mi pc' ls (.int (x.toInt8.toInt32) :: st) w Q) : J d mi pc ls (.int x :: st) w Q := by
  intro p l e R s m args below meth c H locs q D dA A arr hR C hS hP hD hl
  obtain ⟨h, rfl⟩ := h
  exact lv_i2b C.1 C.2.1 h rfl (k p l e R s m args below meth c H locs q D dA A arr hR C hS hP hD hl)
theorem j_i2c {x : Int32} (h : decode mi.2.1 pc = .ok (.i2c, 1) ∧ pc + 1 = pc')  (k : J d mi pc' ls (.int ((x.toUInt32 % 65536).toInt32) :: st) w Q) : J d mi pc ls (.int x :: st) w Q := by
  intro p l e R s m args below meth c H locs q D dA A arr hR C hS hP hD hl
  obtain ⟨h, rfl⟩ := h
  exact lv_i2c C.1 C.2.1 h rfl (k p l e R s m args below meth c H locs q D dA A arr hR C hS hP hD hl)
theorem j_iconst {n : Int} {v : Int32} (h : decode mi.2.1 pc = .ok (.iconst n, 1) ∧ pc + 1 = pc') (hv : Int32.ofInt n = v) (k : J d mi pc' ls (.int v :: st) w Q) : J d mi pc ls (st) w Q := by
  intro p l e R s m args below meth c H locs q D dA A arr hR C hS hP hD hl
  obtain ⟨h, rfl⟩ := h
  exact lv_iconst C.1 C.2.1 h hv (k p l e R s m args below meth c H locs q D dA A arr hR C hS hP hD hl)
theorem j_bipush {n : Int} {v : Int32} (h : decode mi.2.1 pc = .ok (.bipush n, 2) ∧ pc + 2 = pc') (hv : (Int8.ofInt n).toInt32 = v) (k : J d mi pc' ls (.int v :: st) w Q) : J d mi pc ls (st) w Q := by
  intro p l e R s m args below meth c H locs q D dA A arr hR C hS hP hD hl
  obtain ⟨h, rfl⟩ := h
  exact lv_bipush C.1 C.2.1 h hv (k p l e R s m args below meth c H locs q D dA A arr hR C hS hP hD hl)
theorem j_sipush {n : Int} {v : Int32} (h : decode mi.2.1 pc = .ok (.sipush n, 3) ∧ pc + 3 = pc') (hv : (Int16.ofInt n).toInt32 = v) (k : J d mi pc' ls (.int v :: st) w Q) : J d mi pc ls (st) w Q := by
  intro p l e R s m args below meth c H locs q D dA A arr hR C hS hP hD hl
  obtain ⟨h, rfl⟩ := h
  exact lv_sipush C.1 C.2.1 h hv (k p l e R s m args below meth c H locs q D dA A arr hR C hS hP hD hl)
theorem j_ldc {i : Nat} {v : Int32} (h : decode mi.2.1 pc = .ok (.ldc i, 2) ∧ pc + 2 = pc') (hv : Cond.constant mi.1.cls i v ∈ UW) (k : J d mi pc' ls (.int v :: st) w Q) : J d mi pc ls (st) w Q := by
  intro p l e R s m args below meth c H locs q D dA A arr hR C hS hP hD hl
  obtain ⟨h, rfl⟩ := h
  exact lv_ldc C.1 C.2.1 C.2.2.2.2.2.1 (C.2.2.2.2.2.2.1 _ hv) h (k p l e R s m args below meth c H locs q D dA A arr hR C hS hP hD hl)
theorem j_ldcw {i : Nat} {v : Int32} (h : decode mi.2.1 pc = .ok (.ldc_w i, 3) ∧ pc + 3 = pc') (hv : Cond.constant mi.1.cls i v ∈ UW) (k : J d mi pc' ls (.int v :: st) w Q) : J d mi pc ls (st) w Q := by
  intro p l e R s m args below meth c H locs q D dA A arr hR C hS hP hD hl
  obtain ⟨h, rfl⟩ := h
  exact lv_ldcw C.1 C.2.1 C.2.2.2.2.2.1 (C.2.2.2.2.2.2.1 _ hv) h (k p l e R s m args below meth c H locs q D dA A arr hR C hS hP hD hl)
theorem j_ldc2 {i : Nat} {v : Int64} (h : decode mi.2.1 pc = .ok (.ldc2_w i, 3) ∧ pc + 3 = pc') (hv : Cond.constantLong mi.1.cls i v ∈ UW) (k : J d mi pc' ls (.long v :: st) w Q) : J d mi pc ls (st) w Q := by
  intro p l e R s m args below meth c H locs q D dA A arr hR C hS hP hD hl
  obtain ⟨h, rfl⟩ := h
  exact lv_ldc2 C.1 C.2.1 C.2.2.2.2.2.1 (C.2.2.2.2.2.2.1 _ hv) h (k p l e R s m args below meth c H locs q D dA A arr hR C hS hP hD hl)
theorem j_dup {v : Value} (h : decode mi.2.1 pc = .ok (.dup, 1) ∧ pc + 1 = pc') (hc : v.category = 1) (k : J d mi pc' ls (v :: v :: st) w Q) : J d mi pc ls (v :: st) w Q := by
  intro p l e R s m args below meth c H locs q D dA A arr hR C hS hP hD hl
  obtain ⟨h, rfl⟩ := h
  exact lv_dup C.1 C.2.1 h ((cV_cat q v).trans hc) (k p l e R s m args below meth c H locs q D dA A arr hR C hS hP hD hl)
theorem j_pop {v : Value} (h : decode mi.2.1 pc = .ok (.pop, 1) ∧ pc + 1 = pc') (hc : v.category = 1) (k : J d mi pc' ls (st) w Q) : J d mi pc ls (v :: st) w Q := by
  intro p l e R s m args below meth c H locs q D dA A arr hR C hS hP hD hl
  obtain ⟨h, rfl⟩ := h
  exact lv_pop C.1 C.2.1 h ((cV_cat q v).trans hc) (k p l e R s m args below meth c H locs q D dA A arr hR C hS hP hD hl)
theorem j_dup2 {v u : Value} (h : decode mi.2.1 pc = .ok (.dup2, 1) ∧ pc + 1 = pc') (hv : v.category = 1) (hu : u.category = 1) (k : J d mi pc' ls (v :: u :: v :: u :: st) w Q) : J d mi pc ls (v :: u :: st) w Q := by
  intro p l e R s m args below meth c H locs q D dA A arr hR C hS hP hD hl
  obtain ⟨h, rfl⟩ := h
  exact lv_dup2_11 C.1 C.2.1 h ((cV_cat q v).trans hv) ((cV_cat q u).trans hu) (k p l e R s m args below meth c H locs q D dA A arr hR C hS hP hD hl)
theorem j_iload_n {i : Fin 4} {x : Int32} (h : decode mi.2.1 pc = .ok (.iload_n i, 1) ∧ pc + 1 = pc') (hv : ls[(i : Nat)]? = some (.int x)) (k : J d mi pc' ls (.int x :: st) w Q) : J d mi pc ls (st) w Q := by
  intro p l e R s m args below meth c H locs q D dA A arr hR C hS hP hD hl
  obtain ⟨h, rfl⟩ := h
  exact lv_iload_n C.1 C.2.1 h rfl (hl.2.2 _ _ hv (by simp)) (k p l e R s m args below meth c H locs q D dA A arr hR C hS hP hD hl)
theorem j_iload {i : Nat} {x : Int32} (h : decode mi.2.1 pc = .ok (.iload i, 2) ∧ pc + 2 = pc') (hv : ls[i]? = some (.int x)) (k : J d mi pc' ls (.int x :: st) w Q) : J d mi pc ls (st) w Q := by
  intro p l e R s m args below meth c H locs q D dA A arr hR C hS hP hD hl
  obtain ⟨h, rfl⟩ := h
  exact lv_iload C.1 C.2.1 h (hl.2.2 _ _ hv (by simp)) (k p l e R s m args below meth c H locs q D dA A arr hR C hS hP hD hl)
theorem j_lload_n {i : Fin 4} {x : Int64} (h : decode mi.2.1 pc = .ok (.lload_n i, 1) ∧ pc + 1 = pc') (hv : ls[(i : Nat)]? = some (.long x)) (k : J d mi pc' ls (.long x :: st) w Q) : J d mi pc ls (st) w Q := by
  intro p l e R s m args below meth c H locs q D dA A arr hR C hS hP hD hl
  obtain ⟨h, rfl⟩ := h
  exact lv_lload_n C.1 C.2.1 h rfl (hl.2.2 _ _ hv (by simp)) (k p l e R s m args below meth c H locs q D dA A arr hR C hS hP hD hl)
theorem j_lload {i : Nat} {x : Int64} (h : decode mi.2.1 pc = .ok (.lload i, 2) ∧ pc + 2 = pc') (hv : ls[i]? = some (.long x)) (k : J d mi pc' ls (.long x :: st) w Q) : J d mi pc ls (st) w Q := by
  intro p l e R s m args below meth c H locs q D dA A arr hR C hS hP hD hl
  obtain ⟨h, rfl⟩ := h
  exact lv_lload C.1 C.2.1 h (hl.2.2 _ _ hv (by simp)) (k p l e R s m args below meth c H locs q D dA A arr hR C hS hP hD hl)
theorem j_aload_n {i : Fin 4} {x : Nat} (h : decode mi.2.1 pc = .ok (.aload_n i, 1) ∧ pc + 1 = pc') (hv : ls[(i : Nat)]? = some (.ref x)) (k : J d mi pc' ls (.ref x :: st) w Q) : J d mi pc ls (st) w Q := by
  intro p l e R s m args below meth c H locs q D dA A arr hR C hS hP hD hl
  obtain ⟨h, rfl⟩ := h
  exact lv_aload_n C.1 C.2.1 h rfl (hl.2.2 _ _ hv (by simp)) (k p l e R s m args below meth c H locs q D dA A arr hR C hS hP hD hl)
theorem j_aload {i : Nat} {x : Nat} (h : decode mi.2.1 pc = .ok (.aload i, 2) ∧ pc + 2 = pc') (hv : ls[i]? = some (.ref x)) (k : J d mi pc' ls (.ref x :: st) w Q) : J d mi pc ls (st) w Q := by
  intro p l e R s m args below meth c H locs q D dA A arr hR C hS hP hD hl
  obtain ⟨h, rfl⟩ := h
  exact lv_aload C.1 C.2.1 h (hl.2.2 _ _ hv (by simp)) (k p l e R s m args below meth c H locs q D dA A arr hR C hS hP hD hl)
theorem j_istore_n {i : Fin 4} {x : Int32} (h : decode mi.2.1 pc = .ok (.istore_n i, 1) ∧ pc + 1 = pc') (hn : (i : Nat) < mi.2.2.1) (ho : okAt ls (i : Nat) = true) (k : J d mi pc' (ls.set (i : Nat) (.int x)) st w Q) : J d mi pc ls (.int x :: st) w Q := by
  intro p l e R s m args below meth c H locs q D dA A arr hR C hS hP hD hl
  obtain ⟨h, rfl⟩ := h
  refine lv_istore_n C.1 C.2.1 h rfl hl.has hn rfl fun arr2 h2 => ?_
  exact k p l e R s m args below meth c H locs q D dA A arr2 hR C hS hP hD (lvH.store rfl ho h2)
theorem j_istore {i : Nat} {x : Int32} (h : decode mi.2.1 pc = .ok (.istore i, 2) ∧ pc + 2 = pc') (hn : i < mi.2.2.1) (ho : okAt ls i = true) (k : J d mi pc' (ls.set i (.int x)) st w Q) : J d mi pc ls (.int x :: st) w Q := by
  intro p l e R s m args below meth c H locs q D dA A arr hR C hS hP hD hl
  obtain ⟨h, rfl⟩ := h
  refine lv_istore C.1 C.2.1 h  hl.has hn rfl fun arr2 h2 => ?_
  exact k p l e R s m args below meth c H locs q D dA A arr2 hR C hS hP hD (lvH.store rfl ho h2)
theorem j_astore_n {i : Fin 4} {x : Nat} (h : decode mi.2.1 pc = .ok (.astore_n i, 1) ∧ pc + 1 = pc') (hn : (i : Nat) < mi.2.2.1) (ho : okAt ls (i : Nat) = true) (k : J d mi pc' (ls.set (i : Nat) (.ref x)) st w Q) : J d mi pc ls (.ref x :: st) w Q := by
  intro p l e R s m args below meth c H locs q D dA A arr hR C hS hP hD hl
  obtain ⟨h, rfl⟩ := h
  refine lv_astore_n C.1 C.2.1 h rfl hl.has hn rfl fun arr2 h2 => ?_
  exact k p l e R s m args below meth c H locs q D dA A arr2 hR C hS hP hD (lvH.store rfl ho h2)
theorem j_lstore_n {i : Fin 4} {x : Int64} (h : decode mi.2.1 pc = .ok (.lstore_n i, 1) ∧ pc + 1 = pc') (hn : (i : Nat) + 1 < mi.2.2.1) (ho : okAt ls (i : Nat) = true) (k : J d mi pc' ((ls.set (i : Nat) (.long x)).set ((i : Nat) + 1) .null) st w Q) : J d mi pc ls (.long x :: st) w Q := by
  intro p l e R s m args below meth c H locs q D dA A arr hR C hS hP hD hl
  obtain ⟨h, rfl⟩ := h
  refine lv_lstore_n C.1 C.2.1 h rfl hl.has hn rfl fun arr2 h2 => ?_
  exact k p l e R s m args below meth c H locs q D dA A arr2 hR C hS hP hD (lvH.store2 rfl ho h2)
theorem j_iinc {i : Nat} {n : Int} {x v : Int32} (h : decode mi.2.1 pc = .ok (.iinc i n, 3) ∧ pc + 3 = pc') (hv : ls[i]? = some (.int x)) (he : Int32.ofInt n = v) (hn : i < mi.2.2.1) (ho : okAt ls i = true) (k : J d mi pc' (ls.set i (.int (x + v))) st w Q) : J d mi pc ls st w Q := by
  intro p l e R s m args below meth c H locs q D dA A arr hR C hS hP hD hl
  obtain ⟨h, rfl⟩ := h
  subst he
  obtain ⟨j, hj⟩ := List.getElem?_of_mem (lvl_mem (q := q) hv (by simp))
  refine lv_iinc C.1 C.2.1 h hl.has hj rfl hn rfl fun arr2 h2 => ?_
  exact k p l e R s m args below meth c H locs q D dA A arr2 hR C hS hP hD (lvH.store rfl ho h2)
theorem j_goto {off : Int} {tgt : Nat} (h : decode mi.2.1 pc = .ok (.goto off, 3) ∧ pc + 3 = pc') (ht : (pc : Int) + off = (tgt : Int)) (k : J d mi tgt ls st w Q) : J d mi pc ls st w Q := by
  intro p l e R s m args below meth c H locs q D dA A arr hR C hS hP hD hl
  exact lv_goto C.1 C.2.1 h.1 ht (k p l e R s m args below meth c H locs q D dA A arr hR C hS hP hD hl)
theorem j_if_eq {x : Int32} {off : Int} {tgt : Nat} (h : decode mi.2.1 pc = .ok (.ifCond .eq off, 3) ∧ pc + 3 = pc') (ht : (pc : Int) + off = (tgt : Int)) (kt : x = 0 → J d mi tgt ls st w Q) (kf : ¬ x = 0 → J d mi pc' ls st w Q) : J d mi pc ls (.int x :: st) w Q := by
  intro p l e R s m args below meth c H locs q D dA A arr hR C hS hP hD hl
  obtain ⟨h, rfl⟩ := h
  exact lv_if_eq C.1 C.2.1 h ht (fun hc => kt hc p l e R s m args below meth c H locs q D dA A arr hR C hS hP hD hl) (fun hc => kf hc p l e R s m args below meth c H locs q D dA A arr hR C hS hP hD hl)
theorem j_icmp_eq {x y : Int32} {off : Int} {tgt : Nat} (h : decode mi.2.1 pc = .ok (.if_icmp .eq off, 3) ∧ pc + 3 = pc') (ht : (pc : Int) + off = (tgt : Int)) (kt : x = y → J d mi tgt ls st w Q) (kf : ¬ x = y → J d mi pc' ls st w Q) : J d mi pc ls (.int y :: .int x :: st) w Q := by
  intro p l e R s m args below meth c H locs q D dA A arr hR C hS hP hD hl
  obtain ⟨h, rfl⟩ := h
  exact lv_icmp_eq C.1 C.2.1 h ht (fun hc => kt hc p l e R s m args below meth c H locs q D dA A arr hR C hS hP hD hl) (fun hc => kf hc p l e R s m args below meth c H locs q D dA A arr hR C hS hP hD hl)
theorem j_if_ne {x : Int32} {off : Int} {tgt : Nat} (h : decode mi.2.1 pc = .ok (.ifCond .ne off, 3) ∧ pc + 3 = pc') (ht : (pc : Int) + off = (tgt : Int)) (kt : ¬ x = 0 → J d mi tgt ls st w Q) (kf : x = 0 → J d mi pc' ls st w Q) : J d mi pc ls (.int x :: st) w Q := by
  intro p l e R s m args below meth c H locs q D dA A arr hR C hS hP hD hl
  obtain ⟨h, rfl⟩ := h
  exact lv_if_ne C.1 C.2.1 h ht (fun hc => kt hc p l e R s m args below meth c H locs q D dA A arr hR C hS hP hD hl) (fun hc => kf hc p l e R s m args below meth c H locs q D dA A arr hR C hS hP hD hl)
theorem j_icmp_ne {x y : Int32} {off : Int} {tgt : Nat} (h : decode mi.2.1 pc = .ok (.if_icmp .ne off, 3) ∧ pc + 3 = pc') (ht : (pc : Int) + off = (tgt : Int)) (kt : ¬ x = y → J d mi tgt ls st w Q) (kf : x = y → J d mi pc' ls st w Q) : J d mi pc ls (.int y :: .int x :: st) w Q := by
  intro p l e R s m args below meth c H locs q D dA A arr hR C hS hP hD hl
  obtain ⟨h, rfl⟩ := h
  exact lv_icmp_ne C.1 C.2.1 h ht (fun hc => kt hc p l e R s m args below meth c H locs q D dA A arr hR C hS hP hD hl) (fun hc => kf hc p l e R s m args below meth c H locs q D dA A arr hR C hS hP hD hl)
theorem j_if_lt {x : Int32} {off : Int} {tgt : Nat} (h : decode mi.2.1 pc = .ok (.ifCond .lt off, 3) ∧ pc + 3 = pc') (ht : (pc : Int) + off = (tgt : Int)) (kt : x < 0 → J d mi tgt ls st w Q) (kf : ¬ x < 0 → J d mi pc' ls st w Q) : J d mi pc ls (.int x :: st) w Q := by
  intro p l e R s m args below meth c H locs q D dA A arr hR C hS hP hD hl
  obtain ⟨h, rfl⟩ := h
  exact lv_if_lt C.1 C.2.1 h ht (fun hc => kt hc p l e R s m args below meth c H locs q D dA A arr hR C hS hP hD hl) (fun hc => kf hc p l e R s m args below meth c H locs q D dA A arr hR C hS hP hD hl)
theorem j_icmp_lt {x y : Int32} {off : Int} {tgt : Nat} (h : decode mi.2.1 pc = .ok (.if_icmp .lt off, 3) ∧ pc + 3 = pc') (ht : (pc : Int) + off = (tgt : Int)) (kt : x < y → J d mi tgt ls st w Q) (kf : ¬ x < y → J d mi pc' ls st w Q) : J d mi pc ls (.int y :: .int x :: st) w Q := by
  intro p l e R s m args below meth c H locs q D dA A arr hR C hS hP hD hl
  obtain ⟨h, rfl⟩ := h
  exact lv_icmp_lt C.1 C.2.1 h ht (fun hc => kt hc p l e R s m args below meth c H locs q D dA A arr hR C hS hP hD hl) (fun hc => kf hc p l e R s m args below meth c H locs q D dA A arr hR C hS hP hD hl)
theorem j_if_ge {x : Int32} {off : Int} {tgt : Nat} (h : decode mi.2.1 pc = .ok (.ifCond .ge off, 3) ∧ pc + 3 = pc') (ht : (pc : Int) + off = (tgt : Int)) (kt : 0 ≤ x → J d mi tgt ls st w Q) (kf : ¬ 0 ≤ x → J d mi pc' ls st w Q) : J d mi pc ls (.int x :: st) w Q := by
  intro p l e R s m args below meth c H locs q D dA A arr hR C hS hP hD hl
  obtain ⟨h, rfl⟩ := h
  exact lv_if_ge C.1 C.2.1 h ht (fun hc => kt hc p l e R s m args below meth c H locs q D dA A arr hR C hS hP hD hl) (fun hc => kf hc p l e R s m args below meth c H locs q D dA A arr hR C hS hP hD hl)
theorem j_icmp_ge {x y : Int32} {off : Int} {tgt : Nat} (h : decode mi.2.1 pc = .ok (.if_icmp .ge off, 3) ∧ pc + 3 = pc') (ht : (pc : Int) + off = (tgt : Int)) (kt : y ≤ x → J d mi tgt ls st w Q) (kf : ¬ y ≤ x → J d mi pc' ls st w Q) : J d mi pc ls (.int y :: .int x :: st) w Q := by
  intro p l e R s m args below meth c H locs q D dA A arr hR C hS hP hD hl
  obtain ⟨h, rfl⟩ := h
  exact lv_icmp_ge C.1 C.2.1 h ht (fun hc => kt hc p l e R s m args below meth c H locs q D dA A arr hR C hS hP hD hl) (fun hc => kf hc p l e R s m args below meth c H locs q D dA A arr hR C hS hP hD hl)
theorem j_if_gt {x : Int32} {off : Int} {tgt : Nat} (h : decode mi.2.1 pc = .ok (.ifCond .gt off, 3) ∧ pc + 3 = pc') (ht : (pc : Int) + off = (tgt : Int)) (kt : 0 < x → J d mi tgt ls st w Q) (kf : ¬ 0 < x → J d mi pc' ls st w Q) : J d mi pc ls (.int x :: st) w Q := by
  intro p l e R s m args below meth c H locs q D dA A arr hR C hS hP hD hl
  obtain ⟨h, rfl⟩ := h
  exact lv_if_gt C.1 C.2.1 h ht (fun hc => kt hc p l e R s m args below meth c H locs q D dA A arr hR C hS hP hD hl) (fun hc => kf hc p l e R s m args below meth c H locs q D dA A arr hR C hS hP hD hl)
theorem j_icmp_gt {x y : Int32} {off : Int} {tgt : Nat} (h : decode mi.2.1 pc = .ok (.if_icmp .gt off, 3) ∧ pc + 3 = pc') (ht : (pc : Int) + off = (tgt : Int)) (kt : y < x → J d mi tgt ls st w Q) (kf : ¬ y < x → J d mi pc' ls st w Q) : J d mi pc ls (.int y :: .int x :: st) w Q := by
  intro p l e R s m args below meth c H locs q D dA A arr hR C hS hP hD hl
  obtain ⟨h, rfl⟩ := h
  exact lv_icmp_gt C.1 C.2.1 h ht (fun hc => kt hc p l e R s m args below meth c H locs q D dA A arr hR C hS hP hD hl) (fun hc => kf hc p l e R s m args below meth c H locs q D dA A arr hR C hS hP hD hl)
theorem j_if_le {x : Int32} {off : Int} {tgt : Nat} (h : decode mi.2.1 pc = .ok (.ifCond .le off, 3) ∧ pc + 3 = pc') (ht : (pc : Int) + off = (tgt : Int)) (kt : x ≤ 0 → J d mi tgt ls st w Q) (kf : ¬ x ≤ 0 → J d mi pc' ls st w Q) : J d mi pc ls (.int x :: st) w Q := by
  intro p l e R s m args below meth c H locs q D dA A arr hR C hS hP hD hl
  obtain ⟨h, rfl⟩ := h
  exact lv_if_le C.1 C.2.1 h ht (fun hc => kt hc p l e R s m args below meth c H locs q D dA A arr hR C hS hP hD hl) (fun hc => kf hc p l e R s m args below meth c H locs q D dA A arr hR C hS hP hD hl)
theorem j_icmp_le {x y : Int32} {off : Int} {tgt : Nat} (h : decode mi.2.1 pc = .ok (.if_icmp .le off, 3) ∧ pc + 3 = pc') (ht : (pc : Int) + off = (tgt : Int)) (kt : x ≤ y → J d mi tgt ls st w Q) (kf : ¬ x ≤ y → J d mi pc' ls st w Q) : J d mi pc ls (.int y :: .int x :: st) w Q := by
  intro p l e R s m args below meth c H locs q D dA A arr hR C hS hP hD hl
  obtain ⟨h, rfl⟩ := h
  exact lv_icmp_le C.1 C.2.1 h ht (fun hc => kt hc p l e R s m args below meth c H locs q D dA A arr hR C hS hP hD hl) (fun hc => kf hc p l e R s m args below meth c H locs q D dA A arr hR C hS hP hD hl)
theorem j_tswOut {dflt lo hi : Int} {offs : Array Int} {len : Nat} {x : Int32} {tgt : Nat} (h : decode mi.2.1 pc = .ok (.tableswitch dflt lo hi offs, len) ∧ pc + len = pc') (hx : x.toInt < lo ∨ hi < x.toInt) (ht : (pc : Int) + dflt = (tgt : Int)) (k : J d mi tgt ls st w Q) : J d mi pc ls (.int x :: st) w Q := by
  intro p l e R s m args below meth c H locs q D dA A arr hR C hS hP hD hl
  exact lv_tableOut C.1 C.2.1 h.1 hx ht (k p l e R s m args below meth c H locs q D dA A arr hR C hS hP hD hl)
theorem j_tswIn {dflt lo hi : Int} {offs : Array Int} {len : Nat} {x : Int32} {off : Int} {tgt : Nat} (h : decode mi.2.1 pc = .ok (.tableswitch dflt lo hi offs, len) ∧ pc + len = pc') (h1 : ¬ x.toInt < lo) (h2 : ¬ hi < x.toInt) (ho : offs[(x.toInt - lo).toNat]? = some off) (ht : (pc : Int) + off = (tgt : Int)) (k : J d mi tgt ls st w Q) : J d mi pc ls (.int x :: st) w Q := by
  intro p l e R s m args below meth c H locs q D dA A arr hR C hS hP hD hl
  exact lv_tableIn C.1 C.2.1 h.1 h1 h2 ho ht (k p l e R s m args below meth c H locs q D dA A arr hR C hS hP hD hl)
theorem j_lsw {dflt : Int} {ps : Array (Int × Int)} {len : Nat} {x : Int32} {off : Int} {tgt : Nat} (h : decode mi.2.1 pc = .ok (.lookupswitch dflt ps, len) ∧ pc + len = pc') (hp : (ps.toList.zip (ps.toList.drop 1)).all (fun (a, next) => a.1 < next.1) = true) (ho : Op.lookupswitch.offset ps.toList dflt x.toInt = off) (ht : (pc : Int) + off = (tgt : Int)) (k : J d mi tgt ls st w Q) : J d mi pc ls (.int x :: st) w Q := by
  intro p l e R s m args below meth c H locs q D dA A arr hR C hS hP hD hl
  exact lv_lookup C.1 C.2.1 h.1 hp ho ht (k p l e R s m args below meth c H locs q D dA A arr hR C hS hP hD hl)
theorem j_get {idx ci kf a : Nat} {ty : FieldType} {fin : Bool} {fs : List Value} {v : Value} (hf : FOK mi.1.cls idx ci kf ty fin) (h : decode mi.2.1 pc = .ok (.getfield idx, 3) ∧ pc + 3 = pc') (hc : w[a]? = some (.inr (ci, fs))) (hv : fs[kf]? = some v) (k : J d mi pc' ls (v :: st) w Q) : J d mi pc ls (.ref a :: st) w Q := by
  intro p l e R s m args below meth c H locs q D dA A arr hR C hS hP hD hl
  obtain ⟨h, rfl⟩ := h
  obtain ⟨CC, T, N, ty0, g1, g2, g3, g4, g5, g6, g7, g8⟩ := hf
  exact va_get (ref := (T kf).1) C.1 C.2.1 C.2.2.2.2.2.2.1 g2 C.2.2.2.2.2.1 C.2.2.2.2.2.2.2.2.1 hP a (cW_get hc) g1 kf g5 (C.2.2.2.2.2.2.1 _ g8) (fun _ h9 => h9) (v := cV q v) (by simp [hv]) h (k p l e R s m args below meth c H locs q D dA A arr hR C hS hP hD hl)
theorem j_put {idx ci kf a : Nat} {ty : FieldType} {fs : List Value} {v : Value} (hf : FOK mi.1.cls idx ci kf ty false) (h : decode mi.2.1 pc = .ok (.putfield idx, 3) ∧ pc + 3 = pc') (hc : w[a]? = some (.inr (ci, fs))) (hn : ∀ q, narrow ty (cV q v) = cV q v) (hfit : ∀ q, fits ty (cV q v) = true) (hk : kf < fs.length) (k : J d mi pc' ls st (w.set a (.inr (ci, fs.set kf v))) Q) : J d mi pc ls (v :: .ref a :: st) w Q := by
  intro p l e R s m args below meth c H locs q D dA A arr hR C hS hP hD hl
  obtain ⟨h, rfl⟩ := h
  obtain ⟨CC, T, N, ty0, g1, g2, g3, g4, g5, g6, g7, g8⟩ := hf
  subst g6
  refine va_put (ref := (T kf).1) C.1 C.2.1 C.2.2.2.2.2.2.1 g2 ty0 g3 g4 C.2.2.2.2.2.1 C.2.2.2.2.2.2.2.2.1 hP hD hS a (cW_get hc) g1 kf g5 (C.2.2.2.2.2.2.1 _ g8) (fun _ h9 => h9) g7 (g3 kf g5) (hn q) (hfit q) (by simpa using hk) h fun H1 locs1 hP1 hD1 hS1 => ?_
  have e1 : (cW q dA w).set a (q a, Sum.inr (ci, (List.map (cV q) fs).set kf (cV q v))) = cW q dA (w.set a (.inr (ci, fs.set kf v))) := by
    rw [← cW_set]; simp only [cE, List.map_set]
  rw [e1] at hP1 hD1
  exact k p l e R s m args below meth c H1 locs1 q D dA A arr hR C hS1 hP1 hD1 hl
theorem j_iald {a n : Nat} {f : Nat → Int32} {i : Int32} (h : decode mi.2.1 pc = .ok (.iaload, 1) ∧ pc + 1 = pc') (hc : w[a]? = some (iA n f)) (hi : vp_in i n) (k : J d mi pc' ls (.int (f i.toNatClampNeg) :: st) w Q) : J d mi pc ls (.int i :: .ref a :: st) w Q := by
  intro p l e R s m args below meth c H locs q D dA A arr hR C hS hP hD hl
  obtain ⟨h, rfl⟩ := h
  exact va_iald C.1 C.2.1 C.2.2.2.2.2.2.2.2.1 hP a 0 (cW_get hc) rfl hi h (k p l e R s m args below meth c H locs q D dA A arr hR C hS hP hD hl)
theorem j_bald {a n : Nat} {f : Nat → Int32} {i : Int32} (h : decode mi.2.1 pc = .ok (.baload, 1) ∧ pc + 1 = pc') (hc : w[a]? = some (bA n f)) (hi : vp_in i n) (k : J d mi pc' ls (.int (f i.toNatClampNeg) :: st) w Q) : J d mi pc ls (.int i :: .ref a :: st) w Q := by
  intro p l e R s m args below meth c H locs q D dA A arr hR C hS hP hD hl
  obtain ⟨h, rfl⟩ := h
  exact va_bald C.1 C.2.1 C.2.2.2.2.2.2.2.2.1 hP a 1 (cW_get hc) rfl hi h (k p l e R s m args below meth c H locs q D dA A arr hR C hS hP hD hl)
theorem j_aald {a n b : Nat} {f : Nat → Option Nat} {i : Int32} (h : decode mi.2.1 pc = .ok (.aaload, 1) ∧ pc + 1 = pc') (hc : w[a]? = some (rA n f)) (hi : vp_in i n) (hb : f i.toNatClampNeg = some b) (k : J d mi pc' ls (.ref b :: st) w Q) : J d mi pc ls (.int i :: .ref a :: st) w Q := by
  intro p l e R s m args below meth c H locs q D dA A arr hR C hS hP hD hl
  obtain ⟨h, rfl⟩ := h
  have hlt : i.toNatClampNeg < n := Nat.not_le.mp fun q => hi (Or.inr q)
  have hg : H[q a]? = some (arrV (dA 2) n (fun j => va_rf ((f j).map q))) := hP a _ (cW_get hc)
  refine W.aald (v := .ref (q b)) (ty := .array .int) C.1 C.2.1 hg ((C.2.2.2.2.2.2.2.2.1.2 2 _ rfl).1 n (fun j => va_rf ((f j).map q))) rfl (fun q => by cases q) (by show ¬ (i < 0 ∨ (arrV _ _ _).slots.size ≤ _); rw [arrV_size]; exact hi) (by show (arrV _ _ _).slots[_]? = _; rw [arrV_read _ _ hlt]; simp [hb, va_rf]) rfl rfl h (k p l e R s m args below meth c H locs q D dA A arr hR C hS hP hD hl)
theorem j_alen {a n : Nat} {t : Nat} {x : _} {v : Int32} (h : decode mi.2.1 pc = .ok (.arraylength, 1) ∧ pc + 1 = pc') (hc : w[a]? = some (.inl (t, n, x))) (ht : t < 3) (hv : Int32.ofNat n = v) (k : J d mi pc' ls (.int v :: st) w Q) : J d mi pc ls (.ref a :: st) w Q := by
  intro p l e R s m args below meth c H locs q D dA A arr hR C hS hP hD hl
  obtain ⟨h, rfl⟩ := h
  have hx : ∃ y, (cW q dA w)[a]? = some (q a, .inl (dA t, n, y)) := by
    refine ⟨(cR q (n, x)).2, ?_⟩
    rw [cW_get hc]
    rcases x with x | x | x | x | x <;> rfl
  obtain ⟨y, hx⟩ := hx
  rcases (show t = 0 ∨ t = 1 ∨ t = 2 by omega) with rfl | rfl | rfl
  · exact va_alen C.1 C.2.1 C.2.2.2.2.2.2.2.2.1 hP a 0 hx rfl hv h (k p l e R s m args below meth c H locs q D dA A arr hR C hS hP hD hl)
  · exact va_alen C.1 C.2.1 C.2.2.2.2.2.2.2.2.1 hP a 1 hx rfl hv h (k p l e R s m args below meth c H locs q D dA A arr hR C hS hP hD hl)
  · exact va_alen C.1 C.2.1 C.2.2.2.2.2.2.2.2.1 hP a 2 hx rfl hv h (k p l e R s m args below meth c H locs q D dA A arr hR C hS hP hD hl)
theorem j_iast {a n : Nat} {f : Nat → Int32} {i x : Int32} (h : decode mi.2.1 pc = .ok (.iastore, 1) ∧ pc + 1 = pc') (hc : w[a]? = some (iA n f)) (hi : vp_in i n) (k : J d mi pc' ls st (w.set a (iA n (upd f i.toNatClampNeg x))) Q) : J d mi pc ls (.int x :: .int i :: .ref a :: st) w Q := by
  intro p l e R s m args below meth c H locs q D dA A arr hR C hS hP hD hl
  obtain ⟨h, rfl⟩ := h
  refine va_iast C.1 C.2.1 C.2.2.2.2.2.2.2.2.1 hP hD hS a 0 (cW_get hc) rfl hi h fun H1 locs1 hP1 hD1 hS1 => ?_
  exact k p l e R s m args below meth c H1 locs1 q D dA A arr hR C hS1 (by rw [← cW_set]; exact hP1) (by rw [← cW_set]; exact hD1) hl
theorem j_bast {a n : Nat} {f : Nat → Int32} {i x : Int32} (h : decode mi.2.1 pc = .ok (.bastore, 1) ∧ pc + 1 = pc') (hc : w[a]? = some (bA n f)) (hi : vp_in i n) (k : J d mi pc' ls st (w.set a (bA n (upd f i.toNatClampNeg (vp_nar .byte x)))) Q) : J d mi pc ls (.int x :: .int i :: .ref a :: st) w Q := by
  intro p l e R s m args below meth c H locs q D dA A arr hR C hS hP hD hl
  obtain ⟨h, rfl⟩ := h
  refine va_bast C.1 C.2.1 C.2.2.2.2.2.2.2.2.1 hP hD hS a 1 (cW_get hc) rfl hi h fun H1 locs1 hP1 hD1 hS1 => ?_
  exact k p l e R s m args below meth c H1 locs1 q D dA A arr hR C hS1 (by rw [← cW_set]; exact hP1) (by rw [← cW_set]; exact hD1) hl
theorem j_mmax {x y : Int32} {idx : Nat} (hlink : Cond.methodLink mi.1.cls idx Lib.Math.max.name ∈ UW) (h : decode mi.2.1 pc = .ok (.invokestatic idx, 3) ∧ pc + 3 = pc') (hd : 1 ≤ d) (hr : (st.map fun v => v.category).sum ≤ 8) (k : J d mi pc' ls (.int (if x < y then y else x) :: st) w Q) : J d mi pc ls (.int y :: .int x :: st) w Q := by
  intro p l e R s m args below meth c H locs q D dA A arr hR C hS hP hD hl
  obtain ⟨h, rfl⟩ := h
  have hr2 : ((st.map (cV q)).map fun v => v.category).sum ≤ 8 := by
    rw [List.map_map, show ((fun v : Value => v.category) ∘ cV q) = fun v => v.category from funext fun v => cV_cat q v]
    exact hr
  exact va_mmax C.1 C.2.1 (C.2.2.1.trans hl.1.symm) C.2.2.2.2.2.1 (C.2.2.2.2.2.2.1 _ hlink) (C.2.2.2.2.2.2.1 _ math_max.1) (C.2.2.2.2.2.2.1 _ math_init) (C.2.2.2.2.2.2.1 _ math_max.2) (by omega) (by omega) (Nat.zero_le _) (Nat.zero_le _) h (k p l e R s m args below meth c H locs q D dA A arr hR C hS hP hD hl)
theorem j_mmin {x y : Int32} {idx : Nat} (hlink : Cond.methodLink mi.1.cls idx Lib.Math.min.name ∈ UW) (h : decode mi.2.1 pc = .ok (.invokestatic idx, 3) ∧ pc + 3 = pc') (hd : 1 ≤ d) (hr : (st.map fun v => v.category).sum ≤ 8) (k : J d mi pc' ls (.int (if y < x then y else x) :: st) w Q) : J d mi pc ls (.int y :: .int x :: st) w Q := by
  intro p l e R s m args below meth c H locs q D dA A arr hR C hS hP hD hl
  obtain ⟨h, rfl⟩ := h
  have hr2 : ((st.map (cV q)).map fun v => v.category).sum ≤ 8 := by
    rw [List.map_map, show ((fun v : Value => v.category) ∘ cV q) = fun v => v.category from funext fun v => cV_cat q v]
    exact hr
  exact va_mmin C.1 C.2.1 (C.2.2.1.trans hl.1.symm) C.2.2.2.2.2.1 (C.2.2.2.2.2.2.1 _ hlink) (C.2.2.2.2.2.2.1 _ math_min.1) (C.2.2.2.2.2.2.1 _ math_init) (C.2.2.2.2.2.2.1 _ math_min.2) (by omega) (by omega) (Nat.zero_le _) (Nat.zero_le _) h (k p l e R s m args below meth c H locs q D dA A arr hR C hS hP hD hl)
theorem j_mabs {x : Int32} {idx : Nat} (hlink : Cond.methodLink mi.1.cls idx Lib.Math.abs.name ∈ UW) (h : decode mi.2.1 pc = .ok (.invokestatic idx, 3) ∧ pc + 3 = pc') (hd : 1 ≤ d) (hr : (st.map fun v => v.category).sum ≤ 8) (k : J d mi pc' ls (.int (if 0 ≤ x then x else 0 - x) :: st) w Q) : J d mi pc ls (.int x :: st) w Q := by
  intro p l e R s m args below meth c H locs q D dA A arr hR C hS hP hD hl
  obtain ⟨h, rfl⟩ := h
  have hr2 : ((st.map (cV q)).map fun v => v.category).sum ≤ 8 := by
    rw [List.map_map, show ((fun v : Value => v.category) ∘ cV q) = fun v => v.category from funext fun v => cV_cat q v]
    exact hr
  exact va_mabs C.1 C.2.1 (C.2.2.1.trans hl.1.symm) C.2.2.2.2.2.1 (C.2.2.2.2.2.2.1 _ hlink) (C.2.2.2.2.2.2.1 _ math_abs.1) (C.2.2.2.2.2.2.1 _ math_init) (C.2.2.2.2.2.2.1 _ math_abs.2) (by omega) (by omega) (Nat.zero_le _) (Nat.zero_le _) h (k p l e R s m args below meth c H locs q D dA A arr hR C hS hP hD hl)
theorem j_ldcS (hy : mi.1.cls = "LeapBoard$Page") (h : decode mi.2.1 pc = .ok (.ldc 46, 2) ∧ pc + 2 = pc') (k : J d mi pc' ls (.ref 1000 :: st) w Q) : J d mi pc ls st w Q := by
  intro p l e R s m args below meth c H locs q D dA A arr hR C hS hP hD hl
  obtain ⟨h, rfl⟩ := h
  exact va_ldcS C.1 C.2.1 (by rw [← hy]; exact C.2.2.2.2.2.1) C.2.2.2.2.2.2.2.2.2.2.1 h (k p l e R s m args below meth c H locs q D dA A arr hR C hS hP hD hl)
theorem j_getSv {idx : Nat} (hlink : Cond.fieldLink mi.1.cls idx "java/lang/String" "value" "[B" ∈ UW) (h : decode mi.2.1 pc = .ok (.getfield idx, 3) ∧ pc + 3 = pc') (k : J d mi pc' ls (.ref 1001 :: st) w Q) : J d mi pc ls (.ref 1000 :: st) w Q := by
  intro p l e R s m args below meth c H locs q D dA A arr hR C hS hP hD hl
  obtain ⟨h, rfl⟩ := h
  exact vk_getf C.1 C.2.1 (C.2.2.2.2.2.2.2.2.2.1.1 0 (by decide)).2.2.1 hS C.2.2.2.2.2.1 (C.2.2.2.2.2.2.1 _ hlink) (fun _ h9 => h9) h (k p l e R s m args below meth c H locs q D dA A arr hR C hS hP hD hl)
theorem j_getSc {idx : Nat} (hlink : Cond.fieldLink mi.1.cls idx "java/lang/String" "coder" "B" ∈ UW) (h : decode mi.2.1 pc = .ok (.getfield idx, 3) ∧ pc + 3 = pc') (k : J d mi pc' ls (.int 0 :: st) w Q) : J d mi pc ls (.ref 1000 :: st) w Q := by
  intro p l e R s m args below meth c H locs q D dA A arr hR C hS hP hD hl
  obtain ⟨h, rfl⟩ := h
  exact vk_getf C.1 C.2.1 (C.2.2.2.2.2.2.2.2.2.1.1 0 (by decide)).2.1 hS C.2.2.2.2.2.1 (C.2.2.2.2.2.2.1 _ hlink) (fun _ h9 => h9) h (k p l e R s m args below meth c H locs q D dA A arr hR C hS hP hD hl)
theorem j_getsC {idx : Nat} (hlink : Cond.fieldLink mi.1.cls idx "java/lang/String" "COMPACT_STRINGS" "Z" ∈ UW) (h : decode mi.2.1 pc = .ok (.getstatic idx, 3) ∧ pc + 3 = pc') (k : J d mi pc' ls (.int 1 :: st) w Q) : J d mi pc ls st w Q := by
  intro p l e R s m args below meth c H locs q D dA A arr hR C hS hP hD hl
  obtain ⟨h, rfl⟩ := h
  exact va_gets C.1 C.2.1 C.2.2.2.2.2.2.2.2.2.2.2 hS C.2.2.2.2.2.1 (C.2.2.2.2.2.2.1 _ hlink) (fun _ h9 => h9) h (k p l e R s m args below meth c H locs q D dA A arr hR C hS hP hD hl)
theorem j_baldS {i v : Int32} (h : decode mi.2.1 pc = .ok (.baload, 1) ∧ pc + 1 = pc') (hi : vp_in i 5) (hv : ([107, 119, 102, 99, 98] : List Int32).getD i.toNatClampNeg 0 = v) (k : J d mi pc' ls (.int v :: st) w Q) : J d mi pc ls (.int i :: .ref 1001 :: st) w Q := by
  intro p l e R s m args below meth c H locs q D dA A arr hR C hS hP hD hl
  obtain ⟨h, rfl⟩ := h
  exact va_tb C.1 C.2.1 (C.2.2.2.2.2.2.2.2.2.1.1 0 (by decide)).2.2.2 hS hi (v := .int v) (by subst hv; rfl) h (k p l e R s m args below meth c H locs q D dA A arr hR C hS hP hD hl)
theorem j_alenS (h : decode mi.2.1 pc = .ok (.arraylength, 1) ∧ pc + 1 = pc') (k : J d mi pc' ls (.int 5 :: st) w Q) : J d mi pc ls (.ref 1001 :: st) w Q := by
  intro p l e R s m args below meth c H locs q D dA A arr hR C hS hP hD hl
  obtain ⟨h, rfl⟩ := h
  exact va_tlen C.1 C.2.1 (C.2.2.2.2.2.2.2.2.2.1.1 0 (by decide)).2.2.2 hS (v := 5) (by decide) h (k p l e R s m args below meth c H locs q D dA A arr hR C hS hP hD hl)
theorem j_iret {ty : FieldType} {v : Int32} (h : decode mi.2.1 pc = .ok (.ireturn, 1) ∧ pc + 1 = pc') (hr : mi.2.2.2.1 = some ty) (hn : narrow ty (.int v) = .int v) (hq : Q (some (.int v)) w) : J d mi pc ls [.int v] w Q := by
  intro p l e R s m args below meth c H locs q D dA A arr hR C hS hP hD hl
  have hlocks : meth.locks = false := C.2.2.2.2.1
  refine W.zret C.1 C.2.1 (C.2.2.2.1.trans hr) hn (fun t ht hW => ⟨⟨some (.int v), w, rfl, hq, by rw [ht]; exact hP, va_K.moved hW.alike C.2.2.2.2.2.2.2.2.1, hD⟩, hS.F ht⟩) hS.2.2 h.1
theorem j_lret {v : Int64} (h : decode mi.2.1 pc = .ok (.lreturn, 1) ∧ pc + 1 = pc') (hr : mi.2.2.2.1 = some .long) (hq : Q (some (.long v)) w) : J d mi pc ls [.long v] w Q := by
  intro p l e R s m args below meth c H locs q D dA A arr hR C hS hP hD hl
  have hlocks : meth.locks = false := C.2.2.2.2.1
  refine W.lret C.1 C.2.1 (C.2.2.2.1.trans hr) (fun t ht hW => ⟨⟨some (.long v), w, rfl, hq, by rw [ht]; exact hP, va_K.moved hW.alike C.2.2.2.2.2.2.2.2.1, hD⟩, hS.F ht⟩) hS.2.2 h.1
theorem j_aret {rt : FieldType} {a : Nat} (h : decode mi.2.1 pc = .ok (.areturn, 1) ∧ pc + 1 = pc') (hr : mi.2.2.2.1 = some rt) (hrt : (∃ n, rt = .object n) ∨ ∃ t, rt = .array t) (hq : Q (some (.ref a)) w) : J d mi pc ls [.ref a] w Q := by
  intro p l e R s m args below meth c H locs q D dA A arr hR C hS hP hD hl
  have hlocks : meth.locks = false := C.2.2.2.2.1
  refine W.aret C.1 C.2.1 (C.2.2.2.1.trans hr) hrt (Or.inr ⟨_, rfl⟩) (fun t ht hW => ⟨⟨some (.ref a), w, rfl, hq, by rw [ht]; exact hP, va_K.moved hW.alike C.2.2.2.2.2.2.2.2.1, hD⟩, hS.F ht⟩) hS.2.2 h.1
theorem j_vret (h : decode mi.2.1 pc = .ok (.return_, 1) ∧ pc + 1 = pc') (hr : mi.2.2.2.1 = none) (hq : Q none w) : J d mi pc ls [] w Q := by
  intro p l e R s m args below meth c H locs q D dA A arr hR C hS hP hD hl
  have hlocks : meth.locks = false := C.2.2.2.2.1
  refine W.vret C.1 C.2.1 (C.2.2.2.1.trans hr) (fun t ht hW => ⟨⟨none, w, rfl, hq, by rw [ht]; exact hP, va_K.moved hW.alike C.2.2.2.2.2.2.2.2.1, hD⟩, hS.F ht⟩) hS.2.2 h.1
/-! calls -/
def JPre (q : Nat → Nat) (D : va_G) (dA : Nat → ClassId) (A : Nat → Prop) (w : mW) : State → Prop := fun U => va_P D vwCl (cW q dA w) U.heap ∧ va_K D vwCl (tyA dA) U ∧ va_D A (cW q dA w) ∧ Amb q A U U.heap ∧ ∀ w ∈ NW, va_Nw w U
def cws (mi : MI) : List Cond := Cond.code mi.1 mi.2.1 mi.2.2.1 mi.2.2.2.1 :: UW
theorem cws_good {mi : MI} (h : mOK mi) : GoodIn UW (cws mi) := fun w hw => by
  rcases List.mem_cons.mp hw with rfl | hw
  · exact ⟨h.1, uw_good h.1⟩
  · exact ⟨hw, uw_good hw⟩
theorem Amb.moved {q : Nat → Nat} {A : Nat → Prop} {u U : State} {H : Heap} (hW : u.WarmedH U.vm) (h : Amb q A u H) : Amb q A U H := ⟨vk_S.moved hW.alike h.1, vk_R.warm hW h.2.1, va_Z.moved hW.alike h.2.2⟩
theorem Amb.kept {q : Nat → Nat} {A : Nat → Prop} {U : State} {H H1 : Heap} (h : Amb q A U H) (hq : ∀ a : Nat, a < H.size → ¬ A a → H1[a]? = H[a]?) : Amb q A U H1 := ⟨vk_S.kept h.1 hq, h.2.1, va_Z.kept h.2.2 hq⟩
theorem JPre.blind {as : List Value} {q : Nat → Nat} {D : va_G} {dA : Nat → ClassId} {A : Nat → Prop} {w : mW} : FrameBlind (va_Pc as (JPre q D dA A w)) := by
  intro a U g mk h
  obtain ⟨h0, h1, h2, h3, h4, h5⟩ := h
  exact ⟨h0, h1, va_K.moved (u := U) (U := U.calling g mk a) (Vm.Alike.refl U.vm) h2, h3, ⟨vk_S.moved (u := U) (U := U.calling g mk a) (Vm.Alike.refl U.vm) h4.1, vk_R.same (u := U) (U := U.calling g mk a) rfl h4.2.1, va_Z.moved (u := U) (U := U.calling g mk a) (Vm.Alike.refl U.vm) h4.2.2⟩, fun w hw => by
    obtain ⟨a1, i1, x1, h1, e1⟩ := nw_form w hw
    subst e1
    exact va_Nw.same (u := U) (U := U.calling g mk a) rfl rfl (h5 _ hw)⟩
theorem JC.pre {p : Program} {s : State} {m : MethodId} {args : Array Value} {meth : Method} {c : Code} {H : Heap} {locs : List Loc} {q : Nat → Nat} {D : va_G} {dA : Nat → ClassId} {A : Nat → Prop} (C : JC p s m args meth c mi q D dA A) (hS : va_S A s.heap H locs) (hP : va_P D vwCl (cW q dA w) H) (hD : va_D A (cW q dA w)) (U : State) (hU : U.heap = H) (hW : s.WarmedH U.vm) : JPre q D dA A w U := by
  refine ⟨by rw [hU]; exact hP, va_K.moved hW.alike C.2.2.2.2.2.2.2.2.1, hD, ?_, fun w hw => ?_⟩
  · rw [hU]
    exact (Amb.moved hW C.2.2.2.2.2.2.2.2.2).kept hS.2.1
  · obtain ⟨a1, i1, x1, h1, e1⟩ := nw_form w hw
    subst e1
    exact va_Nw.warmM hW (C.2.2.2.2.2.2.2.1 _ hw)
/-- a judgement at a method's entry is its contract -/
theorem J_met {as : List Value} (hm : mOK mi) (hlen : (entL as).length ≤ mi.2.2.1) (hJ : JX d mi as w Q) (l : Launch) (q : Nat → Nat) (D : va_G) (dA : Nat → ClassId) (A : Nat → Prop) : Met l mi.1 (cws mi) (jR d) (va_Pc (as.map (cV q)) (JPre q D dA A w)) (JQ q D dA A Q) 0 0 A := by
  refine Met.ofW (cc := mi.2.1) (maxL := mi.2.2.1) (ret := mi.2.2.2.1) hm.2.2.2.2.1 rfl ?_
  intro p e s m args below meth c s₁ B hml hv
  obtain ⟨rfl, hP, hK, hD, hA, hN⟩ := hv
  have hts := atoms_spec (ws := cws mi) B.pre
  have h := hJ p l e (headSpec (cws mi) (jR d)).room s m (as.map (cV q)).toArray below meth c s.heap [] q D dA A ((lg_sl (as.map (cV q)) ++ List.replicate (mi.2.2.1 - (lg_sl (as.map (cV q))).length) Slot.unset).toArray) ⟨Nat.le_refl _, Nat.le_refl _⟩
    ⟨B.exec, B.bytes, hml, B.returns, B.notSynchronized, findClass_of_methodNamed B.named, fun w hw => hts w (List.mem_cons_of_mem _ hw), hN, hK, hA⟩ va_S.rf hP hD
    (lvH.of (lv_entry (as.map (cV q)) (by rw [entL_len]; exact hlen)) fun i v h1 h2 => ent_mem h1 h2)
  rw [lg_entry_eq]
  exact h
theorem j_run {mi' : MI} {as rest : List Value} {d' : Nat} (hc : JX d' mi' as w Q')
    (kk : ∀ v w', Q' v w' → J d mi pc' ls (v.toList ++ rest) w' Q) {p : Program} {l : Launch} {e : Env} {R : Room} {s : State} {m : MethodId} {args : Array Value} {below : List Frame} {meth : Method} {c : Code} {H : Heap} {locs : List Loc} {q : Nat → Nat} {D : va_G} {dA : Nat → ClassId} {A : Nat → Prop} {arr : Array Slot} {st0 : List Value} {a : Array Value}
    (hR : d ≤ R.frames ∧ 64 * d ≤ R.locals) (C : JC p s m args meth c mi q D dA A) (hS : va_S A s.heap H locs) (hl : lvH q arr mi.2.2.1 ls) (hpc : pc + 3 = pc')
    (hr : va_Run p l e R s m args below meth c H locs 0 0 0 0 (F0 m pc arr st0) (rest.map (cV q)) (JQ q D dA A Q' a) A) : W p l e R s m args below meth c H locs 0 0 (MQ below (JQ q D dA A Q) args s 0 0 A) (F0 m pc arr st0) := by
  intro T hT X
  obtain ⟨v, st₀, t, T', L, h0, X', hL, e1, e2, ⟨⟨v1, w', hv, hp, hP1, hK1, hD1⟩, hz, hk⟩, stp⟩ := hr T hT X
  cases hv
  rw [h0] at hz hk
  obtain ⟨t2, a1, b1⟩ := kk v1 w' hp p l e R s m args below meth c T'.heap (locs ++ L) q D dA A arr hR C
    ⟨Nat.le_trans hS.1 (by rw [e1]; exact hz), fun x h1 h2 => by rw [e1, hk x (Nat.lt_of_lt_of_le h1 hS.1) h2]; exact hS.2.1 x h1 h2, fun x hx => by
      rcases List.mem_append.mp hx with h | h
      · exact hS.2.2 x h
      · exact hL x h⟩ (by rw [e1]; exact hP1) hD1 hl T' rfl X'
  refine ⟨t2, stp t2 ?_, b1⟩
  subst hpc
  have : (F0 m (pc + 3) arr ((v1.toList ++ rest).map (cV q))) = { (F0 m pc arr st0) with pc := pc + 3, stack := (v1.map (cV q)).toList ++ rest.map (cV q) } := by
    cases v1 <;> simp
  rw [← this]
  exact a1
theorem hroom {rest : List Value} {q : Nat → Nat} {m : MethodId} {pc : Nat} {arr : Array Slot} {st0 : List Value} (h : (rest.map fun v => v.category).sum ≤ 8) : 2 * (F0 m pc arr st0).monitorRoom + ((rest.map (cV q)).map fun v => v.category).sum ≤ 8 := by
  refine lv_room ?_
  rw [List.map_map, show ((fun v : Value => v.category) ∘ cV q) = fun v => v.category from funext fun v => cV_cat q v]
  exact h
theorem j_callS {mi' : MI} {as rest : List Value} {d' idx : Nat} (hm : mS mi') (hlink : Cond.methodLink mi.1.cls idx mi'.1 ∈ UW) (h : decode mi.2.1 pc = .ok (.invokestatic idx, 3) ∧ pc + 3 = pc') (hd : d' + 1 ≤ d) (hc : JX d' mi' as w Q') (hn : as.length = mi'.2.2.2.2) (he : (entL as).length ≤ mi'.2.2.1) (hr : (rest.map fun v => v.category).sum ≤ 8)
    (kk : ∀ v w', Q' v w' → J d mi pc' ls (v.toList ++ rest) w' Q) : J d mi pc ls (as.reverse ++ rest) w Q := by
  intro p l e R s m args below meth c H locs q D dA A arr hR C hS hP hD hl
  refine j_run hc kk hR C hS hl h.2 (va_runS (As := as.map (cV q)) (rest := rest.map (cV q)) (Ts := UW) (own := mi.1.cls) (n := mi'.2.2.2.2) ⟨C.1, C.2.1, C.2.2.1, C.2.2.2.2.2.1, C.2.2.2.2.2.2.1⟩ (J_met hm.1 he hc l q D dA A) ⟨callB_of _ C.2.2.2.2.2.2.1 (cws_good hm.1) rfl rfl rfl (C.2.2.2.2.2.2.1 _ hm.1.2.1) (C.2.2.2.2.2.2.1 _ hlink) ⟨hm.1.2.2.1.1, hm.1.2.2.1.2, hm.1.2.2.2.1⟩ ⟨?_, ?_⟩, C.2.2.2.2.2.2.1 _ hm.2⟩ ⟨JPre.blind, fun U hU hW => ⟨rfl, C.pre hS hP hD U hU hW⟩⟩ rfl (by rw [List.length_map]; exact hn) hl.1 (by simp) (hroom hr) h.1 ⟨Nat.zero_le _, Nat.zero_le _⟩)
  · show d' + 1 ≤ R.frames; omega
  · have := hm.1.2.2.2.2.2
    show 8 + (mi'.2.2.1 + 11) + 64 * d' ≤ R.locals; omega
theorem j_callSN {mi' : MI} {as rest : List Value} {d' idx : Nat} {host : String} (hm : mS mi') (hlink : Cond.methodLinkNest mi.1.cls idx mi'.1 host ∈ NW) (h : decode mi.2.1 pc = .ok (.invokestatic idx, 3) ∧ pc + 3 = pc') (hd : d' + 1 ≤ d) (hc : JX d' mi' as w Q') (hn : as.length = mi'.2.2.2.2) (he : (entL as).length ≤ mi'.2.2.1) (hr : (rest.map fun v => v.category).sum ≤ 8)
    (kk : ∀ v w', Q' v w' → J d mi pc' ls (v.toList ++ rest) w' Q) : J d mi pc ls (as.reverse ++ rest) w Q := by
  intro p l e R s m args below meth c H locs q D dA A arr hR C hS hP hD hl
  refine j_run hc kk hR C hS hl h.2 (va_runSN (As := as.map (cV q)) (rest := rest.map (cV q)) (Ts := UW) (own := mi.1.cls) (n := mi'.2.2.2.2) ⟨C.1, C.2.1, C.2.2.1, C.2.2.2.2.2.1, C.2.2.2.2.2.2.1⟩ (J_met hm.1 he hc l q D dA A) ⟨va_cnB _ C.2.2.2.2.2.2.1 (cws_good hm.1) rfl rfl rfl (C.2.2.2.2.2.2.2.1 _ hlink) (C.2.2.2.2.2.2.1 _ hm.1.2.1) ⟨hm.1.2.2.1.1, hm.1.2.2.1.2, hm.1.2.2.2.1⟩ ⟨?_, ?_⟩, C.2.2.2.2.2.2.1 _ hm.2, trivial⟩ ⟨JPre.blind, fun U hU hW => ⟨rfl, C.pre hS hP hD U hU hW⟩⟩ rfl (by rw [List.length_map]; exact hn) hl.1 (by simp) (hroom hr) h.1 ⟨Nat.zero_le _, Nat.zero_le _⟩)
  · show d' + 1 ≤ R.frames; omega
  · have := hm.1.2.2.2.2.2
    show 8 + (mi'.2.2.1 + 11) + 64 * d' ≤ R.locals; omega
theorem j_callV {mi' : MI} {as rest fs : List Value} {d' idx a ci N : Nat} {T : u_T} (hm : mV mi') (hlink : Cond.methodLink mi.1.cls idx mi'.1 ∈ UW) (h : decode mi.2.1 pc = .ok (.invokevirtual idx, 3) ∧ pc + 3 = pc') (hd : d' + 1 ≤ d) (ho : w[a]? = some (.inr (ci, fs))) (hci : vwCl[ci]? = some (mi'.1.cls, T, N)) (hc : JX d' mi' (.ref a :: as) w Q') (hn : as.length = mi'.2.2.2.2) (he : (entL (.ref a :: as)).length ≤ mi'.2.2.1) (hr : (rest.map fun v => v.category).sum ≤ 8)
    (kk : ∀ v w', Q' v w' → J d mi pc' ls (v.toList ++ rest) w' Q) : J d mi pc ls (as.reverse ++ .ref a :: rest) w Q := by
  intro p l e R s m args below meth c H locs q D dA A arr hR C hS hP hD hl
  refine j_run hc kk hR C hS hl h.2 (va_runV (As := as.map (cV q)) (rest := rest.map (cV q)) (Ts := UW) (own := mi.1.cls) (n := mi'.2.2.2.2) (C := mi'.1.cls) (b := q a) ⟨C.1, C.2.1, C.2.2.1, C.2.2.2.2.2.1, C.2.2.2.2.2.2.1⟩ (J_met hm.1 he hc l q D dA A) ⟨callB_of _ C.2.2.2.2.2.2.1 (cws_good hm.1) rfl rfl rfl (C.2.2.2.2.2.2.1 _ hm.1.2.1) (C.2.2.2.2.2.2.1 _ hlink) ⟨hm.1.2.2.1.1, hm.1.2.2.1.2, hm.1.2.2.2.1⟩ ⟨?_, ?_⟩, C.2.2.2.2.2.2.1 _ hm.2.1, C.2.2.2.2.2.2.1 _ hm.2.2⟩ ⟨JPre.blind, va_recv C.2.2.2.2.2.2.2.2.1 hP hci (cW_get ho), fun U hU hW => ⟨rfl, C.pre hS hP hD U hU hW⟩⟩ rfl (by rw [List.length_map]; exact hn) hl.1 (by simp [cV]) (hroom hr) h.1 ⟨Nat.zero_le _, Nat.zero_le _⟩)
  · show d' + 1 ≤ R.frames; omega
  · have := hm.1.2.2.2.2.2
    show 8 + (mi'.2.2.1 + 11) + 64 * d' ≤ R.locals; omega
theorem j_callVS {mi' : MI} {as rest : List Value} {d' idx : Nat} (hm : mV mi') (hlink : Cond.methodLink mi.1.cls idx mi'.1 ∈ UW) (h : decode mi.2.1 pc = .ok (.invokevirtual idx, 3) ∧ pc + 3 = pc') (hd : d' + 1 ≤ d) (hci : mi'.1.cls = "java/lang/String") (hc : JX d' mi' (.ref 1000 :: as) w Q') (hn : as.length = mi'.2.2.2.2) (he : (entL (.ref 1000 :: as)).length ≤ mi'.2.2.1) (hr : (rest.map fun v => v.category).sum ≤ 8)
    (kk : ∀ v w', Q' v w' → J d mi pc' ls (v.toList ++ rest) w' Q) : J d mi pc ls (as.reverse ++ .ref 1000 :: rest) w Q := by
  intro p l e R s m args below meth c H locs q D dA A arr hR C hS hP hD hl
  refine j_run hc kk hR C hS hl h.2 (va_runV (As := as.map (cV q)) (rest := rest.map (cV q)) (Ts := UW) (own := mi.1.cls) (n := mi'.2.2.2.2) (C := mi'.1.cls) (b := q 1000) ⟨C.1, C.2.1, C.2.2.1, C.2.2.2.2.2.1, C.2.2.2.2.2.2.1⟩ (J_met hm.1 he hc l q D dA A) ⟨callB_of _ C.2.2.2.2.2.2.1 (cws_good hm.1) rfl rfl rfl (C.2.2.2.2.2.2.1 _ hm.1.2.1) (C.2.2.2.2.2.2.1 _ hlink) ⟨hm.1.2.2.1.1, hm.1.2.2.1.2, hm.1.2.2.2.1⟩ ⟨?_, ?_⟩, C.2.2.2.2.2.2.1 _ hm.2.1, C.2.2.2.2.2.2.1 _ hm.2.2⟩ ⟨JPre.blind, by rw [hci]; exact vk_recv (adK := fun _ => q 1000) C.2.2.2.2.2.2.2.2.2.1 (i := 0) (by decide) hS, fun U hU hW => ⟨rfl, C.pre hS hP hD U hU hW⟩⟩ rfl (by rw [List.length_map]; exact hn) hl.1 (by simp [cV]) (hroom hr) h.1 ⟨Nat.zero_le _, Nat.zero_le _⟩)
  · show d' + 1 ≤ R.frames; omega
  · have := hm.1.2.2.2.2.2
    show 8 + (mi'.2.2.1 + 11) + 64 * d' ≤ R.locals; omega

theorem j_S0R {mi' : MI} {rest : List Value} {d' idx : Nat} {r : Value} {w' : mW}   (hm : mS mi') (hlink : Cond.methodLink mi.1.cls idx mi'.1 ∈ UW) (h : decode mi.2.1 pc = .ok (.invokestatic idx, 3) ∧ pc + 3 = pc') (hd : d' + 1 ≤ d)  (hc : JR d' mi' [] w r w') (hn : 0 = mi'.2.2.2.2) (he : (entL []).length ≤ mi'.2.2.1) (hr : (rest.map fun v => v.category).sum ≤ 8) (kk : J d mi pc' ls (r :: rest) w' Q) : J d mi pc ls (rest) w Q :=
  j_callS (as := []) (rest := rest) hm hlink h hd hc hn he hr (fun v u hvu => by obtain ⟨rfl, rfl⟩ := hvu; exact kk)
theorem j_S0U {mi' : MI} {rest : List Value} {d' idx : Nat} {r : Value} {w' : mW}   (hm : mS mi') (hlink : Cond.methodLink mi.1.cls idx mi'.1 ∈ UW) (h : decode mi.2.1 pc = .ok (.invokestatic idx, 3) ∧ pc + 3 = pc') (hd : d' + 1 ≤ d)  (hc : JV d' mi' [] w w') (hn : 0 = mi'.2.2.2.2) (he : (entL []).length ≤ mi'.2.2.1) (hr : (rest.map fun v => v.category).sum ≤ 8) (kk : J d mi pc' ls rest w' Q) : J d mi pc ls (rest) w Q :=
  j_callS (as := []) (rest := rest) hm hlink h hd hc hn he hr (fun v u hvu => by obtain ⟨rfl, rfl⟩ := hvu; exact kk)
theorem j_S0X {mi' : MI} {rest : List Value} {d' idx : Nat} {r : Value} {w' : mW}   (hm : mS mi') (hlink : Cond.methodLink mi.1.cls idx mi'.1 ∈ UW) (h : decode mi.2.1 pc = .ok (.invokestatic idx, 3) ∧ pc + 3 = pc') (hd : d' + 1 ≤ d)  (hc : JX d' mi' [] w Q') (hn : 0 = mi'.2.2.2.2) (he : (entL []).length ≤ mi'.2.2.1) (hr : (rest.map fun v => v.category).sum ≤ 8) (kk : ∀ v w', Q' v w' → J d mi pc' ls (v.toList ++ rest) w' Q) : J d mi pc ls (rest) w Q :=
  j_callS (as := []) (rest := rest) hm hlink h hd hc hn he hr kk
theorem j_SN0R {mi' : MI} {rest : List Value} {d' idx : Nat} {r : Value} {w' : mW}   (hm : mS mi') {host : String} (hlink : Cond.methodLinkNest mi.1.cls idx mi'.1 host ∈ NW) (h : decode mi.2.1 pc = .ok (.invokestatic idx, 3) ∧ pc + 3 = pc') (hd : d' + 1 ≤ d)  (hc : JR d' mi' [] w r w') (hn : 0 = mi'.2.2.2.2) (he : (entL []).length ≤ mi'.2.2.1) (hr : (rest.map fun v => v.category).sum ≤ 8) (kk : J d mi pc' ls (r :: rest) w' Q) : J d mi pc ls (rest) w Q :=
  j_callSN (as := []) (rest := rest) hm hlink h hd hc hn he hr (fun v u hvu => by obtain ⟨rfl, rfl⟩ := hvu; exact kk)
theorem j_SN0U {mi' : MI} {rest : List Value} {d' idx : Nat} {r : Value} {w' : mW}   (hm : mS mi') {host : String} (hlink : Cond.methodLinkNest mi.1.cls idx mi'.1 host ∈ NW) (h : decode mi.2.1 pc = .ok (.invokestatic idx, 3) ∧ pc + 3 = pc') (hd : d' + 1 ≤ d)  (hc : JV d' mi' [] w w') (hn : 0 = mi'.2.2.2.2) (he : (entL []).length ≤ mi'.2.2.1) (hr : (rest.map fun v => v.category).sum ≤ 8) (kk : J d mi pc' ls rest w' Q) : J d mi pc ls (rest) w Q :=
  j_callSN (as := []) (rest := rest) hm hlink h hd hc hn he hr (fun v u hvu => by obtain ⟨rfl, rfl⟩ := hvu; exact kk)
theorem j_SN0X {mi' : MI} {rest : List Value} {d' idx : Nat} {r : Value} {w' : mW}   (hm : mS mi') {host : String} (hlink : Cond.methodLinkNest mi.1.cls idx mi'.1 host ∈ NW) (h : decode mi.2.1 pc = .ok (.invokestatic idx, 3) ∧ pc + 3 = pc') (hd : d' + 1 ≤ d)  (hc : JX d' mi' [] w Q') (hn : 0 = mi'.2.2.2.2) (he : (entL []).length ≤ mi'.2.2.1) (hr : (rest.map fun v => v.category).sum ≤ 8) (kk : ∀ v w', Q' v w' → J d mi pc' ls (v.toList ++ rest) w' Q) : J d mi pc ls (rest) w Q :=
  j_callSN (as := []) (rest := rest) hm hlink h hd hc hn he hr kk
theorem j_V0R {mi' : MI} {rest : List Value} {d' idx : Nat} {r : Value} {w' : mW}  {a ci N : Nat} {T : u_T} {fs : List Value} (hm : mV mi') (hlink : Cond.methodLink mi.1.cls idx mi'.1 ∈ UW) (h : decode mi.2.1 pc = .ok (.invokevirtual idx, 3) ∧ pc + 3 = pc') (hd : d' + 1 ≤ d) (ho : w[a]? = some (.inr (ci, fs))) (hci : vwCl[ci]? = some (mi'.1.cls, T, N)) (hc : JR d' mi' [.ref a] w r w') (hn : 0 = mi'.2.2.2.2) (he : (entL [.ref a]).length ≤ mi'.2.2.1) (hr : (rest.map fun v => v.category).sum ≤ 8) (kk : J d mi pc' ls (r :: rest) w' Q) : J d mi pc ls (.ref a :: rest) w Q :=
  j_callV (as := []) (rest := rest) hm hlink h hd ho hci hc hn he hr (fun v u hvu => by obtain ⟨rfl, rfl⟩ := hvu; exact kk)
theorem j_V0U {mi' : MI} {rest : List Value} {d' idx : Nat} {r : Value} {w' : mW}  {a ci N : Nat} {T : u_T} {fs : List Value} (hm : mV mi') (hlink : Cond.methodLink mi.1.cls idx mi'.1 ∈ UW) (h : decode mi.2.1 pc = .ok (.invokevirtual idx, 3) ∧ pc + 3 = pc') (hd : d' + 1 ≤ d) (ho : w[a]? = some (.inr (ci, fs))) (hci : vwCl[ci]? = some (mi'.1.cls, T, N)) (hc : JV d' mi' [.ref a] w w') (hn : 0 = mi'.2.2.2.2) (he : (entL [.ref a]).length ≤ mi'.2.2.1) (hr : (rest.map fun v => v.category).sum ≤ 8) (kk : J d mi pc' ls rest w' Q) : J d mi pc ls (.ref a :: rest) w Q :=
  j_callV (as := []) (rest := rest) hm hlink h hd ho hci hc hn he hr (fun v u hvu => by obtain ⟨rfl, rfl⟩ := hvu; exact kk)
theorem j_V0X {mi' : MI} {rest : List Value} {d' idx : Nat} {r : Value} {w' : mW}  {a ci N : Nat} {T : u_T} {fs : List Value} (hm : mV mi') (hlink : Cond.methodLink mi.1.cls idx mi'.1 ∈ UW) (h : decode mi.2.1 pc = .ok (.invokevirtual idx, 3) ∧ pc + 3 = pc') (hd : d' + 1 ≤ d) (ho : w[a]? = some (.inr (ci, fs))) (hci : vwCl[ci]? = some (mi'.1.cls, T, N)) (hc : JX d' mi' [.ref a] w Q') (hn : 0 = mi'.2.2.2.2) (he : (entL [.ref a]).length ≤ mi'.2.2.1) (hr : (rest.map fun v => v.category).sum ≤ 8) (kk : ∀ v w', Q' v w' → J d mi pc' ls (v.toList ++ rest) w' Q) : J d mi pc ls (.ref a :: rest) w Q :=
  j_callV (as := []) (rest := rest) hm hlink h hd ho hci hc hn he hr kk
theorem j_S1R {mi' : MI} {rest : List Value} {d' idx : Nat} {r : Value} {w' : mW} {a0 : Value}  (hm : mS mi') (hlink : Cond.methodLink mi.1.cls idx mi'.1 ∈ UW) (h : decode mi.2.1 pc = .ok (.invokestatic idx, 3) ∧ pc + 3 = pc') (hd : d' + 1 ≤ d)  (hc : JR d' mi' [a0] w r w') (hn : 1 = mi'.2.2.2.2) (he : (entL [a0]).length ≤ mi'.2.2.1) (hr : (rest.map fun v => v.category).sum ≤ 8) (kk : J d mi pc' ls (r :: rest) w' Q) : J d mi pc ls (a0 :: rest) w Q :=
  j_callS (as := [a0]) (rest := rest) hm hlink h hd hc hn he hr (fun v u hvu => by obtain ⟨rfl, rfl⟩ := hvu; exact kk)
theorem j_S1U {mi' : MI} {rest : List Value} {d' idx : Nat} {r : Value} {w' : mW} {a0 : Value}  (hm : mS mi') (hlink : Cond.methodLink mi.1.cls idx mi'.1 ∈ UW) (h : decode mi.2.1 pc = .ok (.invokestatic idx, 3) ∧ pc + 3 = pc') (hd : d' + 1 ≤ d)  (hc : JV d' mi' [a0] w w') (hn : 1 = mi'.2.2.2.2) (he : (entL [a0]).length ≤ mi'.2.2.1) (hr : (rest.map fun v => v.category).sum ≤ 8) (kk : J d mi pc' ls rest w' Q) : J d mi pc ls (a0 :: rest) w Q :=
  j_callS (as := [a0]) (rest := rest) hm hlink h hd hc hn he hr (fun v u hvu => by obtain ⟨rfl, rfl⟩ := hvu; exact kk)
theorem j_S1X {mi' : MI} {rest : List Value} {d' idx : Nat} {r : Value} {w' : mW} {a0 : Value}  (hm : mS mi') (hlink : Cond.methodLink mi.1.cls idx mi'.1 ∈ UW) (h : decode mi.2.1 pc = .ok (.invokestatic idx, 3) ∧ pc + 3 = pc') (hd : d' + 1 ≤ d)  (hc : JX d' mi' [a0] w Q') (hn : 1 = mi'.2.2.2.2) (he : (entL [a0]).length ≤ mi'.2.2.1) (hr : (rest.map fun v => v.category).sum ≤ 8) (kk : ∀ v w', Q' v w' → J d mi pc' ls (v.toList ++ rest) w' Q) : J d mi pc ls (a0 :: rest) w Q :=
  j_callS (as := [a0]) (rest := rest) hm hlink h hd hc hn he hr kk
theorem j_SN1R {mi' : MI} {rest : List Value} {d' idx : Nat} {r : Value} {w' : mW} {a0 : Value}  (hm : mS mi') {host : String} (hlink : Cond.methodLinkNest mi.1.cls idx mi'.1 host ∈ NW) (h : decode mi.2.1 pc = .ok (.invokestatic idx, 3) ∧ pc + 3 = pc') (hd : d' + 1 ≤ d)  (hc : JR d' mi' [a0] w r w') (hn : 1 = mi'.2.2.2.2) (he : (entL [a0]).length ≤ mi'.2.2.1) (hr : (rest.map fun v => v.category).sum ≤ 8) (kk : J d mi pc' ls (r :: rest) w' Q) : J d mi pc ls (a0 :: rest) w Q :=
  j_callSN (as := [a0]) (rest := rest) hm hlink h hd hc hn he hr (fun v u hvu => by obtain ⟨rfl, rfl⟩ := hvu; exact kk)
theorem j_SN1U {mi' : MI} {rest : List Value} {d' idx : Nat} {r : Value} {w' : mW} {a0 : Value}  (hm : mS mi') {host : String} (hlink : Cond.methodLinkNest mi.1.cls idx mi'.1 host ∈ NW) (h : decode mi.2.1 pc = .ok (.invokestatic idx, 3) ∧ pc + 3 = pc') (hd : d' + 1 ≤ d)  (hc : JV d' mi' [a0] w w') (hn : 1 = mi'.2.2.2.2) (he : (entL [a0]).length ≤ mi'.2.2.1) (hr : (rest.map fun v => v.category).sum ≤ 8) (kk : J d mi pc' ls rest w' Q) : J d mi pc ls (a0 :: rest) w Q :=
  j_callSN (as := [a0]) (rest := rest) hm hlink h hd hc hn he hr (fun v u hvu => by obtain ⟨rfl, rfl⟩ := hvu; exact kk)
theorem j_SN1X {mi' : MI} {rest : List Value} {d' idx : Nat} {r : Value} {w' : mW} {a0 : Value}  (hm : mS mi') {host : String} (hlink : Cond.methodLinkNest mi.1.cls idx mi'.1 host ∈ NW) (h : decode mi.2.1 pc = .ok (.invokestatic idx, 3) ∧ pc + 3 = pc') (hd : d' + 1 ≤ d)  (hc : JX d' mi' [a0] w Q') (hn : 1 = mi'.2.2.2.2) (he : (entL [a0]).length ≤ mi'.2.2.1) (hr : (rest.map fun v => v.category).sum ≤ 8) (kk : ∀ v w', Q' v w' → J d mi pc' ls (v.toList ++ rest) w' Q) : J d mi pc ls (a0 :: rest) w Q :=
  j_callSN (as := [a0]) (rest := rest) hm hlink h hd hc hn he hr kk
theorem j_V1R {mi' : MI} {rest : List Value} {d' idx : Nat} {r : Value} {w' : mW} {a0 : Value} {a ci N : Nat} {T : u_T} {fs : List Value} (hm : mV mi') (hlink : Cond.methodLink mi.1.cls idx mi'.1 ∈ UW) (h : decode mi.2.1 pc = .ok (.invokevirtual idx, 3) ∧ pc + 3 = pc') (hd : d' + 1 ≤ d) (ho : w[a]? = some (.inr (ci, fs))) (hci : vwCl[ci]? = some (mi'.1.cls, T, N)) (hc : JR d' mi' [.ref a, a0] w r w') (hn : 1 = mi'.2.2.2.2) (he : (entL [.ref a, a0]).length ≤ mi'.2.2.1) (hr : (rest.map fun v => v.category).sum ≤ 8) (kk : J d mi pc' ls (r :: rest) w' Q) : J d mi pc ls (a0 :: .ref a :: rest) w Q :=
  j_callV (as := [a0]) (rest := rest) hm hlink h hd ho hci hc hn he hr (fun v u hvu => by obtain ⟨rfl, rfl⟩ := hvu; exact kk)
theorem j_V1U {mi' : MI} {rest : List Value} {d' idx : Nat} {r : Value} {w' : mW} {a0 : Value} {a ci N : Nat} {T : u_T} {fs : List Value} (hm : mV mi') (hlink : Cond.methodLink mi.1.cls idx mi'.1 ∈ UW) (h : decode mi.2.1 pc = .ok (.invokevirtual idx, 3) ∧ pc + 3 = pc') (hd : d' + 1 ≤ d) (ho : w[a]? = some (.inr (ci, fs))) (hci : vwCl[ci]? = some (mi'.1.cls, T, N)) (hc : JV d' mi' [.ref a, a0] w w') (hn : 1 = mi'.2.2.2.2) (he : (entL [.ref a, a0]).length ≤ mi'.2.2.1) (hr : (rest.map fun v => v.category).sum ≤ 8) (kk : J d mi pc' ls rest w' Q) : J d mi pc ls (a0 :: .ref a :: rest) w Q :=
  j_callV (as := [a0]) (rest := rest) hm hlink h hd ho hci hc hn he hr (fun v u hvu => by obtain ⟨rfl, rfl⟩ := hvu; exact kk)
theorem j_V1X {mi' : MI} {rest : List Value} {d' idx : Nat} {r : Value} {w' : mW} {a0 : Value} {a ci N : Nat} {T : u_T} {fs : List Value} (hm : mV mi') (hlink : Cond.methodLink mi.1.cls idx mi'.1 ∈ UW) (h : decode mi.2.1 pc = .ok (.invokevirtual idx, 3) ∧ pc + 3 = pc') (hd : d' + 1 ≤ d) (ho : w[a]? = some (.inr (ci, fs))) (hci : vwCl[ci]? = some (mi'.1.cls, T, N)) (hc : JX d' mi' [.ref a, a0] w Q') (hn : 1 = mi'.2.2.2.2) (he : (entL [.ref a, a0]).length ≤ mi'.2.2.1) (hr : (rest.map fun v => v.category).sum ≤ 8) (kk : ∀ v w', Q' v w' → J d mi pc' ls (v.toList ++ rest) w' Q) : J d mi pc ls (a0 :: .ref a :: rest) w Q :=
  j_callV (as := [a0]) (rest := rest) hm hlink h hd ho hci hc hn he hr kk
theorem j_S2R {mi' : MI} {rest : List Value} {d' idx : Nat} {r : Value} {w' : mW} {a0 a1 : Value}  (hm : mS mi') (hlink : Cond.methodLink mi.1.cls idx mi'.1 ∈ UW) (h : decode mi.2.1 pc = .ok (.invokestatic idx, 3) ∧ pc + 3 = pc') (hd : d' + 1 ≤ d)  (hc : JR d' mi' [a0, a1] w r w') (hn : 2 = mi'.2.2.2.2) (he : (entL [a0, a1]).length ≤ mi'.2.2.1) (hr : (rest.map fun v => v.category).sum ≤ 8) (kk : J d mi pc' ls (r :: rest) w' Q) : J d mi pc ls (a1 :: a0 :: rest) w Q :=
  j_callS (as := [a0, a1]) (rest := rest) hm hlink h hd hc hn he hr (fun v u hvu => by obtain ⟨rfl, rfl⟩ := hvu; exact kk)
theorem j_S2U {mi' : MI} {rest : List Value} {d' idx : Nat} {r : Value} {w' : mW} {a0 a1 : Value}  (hm : mS mi') (hlink : Cond.methodLink mi.1.cls idx mi'.1 ∈ UW) (h : decode mi.2.1 pc = .ok (.invokestatic idx, 3) ∧ pc + 3 = pc') (hd : d' + 1 ≤ d)  (hc : JV d' mi' [a0, a1] w w') (hn : 2 = mi'.2.2.2.2) (he : (entL [a0, a1]).length ≤ mi'.2.2.1) (hr : (rest.map fun v => v.category).sum ≤ 8) (kk : J d mi pc' ls rest w' Q) : J d mi pc ls (a1 :: a0 :: rest) w Q :=
  j_callS (as := [a0, a1]) (rest := rest) hm hlink h hd hc hn he hr (fun v u hvu => by obtain ⟨rfl, rfl⟩ := hvu; exact kk)
theorem j_S2X {mi' : MI} {rest : List Value} {d' idx : Nat} {r : Value} {w' : mW} {a0 a1 : Value}  (hm : mS mi') (hlink : Cond.methodLink mi.1.cls idx mi'.1 ∈ UW) (h : decode mi.2.1 pc = .ok (.invokestatic idx, 3) ∧ pc + 3 = pc') (hd : d' + 1 ≤ d)  (hc : JX d' mi' [a0, a1] w Q') (hn : 2 = mi'.2.2.2.2) (he : (entL [a0, a1]).length ≤ mi'.2.2.1) (hr : (rest.map fun v => v.category).sum ≤ 8) (kk : ∀ v w', Q' v w' → J d mi pc' ls (v.toList ++ rest) w' Q) : J d mi pc ls (a1 :: a0 :: rest) w Q :=
  j_callS (as := [a0, a1]) (rest := rest) hm hlink h hd hc hn he hr kk
theorem j_SN2R {mi' : MI} {rest : List Value} {d' idx : Nat} {r : Value} {w' : mW} {a0 a1 : Value}  (hm : mS mi') {host : String} (hlink : Cond.methodLinkNest mi.1.cls idx mi'.1 host ∈ NW) (h : decode mi.2.1 pc = .ok (.invokestatic idx, 3) ∧ pc + 3 = pc') (hd : d' + 1 ≤ d)  (hc : JR d' mi' [a0, a1] w r w') (hn : 2 = mi'.2.2.2.2) (he : (entL [a0, a1]).length ≤ mi'.2.2.1) (hr : (rest.map fun v => v.category).sum ≤ 8) (kk : J d mi pc' ls (r :: rest) w' Q) : J d mi pc ls (a1 :: a0 :: rest) w Q :=
  j_callSN (as := [a0, a1]) (rest := rest) hm hlink h hd hc hn he hr (fun v u hvu => by obtain ⟨rfl, rfl⟩ := hvu; exact kk)
theorem j_SN2U {mi' : MI} {rest : List Value} {d' idx : Nat} {r : Value} {w' : mW} {a0 a1 : Value}  (hm : mS mi') {host : String} (hlink : Cond.methodLinkNest mi.1.cls idx mi'.1 host ∈ NW) (h : decode mi.2.1 pc = .ok (.invokestatic idx, 3) ∧ pc + 3 = pc') (hd : d' + 1 ≤ d)  (hc : JV d' mi' [a0, a1] w w') (hn : 2 = mi'.2.2.2.2) (he : (entL [a0, a1]).length ≤ mi'.2.2.1) (hr : (rest.map fun v => v.category).sum ≤ 8) (kk : J d mi pc' ls rest w' Q) : J d mi pc ls (a1 :: a0 :: rest) w Q :=
  j_callSN (as := [a0, a1]) (rest := rest) hm hlink h hd hc hn he hr (fun v u hvu => by obtain ⟨rfl, rfl⟩ := hvu; exact kk)
theorem j_SN2X {mi' : MI} {rest : List Value} {d' idx : Nat} {r : Value} {w' : mW} {a0 a1 : Value}  (hm : mS mi') {host : String} (hlink : Cond.methodLinkNest mi.1.cls idx mi'.1 host ∈ NW) (h : decode mi.2.1 pc = .ok (.invokestatic idx, 3) ∧ pc + 3 = pc') (hd : d' + 1 ≤ d)  (hc : JX d' mi' [a0, a1] w Q') (hn : 2 = mi'.2.2.2.2) (he : (entL [a0, a1]).length ≤ mi'.2.2.1) (hr : (rest.map fun v => v.category).sum ≤ 8) (kk : ∀ v w', Q' v w' → J d mi pc' ls (v.toList ++ rest) w' Q) : J d mi pc ls (a1 :: a0 :: rest) w Q :=
  j_callSN (as := [a0, a1]) (rest := rest) hm hlink h hd hc hn he hr kk
theorem j_V2R {mi' : MI} {rest : List Value} {d' idx : Nat} {r : Value} {w' : mW} {a0 a1 : Value} {a ci N : Nat} {T : u_T} {fs : List Value} (hm : mV mi') (hlink : Cond.methodLink mi.1.cls idx mi'.1 ∈ UW) (h : decode mi.2.1 pc = .ok (.invokevirtual idx, 3) ∧ pc + 3 = pc') (hd : d' + 1 ≤ d) (ho : w[a]? = some (.inr (ci, fs))) (hci : vwCl[ci]? = some (mi'.1.cls, T, N)) (hc : JR d' mi' [.ref a, a0, a1] w r w') (hn : 2 = mi'.2.2.2.2) (he : (entL [.ref a, a0, a1]).length ≤ mi'.2.2.1) (hr : (rest.map fun v => v.category).sum ≤ 8) (kk : J d mi pc' ls (r :: rest) w' Q) : J d mi pc ls (a1 :: a0 :: .ref a :: rest) w Q :=
  j_callV (as := [a0, a1]) (rest := rest) hm hlink h hd ho hci hc hn he hr (fun v u hvu => by obtain ⟨rfl, rfl⟩ := hvu; exact kk)
theorem j_V2U {mi' : MI} {rest : List Value} {d' idx : Nat} {r : Value} {w' : mW} {a0 a1 : Value} {a ci N : Nat} {T : u_T} {fs : List Value} (hm : mV mi') (hlink : Cond.methodLink mi.1.cls idx mi'.1 ∈ UW) (h : decode mi.2.1 pc = .ok (.invokevirtual idx, 3) ∧ pc + 3 = pc') (hd : d' + 1 ≤ d) (ho : w[a]? = some (.inr (ci, fs))) (hci : vwCl[ci]? = some (mi'.1.cls, T, N)) (hc : JV d' mi' [.ref a, a0, a1] w w') (hn : 2 = mi'.2.2.2.2) (he : (entL [.ref a, a0, a1]).length ≤ mi'.2.2.1) (hr : (rest.map fun v => v.category).sum ≤ 8) (kk : J d mi pc' ls rest w' Q) : J d mi pc ls (a1 :: a0 :: .ref a :: rest) w Q :=
  j_callV (as := [a0, a1]) (rest := rest) hm hlink h hd ho hci hc hn he hr (fun v u hvu => by obtain ⟨rfl, rfl⟩ := hvu; exact kk)
theorem j_V2X {mi' : MI} {rest : List Value} {d' idx : Nat} {r : Value} {w' : mW} {a0 a1 : Value} {a ci N : Nat} {T : u_T} {fs : List Value} (hm : mV mi') (hlink : Cond.methodLink mi.1.cls idx mi'.1 ∈ UW) (h : decode mi.2.1 pc = .ok (.invokevirtual idx, 3) ∧ pc + 3 = pc') (hd : d' + 1 ≤ d) (ho : w[a]? = some (.inr (ci, fs))) (hci : vwCl[ci]? = some (mi'.1.cls, T, N)) (hc : JX d' mi' [.ref a, a0, a1] w Q') (hn : 2 = mi'.2.2.2.2) (he : (entL [.ref a, a0, a1]).length ≤ mi'.2.2.1) (hr : (rest.map fun v => v.category).sum ≤ 8) (kk : ∀ v w', Q' v w' → J d mi pc' ls (v.toList ++ rest) w' Q) : J d mi pc ls (a1 :: a0 :: .ref a :: rest) w Q :=
  j_callV (as := [a0, a1]) (rest := rest) hm hlink h hd ho hci hc hn he hr kk
theorem j_S3R {mi' : MI} {rest : List Value} {d' idx : Nat} {r : Value} {w' : mW} {a0 a1 a2 : Value}  (hm : mS mi') (hlink : Cond.methodLink mi.1.cls idx mi'.1 ∈ UW) (h : decode mi.2.1 pc = .ok (.invokestatic idx, 3) ∧ pc + 3 = pc') (hd : d' + 1 ≤ d)  (hc : JR d' mi' [a0, a1, a2] w r w') (hn : 3 = mi'.2.2.2.2) (he : (entL [a0, a1, a2]).length ≤ mi'.2.2.1) (hr : (rest.map fun v => v.category).sum ≤ 8) (kk : J d mi pc' ls (r :: rest) w' Q) : J d mi pc ls (a2 :: a1 :: a0 :: rest) w Q :=
  j_callS (as := [a0, a1, a2]) (rest := rest) hm hlink h hd hc hn he hr (fun v u hvu => by obtain ⟨rfl, rfl⟩ := hvu; exact kk)
theorem j_S3U {mi' : MI} {rest : List Value} {d' idx : Nat} {r : Value} {w' : mW} {a0 a1 a2 : Value}  (hm : mS mi') (hlink : Cond.methodLink mi.1.cls idx mi'.1 ∈ UW) (h : decode mi.2.1 pc = .ok (.invokestatic idx, 3) ∧ pc + 3 = pc') (hd : d' + 1 ≤ d)  (hc : JV d' mi' [a0, a1, a2] w w') (hn : 3 = mi'.2.2.2.2) (he : (entL [a0, a1, a2]).length ≤ mi'.2.2.1) (hr : (rest.map fun v => v.category).sum ≤ 8) (kk : J d mi pc' ls rest w' Q) : J d mi pc ls (a2 :: a1 :: a0 :: rest) w Q :=
  j_callS (as := [a0, a1, a2]) (rest := rest) hm hlink h hd hc hn he hr (fun v u hvu => by obtain ⟨rfl, rfl⟩ := hvu; exact kk)
theorem j_S3X {mi' : MI} {rest : List Value} {d' idx : Nat} {r : Value} {w' : mW} {a0 a1 a2 : Value}  (hm : mS mi') (hlink : Cond.methodLink mi.1.cls idx mi'.1 ∈ UW) (h : decode mi.2.1 pc = .ok (.invokestatic idx, 3) ∧ pc + 3 = pc') (hd : d' + 1 ≤ d)  (hc : JX d' mi' [a0, a1, a2] w Q') (hn : 3 = mi'.2.2.2.2) (he : (entL [a0, a1, a2]).length ≤ mi'.2.2.1) (hr : (rest.map fun v => v.category).sum ≤ 8) (kk : ∀ v w', Q' v w' → J d mi pc' ls (v.toList ++ rest) w' Q) : J d mi pc ls (a2 :: a1 :: a0 :: rest) w Q :=
  j_callS (as := [a0, a1, a2]) (rest := rest) hm hlink h hd hc hn he hr kk
theorem j_SN3R {mi' : MI} {rest : List Value} {d' idx : Nat} {r : Value} {w' : mW} {a0 a1 a2 : Value}  (hm : mS mi') {host : String} (hlink : Cond.methodLinkNest mi.1.cls idx mi'.1 host ∈ NW) (h : decode mi.2.1 pc = .ok (.invokestatic idx, 3) ∧ pc + 3 = pc') (hd : d' + 1 ≤ d)  (hc : JR d' mi' [a0, a1, a2] w r w') (hn : 3 = mi'.2.2.2.2) (he : (entL [a0, a1, a2]).length ≤ mi'.2.2.1) (hr : (rest.map fun v => v.category).sum ≤ 8) (kk : J d mi pc' ls (r :: rest) w' Q) : J d mi pc ls (a2 :: a1 :: a0 :: rest) w Q :=
  j_callSN (as := [a0, a1, a2]) (rest := rest) hm hlink h hd hc hn he hr (fun v u hvu => by obtain ⟨rfl, rfl⟩ := hvu; exact kk)
theorem j_SN3U {mi' : MI} {rest : List Value} {d' idx : Nat} {r : Value} {w' : mW} {a0 a1 a2 : Value}  (hm : mS mi') {host : String} (hlink : Cond.methodLinkNest mi.1.cls idx mi'.1 host ∈ NW) (h : decode mi.2.1 pc = .ok (.invokestatic idx, 3) ∧ pc + 3 = pc') (hd : d' + 1 ≤ d)  (hc : JV d' mi' [a0, a1, a2] w w') (hn : 3 = mi'.2.2.2.2) (he : (entL [a0, a1, a2]).length ≤ mi'.2.2.1) (hr : (rest.map fun v => v.category).sum ≤ 8) (kk : J d mi pc' ls rest w' Q) : J d mi pc ls (a2 :: a1 :: a0 :: rest) w Q :=
  j_callSN (as := [a0, a1, a2]) (rest := rest) hm hlink h hd hc hn he hr (fun v u hvu => by obtain ⟨rfl, rfl⟩ := hvu; exact kk)
theorem j_SN3X {mi' : MI} {rest : List Value} {d' idx : Nat} {r : Value} {w' : mW} {a0 a1 a2 : Value}  (hm : mS mi') {host : String} (hlink : Cond.methodLinkNest mi.1.cls idx mi'.1 host ∈ NW) (h : decode mi.2.1 pc = .ok (.invokestatic idx, 3) ∧ pc + 3 = pc') (hd : d' + 1 ≤ d)  (hc : JX d' mi' [a0, a1, a2] w Q') (hn : 3 = mi'.2.2.2.2) (he : (entL [a0, a1, a2]).length ≤ mi'.2.2.1) (hr : (rest.map fun v => v.category).sum ≤ 8) (kk : ∀ v w', Q' v w' → J d mi pc' ls (v.toList ++ rest) w' Q) : J d mi pc ls (a2 :: a1 :: a0 :: rest) w Q :=
  j_callSN (as := [a0, a1, a2]) (rest := rest) hm hlink h hd hc hn he hr kk
theorem j_V3R {mi' : MI} {rest : List Value} {d' idx : Nat} {r : Value} {w' : mW} {a0 a1 a2 : Value} {a ci N : Nat} {T : u_T} {fs : List Value} (hm : mV mi') (hlink : Cond.methodLink mi.1.cls idx mi'.1 ∈ UW) (h : decode mi.2.1 pc = .ok (.invokevirtual idx, 3) ∧ pc + 3 = pc') (hd : d' + 1 ≤ d) (ho : w[a]? = some (.inr (ci, fs))) (hci : vwCl[ci]? = some (mi'.1.cls, T, N)) (hc : JR d' mi' [.ref a, a0, a1, a2] w r w') (hn : 3 = mi'.2.2.2.2) (he : (entL [.ref a, a0, a1, a2]).length ≤ mi'.2.2.1) (hr : (rest.map fun v => v.category).sum ≤ 8) (kk : J d mi pc' ls (r :: rest) w' Q) : J d mi pc ls (a2 :: a1 :: a0 :: .ref a :: rest) w Q :=
  j_callV (as := [a0, a1, a2]) (rest := rest) hm hlink h hd ho hci hc hn he hr (fun v u hvu => by obtain ⟨rfl, rfl⟩ := hvu; exact kk)
theorem j_V3U {mi' : MI} {rest : List Value} {d' idx : Nat} {r : Value} {w' : mW} {a0 a1 a2 : Value} {a ci N : Nat} {T : u_T} {fs : List Value} (hm : mV mi') (hlink : Cond.methodLink mi.1.cls idx mi'.1 ∈ UW) (h : decode mi.2.1 pc = .ok (.invokevirtual idx, 3) ∧ pc + 3 = pc') (hd : d' + 1 ≤ d) (ho : w[a]? = some (.inr (ci, fs))) (hci : vwCl[ci]? = some (mi'.1.cls, T, N)) (hc : JV d' mi' [.ref a, a0, a1, a2] w w') (hn : 3 = mi'.2.2.2.2) (he : (entL [.ref a, a0, a1, a2]).length ≤ mi'.2.2.1) (hr : (rest.map fun v => v.category).sum ≤ 8) (kk : J d mi pc' ls rest w' Q) : J d mi pc ls (a2 :: a1 :: a0 :: .ref a :: rest) w Q :=
  j_callV (as := [a0, a1, a2]) (rest := rest) hm hlink h hd ho hci hc hn he hr (fun v u hvu => by obtain ⟨rfl, rfl⟩ := hvu; exact kk)
theorem j_V3X {mi' : MI} {rest : List Value} {d' idx : Nat} {r : Value} {w' : mW} {a0 a1 a2 : Value} {a ci N : Nat} {T : u_T} {fs : List Value} (hm : mV mi') (hlink : Cond.methodLink mi.1.cls idx mi'.1 ∈ UW) (h : decode mi.2.1 pc = .ok (.invokevirtual idx, 3) ∧ pc + 3 = pc') (hd : d' + 1 ≤ d) (ho : w[a]? = some (.inr (ci, fs))) (hci : vwCl[ci]? = some (mi'.1.cls, T, N)) (hc : JX d' mi' [.ref a, a0, a1, a2] w Q') (hn : 3 = mi'.2.2.2.2) (he : (entL [.ref a, a0, a1, a2]).length ≤ mi'.2.2.1) (hr : (rest.map fun v => v.category).sum ≤ 8) (kk : ∀ v w', Q' v w' → J d mi pc' ls (v.toList ++ rest) w' Q) : J d mi pc ls (a2 :: a1 :: a0 :: .ref a :: rest) w Q :=
  j_callV (as := [a0, a1, a2]) (rest := rest) hm hlink h hd ho hci hc hn he hr kk
theorem j_S4R {mi' : MI} {rest : List Value} {d' idx : Nat} {r : Value} {w' : mW} {a0 a1 a2 a3 : Value}  (hm : mS mi') (hlink : Cond.methodLink mi.1.cls idx mi'.1 ∈ UW) (h : decode mi.2.1 pc = .ok (.invokestatic idx, 3) ∧ pc + 3 = pc') (hd : d' + 1 ≤ d)  (hc : JR d' mi' [a0, a1, a2, a3] w r w') (hn : 4 = mi'.2.2.2.2) (he : (entL [a0, a1, a2, a3]).length ≤ mi'.2.2.1) (hr : (rest.map fun v => v.category).sum ≤ 8) (kk : J d mi pc' ls (r :: rest) w' Q) : J d mi pc ls (a3 :: a2 :: a1 :: a0 :: rest) w Q :=
  j_callS (as := [a0, a1, a2, a3]) (rest := rest) hm hlink h hd hc hn he hr (fun v u hvu => by obtain ⟨rfl, rfl⟩ := hvu; exact kk)
theorem j_S4U {mi' : MI} {rest : List Value} {d' idx : Nat} {r : Value} {w' : mW} {a0 a1 a2 a3 : Value}  (hm : mS mi') (hlink : Cond.methodLink mi.1.cls idx mi'.1 ∈ UW) (h : decode mi.2.1 pc = .ok (.invokestatic idx, 3) ∧ pc + 3 = pc') (hd : d' + 1 ≤ d)  (hc : JV d' mi' [a0, a1, a2, a3] w w') (hn : 4 = mi'.2.2.2.2) (he : (entL [a0, a1, a2, a3]).length ≤ mi'.2.2.1) (hr : (rest.map fun v => v.category).sum ≤ 8) (kk : J d mi pc' ls rest w' Q) : J d mi pc ls (a3 :: a2 :: a1 :: a0 :: rest) w Q :=
  j_callS (as := [a0, a1, a2, a3]) (rest := rest) hm hlink h hd hc hn he hr (fun v u hvu => by obtain ⟨rfl, rfl⟩ := hvu; exact kk)
theorem j_S4X {mi' : MI} {rest : List Value} {d' idx : Nat} {r : Value} {w' : mW} {a0 a1 a2 a3 : Value}  (hm : mS mi') (hlink : Cond.methodLink mi.1.cls idx mi'.1 ∈ UW) (h : decode mi.2.1 pc = .ok (.invokestatic idx, 3) ∧ pc + 3 = pc') (hd : d' + 1 ≤ d)  (hc : JX d' mi' [a0, a1, a2, a3] w Q') (hn : 4 = mi'.2.2.2.2) (he : (entL [a0, a1, a2, a3]).length ≤ mi'.2.2.1) (hr : (rest.map fun v => v.category).sum ≤ 8) (kk : ∀ v w', Q' v w' → J d mi pc' ls (v.toList ++ rest) w' Q) : J d mi pc ls (a3 :: a2 :: a1 :: a0 :: rest) w Q :=
  j_callS (as := [a0, a1, a2, a3]) (rest := rest) hm hlink h hd hc hn he hr kk
theorem j_SN4R {mi' : MI} {rest : List Value} {d' idx : Nat} {r : Value} {w' : mW} {a0 a1 a2 a3 : Value}  (hm : mS mi') {host : String} (hlink : Cond.methodLinkNest mi.1.cls idx mi'.1 host ∈ NW) (h : decode mi.2.1 pc = .ok (.invokestatic idx, 3) ∧ pc + 3 = pc') (hd : d' + 1 ≤ d)  (hc : JR d' mi' [a0, a1, a2, a3] w r w') (hn : 4 = mi'.2.2.2.2) (he : (entL [a0, a1, a2, a3]).length ≤ mi'.2.2.1) (hr : (rest.map fun v => v.category).sum ≤ 8) (kk : J d mi pc' ls (r :: rest) w' Q) : J d mi pc ls (a3 :: a2 :: a1 :: a0 :: rest) w Q :=
  j_callSN (as := [a0, a1, a2, a3]) (rest := rest) hm hlink h hd hc hn he hr (fun v u hvu => by obtain ⟨rfl, rfl⟩ := hvu; exact kk)
theorem j_SN4U {mi' : MI} {rest : List Value} {d' idx : Nat} {r : Value} {w' : mW} {a0 a1 a2 a3 : Value}  (hm : mS mi') {host : String} (hlink : Cond.methodLinkNest mi.1.cls idx mi'.1 host ∈ NW) (h : decode mi.2.1 pc = .ok (.invokestatic idx, 3) ∧ pc + 3 = pc') (hd : d' + 1 ≤ d)  (hc : JV d' mi' [a0, a1, a2, a3] w w') (hn : 4 = mi'.2.2.2.2) (he : (entL [a0, a1, a2, a3]).length ≤ mi'.2.2.1) (hr : (rest.map fun v => v.category).sum ≤ 8) (kk : J d mi pc' ls rest w' Q) : J d mi pc ls (a3 :: a2 :: a1 :: a0 :: rest) w Q :=
  j_callSN (as := [a0, a1, a2, a3]) (rest := rest) hm hlink h hd hc hn he hr (fun v u hvu => by obtain ⟨rfl, rfl⟩ := hvu; exact kk)
theorem j_SN4X {mi' : MI} {rest : List Value} {d' idx : Nat} {r : Value} {w' : mW} {a0 a1 a2 a3 : Value}  (hm : mS mi') {host : String} (hlink : Cond.methodLinkNest mi.1.cls idx mi'.1 host ∈ NW) (h : decode mi.2.1 pc = .ok (.invokestatic idx, 3) ∧ pc + 3 = pc') (hd : d' + 1 ≤ d)  (hc : JX d' mi' [a0, a1, a2, a3] w Q') (hn : 4 = mi'.2.2.2.2) (he : (entL [a0, a1, a2, a3]).length ≤ mi'.2.2.1) (hr : (rest.map fun v => v.category).sum ≤ 8) (kk : ∀ v w', Q' v w' → J d mi pc' ls (v.toList ++ rest) w' Q) : J d mi pc ls (a3 :: a2 :: a1 :: a0 :: rest) w Q :=
  j_callSN (as := [a0, a1, a2, a3]) (rest := rest) hm hlink h hd hc hn he hr kk
theorem j_V4R {mi' : MI} {rest : List Value} {d' idx : Nat} {r : Value} {w' : mW} {a0 a1 a2 a3 : Value} {a ci N : Nat} {T : u_T} {fs : List Value} (hm : mV mi') (hlink : Cond.methodLink mi.1.cls idx mi'.1 ∈ UW) (h : decode mi.2.1 pc = .ok (.invokevirtual idx, 3) ∧ pc + 3 = pc') (hd : d' + 1 ≤ d) (ho : w[a]? = some (.inr (ci, fs))) (hci : vwCl[ci]? = some (mi'.1.cls, T, N)) (hc : JR d' mi' [.ref a, a0, a1, a2, a3] w r w') (hn : 4 = mi'.2.2.2.2) (he : (entL [.ref a, a0, a1, a2, a3]).length ≤ mi'.2.2.1) (hr : (rest.map fun v => v.category).sum ≤ 8) (kk : J d mi pc' ls (r :: rest) w' Q) : J d mi pc ls (a3 :: a2 :: a1 :: a0 :: .ref a :: rest) w Q :=
  j_callV (as := [a0, a1, a2, a3]) (rest := rest) hm hlink h hd ho hci hc hn he hr (fun v u hvu => by obtain ⟨rfl, rfl⟩ := hvu; exact kk)
theorem j_V4U {mi' : MI} {rest : List Value} {d' idx : Nat} {r : Value} {w' : mW} {a0 a1 a2 a3 : Value} {a ci N : Nat} {T : u_T} {fs : List Value} (hm : mV mi') (hlink : Cond.methodLink mi.1.cls idx mi'.1 ∈ UW) (h : decode mi.2.1 pc = .ok (.invokevirtual idx, 3) ∧ pc + 3 = pc') (hd : d' + 1 ≤ d) (ho : w[a]? = some (.inr (ci, fs))) (hci : vwCl[ci]? = some (mi'.1.cls, T, N)) (hc : JV d' mi' [.ref a, a0, a1, a2, a3] w w') (hn : 4 = mi'.2.2.2.2) (he : (entL [.ref a, a0, a1, a2, a3]).length ≤ mi'.2.2.1) (hr : (rest.map fun v => v.category).sum ≤ 8) (kk : J d mi pc' ls rest w' Q) : J d mi pc ls (a3 :: a2 :: a1 :: a0 :: .ref a :: rest) w Q :=
  j_callV (as := [a0, a1, a2, a3]) (rest := rest) hm hlink h hd ho hci hc hn he hr (fun v u hvu => by obtain ⟨rfl, rfl⟩ := hvu; exact kk)
theorem j_V4X {mi' : MI} {rest : List Value} {d' idx : Nat} {r : Value} {w' : mW} {a0 a1 a2 a3 : Value} {a ci N : Nat} {T : u_T} {fs : List Value} (hm : mV mi') (hlink : Cond.methodLink mi.1.cls idx mi'.1 ∈ UW) (h : decode mi.2.1 pc = .ok (.invokevirtual idx, 3) ∧ pc + 3 = pc') (hd : d' + 1 ≤ d) (ho : w[a]? = some (.inr (ci, fs))) (hci : vwCl[ci]? = some (mi'.1.cls, T, N)) (hc : JX d' mi' [.ref a, a0, a1, a2, a3] w Q') (hn : 4 = mi'.2.2.2.2) (he : (entL [.ref a, a0, a1, a2, a3]).length ≤ mi'.2.2.1) (hr : (rest.map fun v => v.category).sum ≤ 8) (kk : ∀ v w', Q' v w' → J d mi pc' ls (v.toList ++ rest) w' Q) : J d mi pc ls (a3 :: a2 :: a1 :: a0 :: .ref a :: rest) w Q :=
  j_callV (as := [a0, a1, a2, a3]) (rest := rest) hm hlink h hd ho hci hc hn he hr kk
theorem j_S5R {mi' : MI} {rest : List Value} {d' idx : Nat} {r : Value} {w' : mW} {a0 a1 a2 a3 a4 : Value}  (hm : mS mi') (hlink : Cond.methodLink mi.1.cls idx mi'.1 ∈ UW) (h : decode mi.2.1 pc = .ok (.invokestatic idx, 3) ∧ pc + 3 = pc') (hd : d' + 1 ≤ d)  (hc : JR d' mi' [a0, a1, a2, a3, a4] w r w') (hn : 5 = mi'.2.2.2.2) (he : (entL [a0, a1, a2, a3, a4]).length ≤ mi'.2.2.1) (hr : (rest.map fun v => v.category).sum ≤ 8) (kk : J d mi pc' ls (r :: rest) w' Q) : J d mi pc ls (a4 :: a3 :: a2 :: a1 :: a0 :: rest) w Q :=
  j_callS (as := [a0, a1, a2, a3, a4]) (rest := rest) hm hlink h hd hc hn he hr (fun v u hvu => by obtain ⟨rfl, rfl⟩ := hvu; exact kk)
theorem j_S5U {mi' : MI} {rest : List Value} {d' idx : Nat} {r : Value} {w' : mW} {a0 a1 a2 a3 a4 : Value}  (hm : mS mi') (hlink : Cond.methodLink mi.1.cls idx mi'.1 ∈ UW) (h : decode mi.2.1 pc = .ok (.invokestatic idx, 3) ∧ pc + 3 = pc') (hd : d' + 1 ≤ d)  (hc : JV d' mi' [a0, a1, a2, a3, a4] w w') (hn : 5 = mi'.2.2.2.2) (he : (entL [a0, a1, a2, a3, a4]).length ≤ mi'.2.2.1) (hr : (rest.map fun v => v.category).sum ≤ 8) (kk : J d mi pc' ls rest w' Q) : J d mi pc ls (a4 :: a3 :: a2 :: a1 :: a0 :: rest) w Q :=
  j_callS (as := [a0, a1, a2, a3, a4]) (rest := rest) hm hlink h hd hc hn he hr (fun v u hvu => by obtain ⟨rfl, rfl⟩ := hvu; exact kk)
theorem j_S5X {mi' : MI} {rest : List Value} {d' idx : Nat} {r : Value} {w' : mW} {a0 a1 a2 a3 a4 : Value}  (hm : mS mi') (hlink : Cond.methodLink mi.1.cls idx mi'.1 ∈ UW) (h : decode mi.2.1 pc = .ok (.invokestatic idx, 3) ∧ pc + 3 = pc') (hd : d' + 1 ≤ d)  (hc : JX d' mi' [a0, a1, a2, a3, a4] w Q') (hn : 5 = mi'.2.2.2.2) (he : (entL [a0, a1, a2, a3, a4]).length ≤ mi'.2.2.1) (hr : (rest.map fun v => v.category).sum ≤ 8) (kk : ∀ v w', Q' v w' → J d mi pc' ls (v.toList ++ rest) w' Q) : J d mi pc ls (a4 :: a3 :: a2 :: a1 :: a0 :: rest) w Q :=
  j_callS (as := [a0, a1, a2, a3, a4]) (rest := rest) hm hlink h hd hc hn he hr kk
theorem j_SN5R {mi' : MI} {rest : List Value} {d' idx : Nat} {r : Value} {w' : mW} {a0 a1 a2 a3 a4 : Value}  (hm : mS mi') {host : String} (hlink : Cond.methodLinkNest mi.1.cls idx mi'.1 host ∈ NW) (h : decode mi.2.1 pc = .ok (.invokestatic idx, 3) ∧ pc + 3 = pc') (hd : d' + 1 ≤ d)  (hc : JR d' mi' [a0, a1, a2, a3, a4] w r w') (hn : 5 = mi'.2.2.2.2) (he : (entL [a0, a1, a2, a3, a4]).length ≤ mi'.2.2.1) (hr : (rest.map fun v => v.category).sum ≤ 8) (kk : J d mi pc' ls (r :: rest) w' Q) : J d mi pc ls (a4 :: a3 :: a2 :: a1 :: a0 :: rest) w Q :=
  j_callSN (as := [a0, a1, a2, a3, a4]) (rest := rest) hm hlink h hd hc hn he hr (fun v u hvu => by obtain ⟨rfl, rfl⟩ := hvu; exact kk)
theorem j_SN5U {mi' : MI} {rest : List Value} {d' idx : Nat} {r : Value} {w' : mW} {a0 a1 a2 a3 a4 : Value}  (hm : mS mi') {host : String} (hlink : Cond.methodLinkNest mi.1.cls idx mi'.1 host ∈ NW) (h : decode mi.2.1 pc = .ok (.invokestatic idx, 3) ∧ pc + 3 = pc') (hd : d' + 1 ≤ d)  (hc : JV d' mi' [a0, a1, a2, a3, a4] w w') (hn : 5 = mi'.2.2.2.2) (he : (entL [a0, a1, a2, a3, a4]).length ≤ mi'.2.2.1) (hr : (rest.map fun v => v.category).sum ≤ 8) (kk : J d mi pc' ls rest w' Q) : J d mi pc ls (a4 :: a3 :: a2 :: a1 :: a0 :: rest) w Q :=
  j_callSN (as := [a0, a1, a2, a3, a4]) (rest := rest) hm hlink h hd hc hn he hr (fun v u hvu => by obtain ⟨rfl, rfl⟩ := hvu; exact kk)
theorem j_SN5X {mi' : MI} {rest : List Value} {d' idx : Nat} {r : Value} {w' : mW} {a0 a1 a2 a3 a4 : Value}  (hm : mS mi') {host : String} (hlink : Cond.methodLinkNest mi.1.cls idx mi'.1 host ∈ NW) (h : decode mi.2.1 pc = .ok (.invokestatic idx, 3) ∧ pc + 3 = pc') (hd : d' + 1 ≤ d)  (hc : JX d' mi' [a0, a1, a2, a3, a4] w Q') (hn : 5 = mi'.2.2.2.2) (he : (entL [a0, a1, a2, a3, a4]).length ≤ mi'.2.2.1) (hr : (rest.map fun v => v.category).sum ≤ 8) (kk : ∀ v w', Q' v w' → J d mi pc' ls (v.toList ++ rest) w' Q) : J d mi pc ls (a4 :: a3 :: a2 :: a1 :: a0 :: rest) w Q :=
  j_callSN (as := [a0, a1, a2, a3, a4]) (rest := rest) hm hlink h hd hc hn he hr kk
theorem j_V5R {mi' : MI} {rest : List Value} {d' idx : Nat} {r : Value} {w' : mW} {a0 a1 a2 a3 a4 : Value} {a ci N : Nat} {T : u_T} {fs : List Value} (hm : mV mi') (hlink : Cond.methodLink mi.1.cls idx mi'.1 ∈ UW) (h : decode mi.2.1 pc = .ok (.invokevirtual idx, 3) ∧ pc + 3 = pc') (hd : d' + 1 ≤ d) (ho : w[a]? = some (.inr (ci, fs))) (hci : vwCl[ci]? = some (mi'.1.cls, T, N)) (hc : JR d' mi' [.ref a, a0, a1, a2, a3, a4] w r w') (hn : 5 = mi'.2.2.2.2) (he : (entL [.ref a, a0, a1, a2, a3, a4]).length ≤ mi'.2.2.1) (hr : (rest.map fun v => v.category).sum ≤ 8) (kk : J d mi pc' ls (r :: rest) w' Q) : J d mi pc ls (a4 :: a3 :: a2 :: a1 :: a0 :: .ref a :: rest) w Q :=
  j_callV (as := [a0, a1, a2, a3, a4]) (rest := rest) hm hlink h hd ho hci hc hn he hr (fun v u hvu => by obtain ⟨rfl, rfl⟩ := hvu; exact kk)
theorem j_V5U {mi' : MI} {rest : List Value} {d' idx : Nat} {r : Value} {w' : mW} {a0 a1 a2 a3 a4 : Value} {a ci N : Nat} {T : u_T} {fs : List Value} (hm : mV mi') (hlink : Cond.methodLink mi.1.cls idx mi'.1 ∈ UW) (h : decode mi.2.1 pc = .ok (.invokevirtual idx, 3) ∧ pc + 3 = pc') (hd : d' + 1 ≤ d) (ho : w[a]? = some (.inr (ci, fs))) (hci : vwCl[ci]? = some (mi'.1.cls, T, N)) (hc : JV d' mi' [.ref a, a0, a1, a2, a3, a4] w w') (hn : 5 = mi'.2.2.2.2) (he : (entL [.ref a, a0, a1, a2, a3, a4]).length ≤ mi'.2.2.1) (hr : (rest.map fun v => v.category).sum ≤ 8) (kk : J d mi pc' ls rest w' Q) : J d mi pc ls (a4 :: a3 :: a2 :: a1 :: a0 :: .ref a :: rest) w Q :=
  j_callV (as := [a0, a1, a2, a3, a4]) (rest := rest) hm hlink h hd ho hci hc hn he hr (fun v u hvu => by obtain ⟨rfl, rfl⟩ := hvu; exact kk)
theorem j_V5X {mi' : MI} {rest : List Value} {d' idx : Nat} {r : Value} {w' : mW} {a0 a1 a2 a3 a4 : Value} {a ci N : Nat} {T : u_T} {fs : List Value} (hm : mV mi') (hlink : Cond.methodLink mi.1.cls idx mi'.1 ∈ UW) (h : decode mi.2.1 pc = .ok (.invokevirtual idx, 3) ∧ pc + 3 = pc') (hd : d' + 1 ≤ d) (ho : w[a]? = some (.inr (ci, fs))) (hci : vwCl[ci]? = some (mi'.1.cls, T, N)) (hc : JX d' mi' [.ref a, a0, a1, a2, a3, a4] w Q') (hn : 5 = mi'.2.2.2.2) (he : (entL [.ref a, a0, a1, a2, a3, a4]).length ≤ mi'.2.2.1) (hr : (rest.map fun v => v.category).sum ≤ 8) (kk : ∀ v w', Q' v w' → J d mi pc' ls (v.toList ++ rest) w' Q) : J d mi pc ls (a4 :: a3 :: a2 :: a1 :: a0 :: .ref a :: rest) w Q :=
  j_callV (as := [a0, a1, a2, a3, a4]) (rest := rest) hm hlink h hd ho hci hc hn he hr kk
theorem j_S6R {mi' : MI} {rest : List Value} {d' idx : Nat} {r : Value} {w' : mW} {a0 a1 a2 a3 a4 a5 : Value}  (hm : mS mi') (hlink : Cond.methodLink mi.1.cls idx mi'.1 ∈ UW) (h : decode mi.2.1 pc = .ok (.invokestatic idx, 3) ∧ pc + 3 = pc') (hd : d' + 1 ≤ d)  (hc : JR d' mi' [a0, a1, a2, a3, a4, a5] w r w') (hn : 6 = mi'.2.2.2.2) (he : (entL [a0, a1, a2, a3, a4, a5]).length ≤ mi'.2.2.1) (hr : (rest.map fun v => v.category).sum ≤ 8) (kk : J d mi pc' ls (r :: rest) w' Q) : J d mi pc ls (a5 :: a4 :: a3 :: a2 :: a1 :: a0 :: rest) w Q :=
  j_callS (as := [a0, a1, a2, a3, a4, a5]) (rest := rest) hm hlink h hd hc hn he hr (fun v u hvu => by obtain ⟨rfl, rfl⟩ := hvu; exact kk)
theorem j_S6U {mi' : MI} {rest : List Value} {d' idx : Nat} {r : Value} {w' : mW} {a0 a1 a2 a3 a4 a5 : Value}  (hm : mS mi') (hlink : Cond.methodLink mi.1.cls idx mi'.1 ∈ UW) (h : decode mi.2.1 pc = .ok (.invokestatic idx, 3) ∧ pc + 3 = pc') (hd : d' + 1 ≤ d)  (hc : JV d' mi' [a0, a1, a2, a3, a4, a5] w w') (hn : 6 = mi'.2.2.2.2) (he : (entL [a0, a1, a2, a3, a4, a5]).length ≤ mi'.2.2.1) (hr : (rest.map fun v => v.category).sum ≤ 8) (kk : J d mi pc' ls rest w' Q) : J d mi pc ls (a5 :: a4 :: a3 :: a2 :: a1 :: a0 :: rest) w Q :=
  j_callS (as := [a0, a1, a2, a3, a4, a5]) (rest := rest) hm hlink h hd hc hn he hr (fun v u hvu => by obtain ⟨rfl, rfl⟩ := hvu; exact kk)
theorem j_S6X {mi' : MI} {rest : List Value} {d' idx : Nat} {r : Value} {w' : mW} {a0 a1 a2 a3 a4 a5 : Value}  (hm : mS mi') (hlink : Cond.methodLink mi.1.cls idx mi'.1 ∈ UW) (h : decode mi.2.1 pc = .ok (.invokestatic idx, 3) ∧ pc + 3 = pc') (hd : d' + 1 ≤ d)  (hc : JX d' mi' [a0, a1, a2, a3, a4, a5] w Q') (hn : 6 = mi'.2.2.2.2) (he : (entL [a0, a1, a2, a3, a4, a5]).length ≤ mi'.2.2.1) (hr : (rest.map fun v => v.category).sum ≤ 8) (kk : ∀ v w', Q' v w' → J d mi pc' ls (v.toList ++ rest) w' Q) : J d mi pc ls (a5 :: a4 :: a3 :: a2 :: a1 :: a0 :: rest) w Q :=
  j_callS (as := [a0, a1, a2, a3, a4, a5]) (rest := rest) hm hlink h hd hc hn he hr kk
theorem j_SN6R {mi' : MI} {rest : List Value} {d' idx : Nat} {r : Value} {w' : mW} {a0 a1 a2 a3 a4 a5 : Value}  (hm : mS mi') {host : String} (hlink : Cond.methodLinkNest mi.1.cls idx mi'.1 host ∈ NW) (h : decode mi.2.1 pc = .ok (.invokestatic idx, 3) ∧ pc + 3 = pc') (hd : d' + 1 ≤ d)  (hc : JR d' mi' [a0, a1, a2, a3, a4, a5] w r w') (hn : 6 = mi'.2.2.2.2) (he : (entL [a0, a1, a2, a3, a4, a5]).length ≤ mi'.2.2.1) (hr : (rest.map fun v => v.category).sum ≤ 8) (kk : J d mi pc' ls (r :: rest) w' Q) : J d mi pc ls (a5 :: a4 :: a3 :: a2 :: a1 :: a0 :: rest) w Q :=
  j_callSN (as := [a0, a1, a2, a3, a4, a5]) (rest := rest) hm hlink h hd hc hn he hr (fun v u hvu => by obtain ⟨rfl, rfl⟩ := hvu; exact kk)
theorem j_SN6U {mi' : MI} {rest : List Value} {d' idx : Nat} {r : Value} {w' : mW} {a0 a1 a2 a3 a4 a5 : Value}  (hm : mS mi') {host : String} (hlink : Cond.methodLinkNest mi.1.cls idx mi'.1 host ∈ NW) (h : decode mi.2.1 pc = .ok (.invokestatic idx, 3) ∧ pc + 3 = pc') (hd : d' + 1 ≤ d)  (hc : JV d' mi' [a0, a1, a2, a3, a4, a5] w w') (hn : 6 = mi'.2.2.2.2) (he : (entL [a0, a1, a2, a3, a4, a5]).length ≤ mi'.2.2.1) (hr : (rest.map fun v => v.category).sum ≤ 8) (kk : J d mi pc' ls rest w' Q) : J d mi pc ls (a5 :: a4 :: a3 :: a2 :: a1 :: a0 :: rest) w Q :=
  j_callSN (as := [a0, a1, a2, a3, a4, a5]) (rest := rest) hm hlink h hd hc hn he hr (fun v u hvu => by obtain ⟨rfl, rfl⟩ := hvu; exact kk)
theorem j_SN6X {mi' : MI} {rest : List Value} {d' idx : Nat} {r : Value} {w' : mW} {a0 a1 a2 a3 a4 a5 : Value}  (hm : mS mi') {host : String} (hlink : Cond.methodLinkNest mi.1.cls idx mi'.1 host ∈ NW) (h : decode mi.2.1 pc = .ok (.invokestatic idx, 3) ∧ pc + 3 = pc') (hd : d' + 1 ≤ d)  (hc : JX d' mi' [a0, a1, a2, a3, a4, a5] w Q') (hn : 6 = mi'.2.2.2.2) (he : (entL [a0, a1, a2, a3, a4, a5]).length ≤ mi'.2.2.1) (hr : (rest.map fun v => v.category).sum ≤ 8) (kk : ∀ v w', Q' v w' → J d mi pc' ls (v.toList ++ rest) w' Q) : J d mi pc ls (a5 :: a4 :: a3 :: a2 :: a1 :: a0 :: rest) w Q :=
  j_callSN (as := [a0, a1, a2, a3, a4, a5]) (rest := rest) hm hlink h hd hc hn he hr kk
end JRules
