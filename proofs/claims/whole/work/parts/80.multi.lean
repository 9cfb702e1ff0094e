/-! ===== an array of five rows of twelve ===== -/
/-- the outer row when so many of its rows are made -/
def gmR (h i : Nat) : Nat → Value := fun j => if j < i then .ref (h + 1 + j) else .null
theorem gmR_0 (h : Nat) : gmR h 0 = fun _ => .null := by funext j; exact if_neg (Nat.not_lt_zero j)
theorem gmR_s (h i : Nat) : updV (gmR h i) i (.ref (h + 1 + i)) = gmR h (i + 1) := by
  funext j
  unfold updV gmR
  by_cases e : j = i
  · subst e; rw [if_pos rfl, if_pos (Nat.lt_succ_self _)]
  · rw [if_neg e]
    by_cases q : j < i
    · rw [if_pos q, if_pos (by omega)]
    · rw [if_neg q, if_neg (by omega)]
def gmS (s : State) (cA cB : ClassId) : Nat → State
  | 0 => s.pushCell (arrV cA 5 (fun _ => .null))
  | i + 1 => ((gmS s cA cB i).pushCell (arrV cB 12 (fun _ => .int 0))).setCell s.heap.size (arrV cA 5 (gmR s.heap.size (i + 1)))
theorem gmS_at (s : State) (cA cB : ClassId) : ∀ i, (gmS s cA cB i).heap.size = s.heap.size + 1 + i ∧ (gmS s cA cB i).heap[s.heap.size]? = some (arrV cA 5 (gmR s.heap.size i)) ∧ (gmS s cA cB i).vm = s.vm ∧ (gmS s cA cB i).slotsUsed = s.slotsUsed + 5 + i * 12 ∧ (∀ a : Nat, a < s.heap.size → (gmS s cA cB i).heap[a]? = s.heap[a]?) ∧ ∀ j : Nat, j < i → (gmS s cA cB i).heap[s.heap.size + 1 + j]? = some (arrV cB 12 (fun _ => .int 0)) := by
  intro i
  induction i with
  | zero =>
    refine ⟨by simp [gmS], by rw [gmR_0]; exact State.heap_pushCell_size _ _, rfl, by simp [gmS, arrV], fun a ha => State.heap_pushCell_of_lt _ _ ha, fun j hj => absurd hj (Nat.not_lt_zero _)⟩
  | succ i ih =>
    obtain ⟨h1, h2, h3, h4, h5, h6⟩ := ih
    have hlt : s.heap.size < (gmS s cA cB i).heap.size := by omega
    have hp : ((gmS s cA cB i).pushCell (arrV cB 12 (fun _ => .int 0))).heap[s.heap.size]? = some (arrV cA 5 (gmR s.heap.size i)) := by
      rw [State.heap_pushCell_of_lt (h := hlt)]; exact h2
    refine ⟨?_, State.heap_setCell_self hp, by simp [gmS, h3], ?_, fun a ha => ?_, fun j hj => ?_⟩
    · simp [gmS, State.setCell, h1]; omega
    · simp [gmS, h4, arrV]; omega
    · show (((gmS s cA cB i).pushCell _).setCell s.heap.size _).heap[a]? = _
      rw [State.heap_setCell_other (show s.heap.size ≠ a by omega), State.heap_pushCell_of_lt (h := (show a < (gmS s cA cB i).heap.size by omega))]
      exact h5 a ha
    · show (((gmS s cA cB i).pushCell _).setCell s.heap.size _).heap[s.heap.size + 1 + j]? = _
      rw [State.heap_setCell_other (show s.heap.size ≠ s.heap.size + 1 + j by omega)]
      by_cases e : j = i
      · subst e
        rw [← h1]
        exact State.heap_pushCell_size _ _
      · rw [State.heap_pushCell_of_lt (h := (show s.heap.size + 1 + j < (gmS s cA cB i).heap.size by omega))]
        exact h6 j (by omega)
theorem gmS_top (s : State) (f : JFrame) (cA cB : ClassId) : ∀ i, gmS (s.setTop f) cA cB i = (gmS s cA cB i).setTop f := by
  intro i
  induction i with
  | zero => rfl
  | succ i ih => simp only [gmS, ih, State.heap_setTop, State.pushCell_setTop, State.setCell_setTop]
section
variable {p : Program} {l : Launch} {e : Env} {R : Room} {s : State} {m : MethodId} {args : Array Value} {below : List Frame} {meth : Method} {c : Code} {T : State} {locs : List Loc} {cells slots : Nat}
theorem gmS_stand (X : Stand p l e R s m args below meth c T locs cells slots) (cA cB : ClassId) : ∀ i, Stand p l e R s m args below meth c (gmS T cA cB i) (locs ++ (List.range i).map fun j => ⟨T.heap.size, j⟩) (cells + 1 + i) (slots + 5 + i * 12) := by
  intro i
  induction i with
  | zero =>
    have h := X.pushed (arrV cA 5 (fun _ => .null))
    rw [arrV_size] at h
    simpa [gmS] using h
  | succ i ih =>
    obtain ⟨h1, h2, h3, h4, h5, h6⟩ := gmS_at T cA cB i
    have hlt : T.heap.size < (gmS T cA cB i).heap.size := by omega
    have hp : ((gmS T cA cB i).pushCell (arrV cB 12 (fun _ => .int 0))).heap[T.heap.size]? = some (arrV cA 5 (gmR T.heap.size i)) := by
      rw [State.heap_pushCell_of_lt (h := hlt)]; exact h2
    have h := (ih.pushed (arrV cB 12 (fun _ => .int 0))).stored hp i (.ref (T.heap.size + 1 + i))
    rw [arrV_size, arrV_store, gmR_s] at h
    rw [show (locs ++ (List.range (i + 1)).map fun j => (⟨T.heap.size, j⟩ : Loc)) = (locs ++ (List.range i).map fun j => (⟨T.heap.size, j⟩ : Loc)) ++ [⟨T.heap.size, i⟩] by simp [List.range_succ, List.append_assoc], show slots + 5 + (i + 1) * 12 = slots + 5 + i * 12 + 12 by omega]
    exact h
end
theorem gm_cell (cA : ClassId) (h : Nat) : arrV cA 5 (gmR h 5) = vp_cell cA (5, .inr (.inr (.inr (.inr (fun j => if j < 5 then some (h + 1 + j) else none))))) := by
  rw [vp_cell_q]
  refine congrArg (arrV cA 5) (funext fun j => ?_)
  unfold gmR
  by_cases q : j < 5
  · rw [if_pos q, if_pos q]; rfl
  · rw [if_neg q, if_neg q]; rfl
/-- the six cells -/
def gmW (a0 a2 : ClassId) (h : Nat) : va_W := [(h, .inl (a2, 5, .inr (.inr (.inr (.inr (fun j => if j < 5 then some (h + 1 + j) else none)))))), (h + 1, .inl (a0, 12, .inl (fun _ => 0))), (h + 2, .inl (a0, 12, .inl (fun _ => 0))), (h + 3, .inl (a0, 12, .inl (fun _ => 0))), (h + 4, .inl (a0, 12, .inl (fun _ => 0))), (h + 5, .inl (a0, 12, .inl (fun _ => 0)))]
section
variable {E : CtlPost} {e : Env} {d : Bool} {acts : List Action} {s : State}
/-- a row of n values, all the same -/
theorem gm_new {cA comp : ClassId} {k : Class} {ty : FieldType} {n : Nat} {v : Value} (hk : s.vm.classes[cA]? = some k) (hkind : k.kind = .array comp ty) (hl : ¬ n > e.platform.arrayLengthLimit) (hh : ¬ n * componentBytes ty > e.platform.maxHeapBytes) (hf : fits ty v = true) (hd : v.isDefault = true) (h1 : s.heap.size < e.platform.maxCells) (h2 : s.slotsUsed + n ≤ e.platform.maxSlots)
    {Q : Addr → Pre} (hq : Q s.heap.size d acts (s.pushCell (arrV cA n (fun _ => v)))) : wp (Jvm.newArray cA n v) Q E e d acts s := by
  have hfit : ∀ i x, (Array.replicate n v)[i]? = some x → s.fitsSlot cA .none i x = true := by
    intro i x hx
    simp only [Array.getElem?_replicate] at hx
    split at hx
    · cases hx; simp [State.fitsSlot, State.slotType?, hk, hkind, hf]
    · cases hx
  have hact : allocActs (Array.replicate n v) s.heap.size acts = acts := by
    unfold allocActs
    rw [if_pos (by rw [Array.all_replicate]; split <;> simp [hd])]
  simp only [Jvm.newArray, Jvm.arrayFits, wp_bind', W.ask, W.ite, hl, if_false, wp_pure', W.theClass, hk, hkind, hh, W.alloc, W.stop, Option.some.injEq, exists_eq_left', Array.size_replicate, hact]
  rw [if_neg (by omega)]
  refine ⟨h1, h2, hfit, ?_⟩
  rw [arrV_new]
  exact hq
/-- one row of twelve ints -/
theorem gm_one {cB comp : ClassId} {k : Class} (hk : s.vm.classes[cB]? = some k) (hkind : k.kind = .array comp .int) (hl : ¬ 12 > e.platform.arrayLengthLimit) (hh : ¬ 48 > e.platform.maxHeapBytes) (h1 : s.heap.size < e.platform.maxCells) (h2 : s.slotsUsed + 12 ≤ e.platform.maxSlots)
    {Q : Addr → Pre} (hq : Q s.heap.size d acts (s.pushCell (arrV cB 12 (fun _ => .int 0)))) : wp (multianewarray.make cB [12]) Q E e d acts s := by
  have hn : ¬ (12 : Int32) < 0 := by decide
  rw [multianewarray.make]
  simp only [wp_bind', W.ite, hn, if_false, wp_pure', W.theClass, hk, hkind, Option.some.injEq, exists_eq_left']
  exact gm_new hk hkind hl hh rfl rfl h1 h2 hq
/-- five such rows -/
theorem gm_all {cA cB comp : ClassId} {kA kB : Class} (hkA : s.vm.classes[cA]? = some kA) (hkindA : kA.kind = .array cB (.array .int)) (hkB : s.vm.classes[cB]? = some kB) (hkindB : kB.kind = .array comp .int) (hl : ¬ 12 > e.platform.arrayLengthLimit) (hh : ¬ 48 > e.platform.maxHeapBytes) (h1 : s.heap.size + 6 ≤ e.platform.maxCells) (h2 : s.slotsUsed + 65 ≤ e.platform.maxSlots)
    {Q : Addr → Pre} (hq : ∀ d' acts', Q s.heap.size d' acts' (gmS s cA cB 5)) : wp (multianewarray.make cA [5, 12]) Q E e d acts s := by
  have hn : ¬ (5 : Int32) < 0 := by decide
  have hfind : ([12] : List Int32).find? (· < 0) = none := by decide
  have h5 : (5 : Int32).toNatClampNeg = 5 := by decide
  rw [multianewarray.make]
  simp only [wp_bind', W.ite, hn, if_false, wp_pure', W.theClass, hkA, hkindA, Option.some.injEq, exists_eq_left', h5]
  refine gm_new hkA hkindA (by omega) (by show ¬ 5 * 4 > _; omega) rfl rfl (by omega) (by omega) ?_
  simp only [hfind]
  rw [ite_self, wp_bind', Std.Legacy.Range.forIn_eq_forIn_range']
  rw [show ([:5] : Std.Legacy.Range).size = 5 by decide]
  show wp (forIn (List.range' 0 5 1) PUnit.unit _) _ E e d acts _
  refine wp_forIn_inv (fun rest s' => ∃ i, i ≤ 5 ∧ rest = List.range' i (5 - i) ∧ s' = gmS s cA cB i) _ _ ⟨0, Nat.zero_le _, rfl, rfl⟩ ?_ ?_
  · rintro x rest s' d' acts' Q' ⟨i, hi, hl2, rfl⟩ hnext
    have hlt : i < 5 := by
      apply Nat.lt_of_not_le; intro z
      rw [show 5 - i = 0 by omega] at hl2; cases hl2
    rw [show 5 - i = (5 - (i + 1)) + 1 by omega, List.range'_succ] at hl2
    obtain ⟨rfl, rfl⟩ := List.cons.inj hl2
    obtain ⟨g1, g2, g3, g4, g5, g6⟩ := gmS_at s cA cB x
    simp only [wp_bind']
    refine gm_one (by rw [g3]; exact hkB) hkindB hl hh (by omega) (by omega) ?_
    have hlt0 : s.heap.size < (gmS s cA cB x).heap.size := by omega
    simp only [wp_bind', W.writeLoc, wp_pure']
    refine ⟨arrV cA 5 (gmR s.heap.size x), by rw [State.heap_pushCell_of_lt (h := hlt0)]; exact g2, (fun z => by cases z), by rw [arrV_size]; exact hlt, ?_, hnext _ _ _ ⟨x + 1, hlt, rfl, ?_⟩⟩
    · show State.fitsSlot _ cA .none x _ = true
      simp [State.fitsSlot, State.slotType?, g3, hkA, hkindA]
      rfl
    · rw [arrV_store, g1, gmR_s]; rfl
  · rintro s' d' acts' ⟨i, hi, hl2, rfl⟩
    have e5 : i = 5 := by
      apply Classical.byContradiction; intro z
      rw [show 5 - i = (5 - (i + 1)) + 1 by omega, List.range'_succ] at hl2; cases hl2
    subst e5
    simp only [wp_pure']
    exact hq _ _
end
/-- the class of an array of rows is over the class of its rows -/
def GK (dA : Nat → ClassId) (U : State) : Prop := ∃ kA, U.vm.classes[dA 2]? = some kA ∧ kA.kind = .array (dA 0) (.array .int)
theorem GK.moved {dA : Nat → ClassId} {u U : State} (hvm : u.vm.Alike U.vm) (h : GK dA u) : GK dA U := by
  obtain ⟨kA, h1, h2⟩ := h
  obtain ⟨k', h3, h4⟩ := hvm.2.2 _ _ h1
  exact ⟨k', h3, by rw [h4]; exact h2⟩
theorem gm_over {args : Array Value} {s : State} (h : (Cond.arrayOver (.array .int)).before args s = true) : ∃ comp cA k, s.vm.findClass "[I" = some comp ∧ s.vm.classes[cA]? = some k ∧ k.kind = .array comp (.array .int) ∧ s.vm.findClass "[[I" = some cA := by
  simp only [Cond.before, Cond.holds, Cond.value, beq_iff_eq] at h
  cases hc : s.vm.findClass (FieldType.array .int).toString with
  | none => simp [hc] at h
  | some comp =>
    simp only [hc, Option.bind_some, Option.bind_eq_some_iff, Option.map_eq_some_iff] at h
    obtain ⟨c, hi, k, hk, hb⟩ := h
    obtain ⟨hlt, hp, -⟩ := Array.findIdx?_eq_some_iff_getElem.mp hi
    rw [(Array.getElem?_eq_some_iff.mp hk).2] at hp
    cases hkind : k.kind with
    | array component ty =>
      rw [hkind] at hb hp
      simp at hb hp
      exact ⟨comp, c, k, hc, hk, by rw [hkind, hp, hb.1], hb.2⟩
    | _ => rw [hkind] at hb; simp at hb
section
variable {p : Program} {l : Launch} {e : Env} {R : Room} {s : State} {m : MethodId} {args : Array Value} {below : List Frame} {meth : Method} {c : Code} {H H0 : Heap} {locs : List Loc} {cells slots : Nat} {Q : State → Prop} {cc : ByteArray} {A : Nat → Prop} {ws : va_W} {D : va_G} {dA : Nat → ClassId} {ls : Array Slot} {rest : List Value} {pc : Nat}
theorem gm_row (hexec : p.tables.exec = Jvm.exec) (hb : c.code = cc) {own : String} {index : Nat} (hown : s.vm.findClass own = some m.cls) (hcl : (Cond.classLink own index "[[I").before args s = true) (hG : GK dA s) (harr : (Cond.arrayClass .int).before args s = true) (hK : va_K D vwCl (tyA dA) s) (hP : va_P D vwCl ws H) (hD : va_D A ws) (hS : va_S A H0 H locs) (hA : ∀ q, H0.size ≤ q → A q) (hcells : cells + 6 ≤ R.cells) (hslots : slots + 65 ≤ R.slots) (hdg : decode cc pc = .ok (.multianewarray index 2, 4))
    (kk : ∀ (h : Nat) (H1 : Heap) (locs1 : List Loc), va_P D vwCl (ws ++ gmW (dA 0) (dA 2) h) H1 →
      va_D A (ws ++ gmW (dA 0) (dA 2) h) → va_S A H0 H1 locs1 →
      W p l e R s m args below meth c H1 locs1 (cells + 6) (slots + 65) Q (F0 m (pc + 4) ls (.ref h :: rest))) : W p l e R s m args below meth c H locs cells slots Q (F0 m pc ls (.int 12 :: .int 5 :: rest)) := by
  intro T hT X
  subst hT
  obtain ⟨kA, hkA, hkindA⟩ := hG
  obtain ⟨comp', kB, cb, hcomp', hkB, hkindB⟩ := Cond.arrayClass_spec harr
  have e0 : dA 0 = comp' := by
    have : s.vm.findClass "[I" = some (dA 0) := (hK.2 0 _ rfl).2
    exact Option.some.inj (this.symm.trans hcomp')
  have hnA : s.vm.findClass "[[I" = some (dA 2) := (hK.2 2 _ rfl).2
  obtain ⟨cA, e2'⟩ : ∃ cA, cA = dA 2 := ⟨_, rfl⟩
  have e2 : dA 2 = cA := e2'.symm
  rw [e2] at hkA hnA
  rw [e0] at hkindA
  have hpl : e.platform.magicAccessors = ({} : Platform).magicAccessors := by rw [X.admits.platform]
  obtain ⟨c0, hfc0, hlk⟩ := Cond.classLink_spec hown hcl e.platform hpl
  cases hnA.symm.trans hfc0
  obtain ⟨hg₁, hwarm₁, hready₁⟩ := State.classEntry (e := e) X.warmed hlk
  generalize T.vm.noted m.cls index (.cls cA) = vm₁ at hg₁ hwarm₁ hready₁
  obtain ⟨kA₁, hkA₁, heA⟩ := hwarm₁.alike.2.2 _ _ hkA
  obtain ⟨kB₁, hkB₁, heB⟩ := hwarm₁.alike.2.2 _ _ hkB
  have X₁ := X.noted hwarm₁
  have X5 := gmS_stand X₁ cA comp' 5
  obtain ⟨hr1, hr2⟩ := X.roomAbove hcells hslots
  obtain ⟨g1, g2, g3, g4, g5, g6⟩ := gmS_at (T.setVm vm₁) cA comp' 5
  have hcell0 : ∀ j : Nat, j < 5 → (gmS (T.setVm vm₁) cA comp' 5).heap[T.heap.size + 1 + j]? = some (vp_cell (dA 0) (12, .inl (fun _ => 0))) := fun j hj => by
    rw [e0]; exact g6 j hj
  have hcellA : (gmS (T.setVm vm₁) cA comp' 5).heap[T.heap.size]? = some (vp_cell (dA 2) (5, .inr (.inr (.inr (.inr (fun j => if j < 5 then some (T.heap.size + 1 + j) else none)))))) := by
    rw [e2, ← gm_cell]
    exact g2
  have hold : ∀ (k : Nat) (x : Nat × va_E), ws[k]? = some x → (gmS (T.setVm vm₁) cA comp' 5).heap[x.1]? = T.heap[x.1]? := fun k x hx => g5 x.1 ((hP k x hx).lt)
  have hPo : va_P D vwCl ws (gmS (T.setVm vm₁) cA comp' 5).heap := hP.kept hold
  have hPn : va_P D vwCl (gmW (dA 0) (dA 2) T.heap.size) (gmS (T.setVm vm₁) cA comp' 5).heap := by
    intro k x hx
    match k, hx with
    | 0, hx => cases hx; exact hcellA
    | 1, hx => cases hx; exact hcell0 0 (by decide)
    | 2, hx => cases hx; exact hcell0 1 (by decide)
    | 3, hx => cases hx; exact hcell0 2 (by decide)
    | 4, hx => cases hx; exact hcell0 3 (by decide)
    | 5, hx => cases hx; exact hcell0 4 (by decide)
    | k + 6, hx => cases (show (none : Option (Nat × va_E)) = some x from hx)
  have hnew : ∀ (k : Nat) (x : Nat × va_E), (gmW (dA 0) (dA 2) T.heap.size)[k]? = some x → x.1 = T.heap.size + k := by
    intro k x hx
    match k, hx with
    | 0, hx => cases hx; rfl
    | 1, hx => cases hx; rfl
    | 2, hx => cases hx; rfl
    | 3, hx => cases hx; rfl
    | 4, hx => cases hx; rfl
    | 5, hx => cases hx; rfl
    | k + 6, hx => cases (show (none : Option (Nat × va_E)) = some x from hx)
  have hD1 : va_D A (ws ++ (gmW (dA 0) (dA 2) T.heap.size)) := by
    constructor
    · intro i j x y hx hy hxy
      by_cases hi : i < ws.length
      · rw [List.getElem?_append_left hi] at hx
        by_cases hj : j < ws.length
        · rw [List.getElem?_append_left hj] at hy
          exact hD.1 i j x y hx hy hxy
        · rw [List.getElem?_append_right (by omega)] at hy
          have h1 := (hP i x hx).lt
          have h2 := hnew _ y hy
          omega
      · rw [List.getElem?_append_right (by omega)] at hx
        have h1 := hnew _ x hx
        by_cases hj : j < ws.length
        · rw [List.getElem?_append_left hj] at hy
          have h2 := (hP j y hy).lt
          omega
        · rw [List.getElem?_append_right (by omega)] at hy
          have h2 := hnew _ y hy
          omega
    · intro k x hx
      by_cases hk : k < ws.length
      · rw [List.getElem?_append_left hk] at hx
        exact hD.2 k x hx
      · rw [List.getElem?_append_right (by omega)] at hx
        have h1 := hnew _ x hx
        have := hS.1
        exact hA _ (by omega)
  have hS1 : va_S A H0 (gmS (T.setVm vm₁) cA comp' 5).heap (locs ++ (List.range 5).map fun j => (⟨(T.setVm vm₁).heap.size, j⟩ : Loc)) := by
    have hz : (T.setVm vm₁).heap.size = T.heap.size := rfl
    refine ⟨by have := hS.1; omega, fun q h1 h2 => by rw [g5 q (by have := hS.1; omega)]; exact hS.2.1 q h1 h2, fun x hx => ?_⟩
    rcases List.mem_append.mp hx with h | h
    · exact hS.2.2 x h
    · obtain ⟨j, -, rfl⟩ := List.mem_map.mp h
      exact hA _ hS.1
  obtain ⟨t, a1, b1⟩ := kk T.heap.size _ _ (hPo.app hPn) hD1 hS1 _ rfl X5
  refine ⟨t, ?_, b1⟩
  jvm_step X.here [hexec, hb, hdg]
  simp only [multianewarray.sem, wp_bind', W.resolveClassAt_links (State.method?_setTop (F0 m pc ls (.int 12 :: .int 5 :: rest)) X.here.top) hg₁]
  rw [W.popN, if_neg (by decide)]
  refine ⟨F0 m pc ls (.int 12 :: .int 5 :: rest), State.topJava?_setTop' (s := T.setVm vm₁) _ X.here.top, [.int 5, .int 12], rest, rfl, rfl, ?_⟩
  simp only [List.mapM_cons, List.mapM_nil, wp_bind', wp_pure']
  have hl : ¬ 12 > e.platform.arrayLengthLimit := by rw [Launch.admits_arrayLengthLimit X.admits]; decide
  have hh : ¬ 48 > e.platform.maxHeapBytes := by rw [Launch.admits_maxHeapBytes X.admits]; decide
  have eS : ((T.setTop (F0 m pc ls (.int 12 :: .int 5 :: rest))).setVm vm₁).setTop ({ method := m, pc := pc, locals := ls, stack := rest, locked := none } : JFrame) = (T.setVm vm₁).setTop ({ method := m, pc := pc, locals := ls, stack := rest, locked := none } : JFrame) := by
    show ((T.setVm vm₁).setTop _).setTop _ = _
    rw [State.setTop_setTop]
  rw [eS]
  refine gm_all (s := (T.setVm vm₁).setTop ({ method := m, pc := pc, locals := ls, stack := rest, locked := none } : JFrame)) (kA := kA₁) (kB := kB₁) (cB := comp') (comp := cb) hkA₁ (by rw [heA]; exact hkindA) hkB₁ (by rw [heB]; exact hkindB) hl hh hr1 hr2 (fun d' acts' => ?_)
  rw [gmS_top]
  simp only [wp_bind', W.mark, W.pushRef, State.topJava?_setTop' _ X5.here.top, Option.some.injEq, exists_eq_left', State.setTop_setTop, State.heap_setTop]
  intro acts
  simp [jvm, X5.here.top]
  exact a1
end
