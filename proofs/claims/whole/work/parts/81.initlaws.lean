/-! ===== constructors: a judgement over worlds with their addresses ===== -/
def nR (d mc ms : Nat) : Room := { frames := d, cells := mc, slots := ms, locals := 64 * d }
def NC (p : Program) (s : State) (m : MethodId) (args : Array Value) (meth : Method) (c : Code) (mi : MI) (D : va_G) (dA : Nat → ClassId) : Prop :=
  p.tables.exec = Jvm.exec ∧ c.code = mi.2.1 ∧ c.maxLocals = mi.2.2.1 ∧ meth.sig.returnType = mi.2.2.2.1 ∧ meth.locks = false ∧ s.vm.findClass mi.1.cls = some m.cls ∧ (∀ w ∈ UW, w.before args s = true) ∧ (∀ w ∈ NW, va_Nw w s) ∧ va_K D vwCl (tyA dA) s ∧ GK dA s
def NPre (D : va_G) (dA : Nat → ClassId) (sz : Nat) (w0 : va_W) : State → Prop := fun U => U.heap.size = sz ∧ va_P D vwCl w0 U.heap ∧ va_K D vwCl (tyA dA) U ∧ va_D (fun _ => True) w0 ∧ GK dA U ∧ ∀ w ∈ NW, va_Nw w U
def NPost {S : Type} (D : va_G) (dA : Nat → ClassId) (A : Nat → Prop) (W1 : S → va_W) : S → State → Prop := fun u U => va_P D vwCl (W1 u) U.heap ∧ va_K D vwCl (tyA dA) U ∧ va_D A (W1 u)
def NMet {S : Type} (d : Nat) (mi : MI) (mc ms : Nat) (w0 : Nat → va_W) (W1 : (Nat → ClassId) → Nat → S → va_W) : Prop := ∀ (l : Launch) (D : va_G) (dA : Nat → ClassId) (h0 sz : Nat), Met l mi.1 (cws mi) (nR d mc ms) (va_Pc [.ref h0] (NPre D dA sz (w0 h0))) (va_Qv (fun _ : S => True) (NPost D dA (va_A (w0 h0) sz) (W1 dA h0)) (va_A (w0 h0) sz)) mc ms (va_A (w0 h0) sz)
theorem NPre.blind {as : List Value} {D : va_G} {dA : Nat → ClassId} {sz : Nat} {w0 : va_W} : FrameBlind (va_Pc as (NPre D dA sz w0)) := by
  intro a U g mk h
  obtain ⟨h0, h1, h2, h3, h4, h6, h5⟩ := h
  exact ⟨h0, h1, h2, va_K.moved (u := U) (U := U.calling g mk a) (Vm.Alike.refl U.vm) h3, h4, GK.moved (u := U) (U := U.calling g mk a) (Vm.Alike.refl U.vm) h6, fun w hw => by
    obtain ⟨a1, i1, x1, h1, e1⟩ := nw_form w hw
    subst e1
    exact va_Nw.same (u := U) (U := U.calling g mk a) rfl rfl (h5 _ hw)⟩
def NJ (p : Program) (l : Launch) (e : Env) (R : Room) (s : State) (m : MethodId) (args : Array Value) (below : List Frame) (meth : Method) (c : Code) (D : va_G) (A : Nat → Prop) (Qp : State → Prop) (arr : Array Slot) (cells slots pc : Nat) (st : List Value) (w : va_W) : Prop :=
  ∀ (H : Heap) (locs : List Loc), va_S A s.heap H locs → va_P D vwCl w H → va_D A w → W p l e R s m args below meth c H locs cells slots Qp (F0 m pc arr st)
theorem n_map {α β : Type} {is : List α} {f : α → Option β} {w : List β} (h : is.map f = w.map some) : is.filterMap f = w := by
  have : is.filterMap f = (is.map f).filterMap id := by rw [List.filterMap_map]; rfl
  rw [this, h, List.filterMap_map]
  exact List.filterMap_some
section NRules
variable {p : Program} {l : Launch} {e : Env} {R : Room} {s : State} {m : MethodId} {args : Array Value} {below : List Frame} {meth : Method} {c : Code} {mi : MI} {D : va_G} {dA : Nat → ClassId} {A : Nat → Prop} {Qp : State → Prop} {arr : Array Slot} {cells slots pc pc' : Nat} {st : List Value} {w : va_W}
theorem n_aload {i : Fin 4} {b : Nat} (C : NC p s m args meth c mi D dA) (h : decode mi.2.1 pc = .ok (.aload_n i, 1) ∧ pc + 1 = pc') (hv : arr[(i : Nat)]? = some (.val (.ref b))) (k : NJ p l e R s m args below meth c D A Qp arr cells slots pc' (.ref b :: st) w) : NJ p l e R s m args below meth c D A Qp arr cells slots pc st w := by
  intro H locs hS hP hD
  obtain ⟨h, rfl⟩ := h
  exact lv_aload_n C.1 C.2.1 h rfl hv (k H locs hS hP hD)
theorem n_iconst {n : Int} {v : Int32} (C : NC p s m args meth c mi D dA) (h : decode mi.2.1 pc = .ok (.iconst n, 1) ∧ pc + 1 = pc') (hv : Int32.ofInt n = v) (k : NJ p l e R s m args below meth c D A Qp arr cells slots pc' (.int v :: st) w) : NJ p l e R s m args below meth c D A Qp arr cells slots pc st w := by
  intro H locs hS hP hD
  obtain ⟨h, rfl⟩ := h
  exact lv_iconst C.1 C.2.1 h hv (k H locs hS hP hD)
theorem n_bipush {n : Int} {v : Int32} (C : NC p s m args meth c mi D dA) (h : decode mi.2.1 pc = .ok (.bipush n, 2) ∧ pc + 2 = pc') (hv : (Int8.ofInt n).toInt32 = v) (k : NJ p l e R s m args below meth c D A Qp arr cells slots pc' (.int v :: st) w) : NJ p l e R s m args below meth c D A Qp arr cells slots pc st w := by
  intro H locs hS hP hD
  obtain ⟨h, rfl⟩ := h
  exact lv_bipush C.1 C.2.1 h hv (k H locs hS hP hD)
theorem n_sipush {n : Int} {v : Int32} (C : NC p s m args meth c mi D dA) (h : decode mi.2.1 pc = .ok (.sipush n, 3) ∧ pc + 3 = pc') (hv : (Int16.ofInt n).toInt32 = v) (k : NJ p l e R s m args below meth c D A Qp arr cells slots pc' (.int v :: st) w) : NJ p l e R s m args below meth c D A Qp arr cells slots pc st w := by
  intro H locs hS hP hD
  obtain ⟨h, rfl⟩ := h
  exact lv_sipush C.1 C.2.1 h hv (k H locs hS hP hD)
theorem n_dup {b : Nat} (C : NC p s m args meth c mi D dA) (h : decode mi.2.1 pc = .ok (.dup, 1) ∧ pc + 1 = pc') (k : NJ p l e R s m args below meth c D A Qp arr cells slots pc' (.ref b :: .ref b :: st) w) : NJ p l e R s m args below meth c D A Qp arr cells slots pc (.ref b :: st) w := by
  intro H locs hS hP hD
  obtain ⟨h, rfl⟩ := h
  exact lv_dup C.1 C.2.1 h rfl (k H locs hS hP hD)
theorem n_obj {idx b : Nat} (C : NC p s m args meth c mi D dA) (hl : Cond.methodLink mi.1.cls idx objectInit ∈ UW) (hi : Cond.instanceMethod objectInit ∈ UW) (hc : Cond.code objectInit ⟨#[0xb1]⟩ 1 none ∈ UW) (hz : arr.size = mi.2.2.1) (h : decode mi.2.1 pc = .ok (.invokespecial idx, 3) ∧ pc + 3 = pc') (hr : 1 ≤ R.frames ∧ 12 ≤ R.locals) (k : NJ p l e R s m args below meth c D A Qp arr cells slots pc' [] w) : NJ p l e R s m args below meth c D A Qp arr cells slots pc [.ref b] w := by
  intro H locs hS hP hD
  obtain ⟨h, rfl⟩ := h
  exact W.objInit C.1 C.2.1 C.2.2.2.2.2.1 (C.2.2.2.2.2.2.1 _ hl) (C.2.2.2.2.2.2.1 _ hi) (C.2.2.2.2.2.2.1 _ hc) rfl (hz.trans C.2.2.1.symm) rfl h hr.1 (by simpa using hr.2) (k H locs hS hP hD)
theorem n_newi {n : Int32} {M : Nat} (C : NC p s m args meth c mi D dA) (hA : ∀ q, s.heap.size ≤ q → A q) (hw : Cond.arrayClass .int ∈ UW) (h : decode mi.2.1 pc = .ok (.newarray .int, 2) ∧ pc + 2 = pc') (hn : ¬ n < 0) (hN : n.toNatClampNeg = M) (hb : M * 4 ≤ 536870912) (hc : cells + 1 ≤ R.cells ∧ slots + M ≤ R.slots)
    (k : ∀ q : Nat, NJ p l e R s m args below meth c D A Qp arr (cells + 1) (slots + M) pc' (.ref q :: st) (w ++ [(q, .inl (dA 0, M, .inl (fun _ => 0)))])) : NJ p l e R s m args below meth c D A Qp arr cells slots pc (.int n :: st) w := by
  intro H locs hS hP hD
  obtain ⟨h, rfl⟩ := h
  refine va_newa (atype := .int) (ty := .int) C.1 C.2.1 (C.2.2.2.2.2.2.1 _ hw) rfl C.2.2.2.2.2.2.2.2.1 hP hD hS hA (a0 := (M, .inl (fun _ => 0))) (N' := M) (fun _ => rfl) hn hN hb hc.1 hc.2 h (fun q cA H1 hK1 hP1 hD1 hS1 => ?_)
  have h1 : s.vm.findClass "[I" = some (dA 0) := (C.2.2.2.2.2.2.2.2.1.2 0 _ rfl).2
  have h2 : s.vm.findClass "[I" = some cA := (hK1.2 3 _ rfl).2
  obtain rfl := Option.some.inj (h1.symm.trans h2)
  exact k q H1 locs hS1 hP1 hD1
theorem n_newb {n : Int32} {M : Nat} (C : NC p s m args meth c mi D dA) (hA : ∀ q, s.heap.size ≤ q → A q) (hw : Cond.arrayClass .byte ∈ UW) (h : decode mi.2.1 pc = .ok (.newarray .byte, 2) ∧ pc + 2 = pc') (hn : ¬ n < 0) (hN : n.toNatClampNeg = M) (hb : M * 1 ≤ 536870912) (hc : cells + 1 ≤ R.cells ∧ slots + M ≤ R.slots)
    (k : ∀ q : Nat, NJ p l e R s m args below meth c D A Qp arr (cells + 1) (slots + M) pc' (.ref q :: st) (w ++ [(q, .inl (dA 1, M, .inl (fun _ => 0)))])) : NJ p l e R s m args below meth c D A Qp arr cells slots pc (.int n :: st) w := by
  intro H locs hS hP hD
  obtain ⟨h, rfl⟩ := h
  refine va_newa (atype := .byte) (ty := .byte) C.1 C.2.1 (C.2.2.2.2.2.2.1 _ hw) rfl C.2.2.2.2.2.2.2.2.1 hP hD hS hA (a0 := (M, .inl (fun _ => 0))) (N' := M) (fun _ => rfl) hn hN hb hc.1 hc.2 h (fun q cA H1 hK1 hP1 hD1 hS1 => ?_)
  have h1 : s.vm.findClass "[B" = some (dA 1) := (C.2.2.2.2.2.2.2.2.1.2 1 _ rfl).2
  have h2 : s.vm.findClass "[B" = some cA := (hK1.2 3 _ rfl).2
  obtain rfl := Option.some.inj (h1.symm.trans h2)
  exact k q H1 locs hS1 hP1 hD1
theorem n_row {idx : Nat} (C : NC p s m args meth c mi D dA) (hA : ∀ q, s.heap.size ≤ q → A q) (h1 : Cond.classLink mi.1.cls idx "[[I" ∈ UW) (h3 : Cond.arrayClass .int ∈ UW) (h : decode mi.2.1 pc = .ok (.multianewarray idx 2, 4) ∧ pc + 4 = pc') (hc : cells + 6 ≤ R.cells ∧ slots + 65 ≤ R.slots)
    (k : ∀ q : Nat, NJ p l e R s m args below meth c D A Qp arr (cells + 6) (slots + 65) pc' (.ref q :: st) (w ++ gmW (dA 0) (dA 2) q)) : NJ p l e R s m args below meth c D A Qp arr cells slots pc (.int 12 :: .int 5 :: st) w := by
  intro H locs hS hP hD
  obtain ⟨h, rfl⟩ := h
  exact gm_row C.1 C.2.1 C.2.2.2.2.2.1 (C.2.2.2.2.2.2.1 _ h1) C.2.2.2.2.2.2.2.2.2 (C.2.2.2.2.2.2.1 _ h3) C.2.2.2.2.2.2.2.2.1 hP hD hS hA hc.1 hc.2 h (fun q H1 locs1 hP1 hD1 hS1 => k q H1 locs1 hS1 hP1 hD1)
theorem n_putF {idx ci kf b : Nat} {ty : FieldType} {fs : List Value} {v : Value} {w2 : va_W} (C : NC p s m args meth c mi D dA) (hin : meth.name = "<init>") (hf : FOK mi.1.cls idx ci kf ty true) (hdecl : ∀ CC T N, vwCl[ci]? = some (CC, T, N) → (T kf).1 = mi.1.cls) (h : decode mi.2.1 pc = .ok (.putfield idx, 3) ∧ pc + 3 = pc') (hn : narrow ty v = v) (hfit : fits ty v = true) (hk : kf < fs.length)
    (k : NJ p l e R s m args below meth c D A Qp arr cells slots pc' st ((b, .inr (ci, fs.set kf v)) :: w2)) : NJ p l e R s m args below meth c D A Qp arr cells slots pc (v :: .ref b :: st) ((b, .inr (ci, fs)) :: w2) := by
  intro H locs hS hP hD
  obtain ⟨h, rfl⟩ := h
  obtain ⟨CC, T, N, ty0, g1, g2, g3, g4, g5, g6, g7, g8⟩ := hf
  subst g6
  exact va_putF (ref := (T kf).1) C.1 C.2.1 C.2.2.2.2.2.2.1 g2 ty0 g3 g4 C.2.2.2.2.2.1 C.2.2.2.2.2.2.2.2.1 hP hD hS 0 rfl g1 kf g5 (C.2.2.2.2.2.2.1 _ g8) (fun _ h9 => h9) g7 hin (hdecl CC T N g1) (g3 kf g5) hn hfit hk h fun H1 locs1 hP1 hD1 hS1 => k H1 locs1 hS1 hP1 hD1
theorem n_put {idx ci kf b : Nat} {ty : FieldType} {fs : List Value} {v : Value} {w2 : va_W} (C : NC p s m args meth c mi D dA) (hf : FOK mi.1.cls idx ci kf ty false) (h : decode mi.2.1 pc = .ok (.putfield idx, 3) ∧ pc + 3 = pc') (hn : narrow ty v = v) (hfit : fits ty v = true) (hk : kf < fs.length)
    (k : NJ p l e R s m args below meth c D A Qp arr cells slots pc' st ((b, .inr (ci, fs.set kf v)) :: w2)) : NJ p l e R s m args below meth c D A Qp arr cells slots pc (v :: .ref b :: st) ((b, .inr (ci, fs)) :: w2) := by
  intro H locs hS hP hD
  obtain ⟨h, rfl⟩ := h
  obtain ⟨CC, T, N, ty0, g1, g2, g3, g4, g5, g6, g7, g8⟩ := hf
  subst g6
  exact va_put (ref := (T kf).1) C.1 C.2.1 C.2.2.2.2.2.2.1 g2 ty0 g3 g4 C.2.2.2.2.2.1 C.2.2.2.2.2.2.2.2.1 hP hD hS 0 rfl g1 kf g5 (C.2.2.2.2.2.2.1 _ g8) (fun _ h9 => h9) g7 (g3 kf g5) hn hfit hk h fun H1 locs1 hP1 hD1 hS1 => k H1 locs1 hS1 hP1 hD1
theorem n_new {idx ci M : Nat} {CC : String} {T : u_T} {fs : List Value} (C : NC p s m args meth c mi D dA) (hA : ∀ q, s.heap.size ≤ q → A q) (hci : vwCl[ci]? = some (CC, T, M)) (hin : ∀ w ∈ u_ws CC T M, w ∈ UW) (ty : Nat → FieldType) (hty : ∀ k, k < M → parseFieldDescriptor (T k).2.2.1 = some (ty k)) (h1 : Cond.classLink mi.1.cls idx CC ∈ UW) (h2 : Cond.instantiable CC M ∈ UW) (h3 : Cond.initialized CC ∈ UW) (hfs : ∀ j, j < M → defaultValue (ty j) = vp_V fs j) (h : decode mi.2.1 pc = .ok (.new idx, 3) ∧ pc + 3 = pc') (hc : cells + 1 ≤ R.cells ∧ slots + M ≤ R.slots)
    (k : ∀ q : Nat, NJ p l e R s m args below meth c D A Qp arr (cells + 1) (slots + M) pc' (.ref q :: st) (w ++ [(q, .inr (ci, fs))])) : NJ p l e R s m args below meth c D A Qp arr cells slots pc st w := by
  intro H locs hS hP hD
  obtain ⟨h, rfl⟩ := h
  exact va_new C.1 C.2.1 C.2.2.2.2.2.2.1 hin ty hty C.2.2.2.2.2.1 (C.2.2.2.2.2.2.1 _ h1) (C.2.2.2.2.2.2.1 _ h2) (C.2.2.2.2.2.2.1 _ h3) C.2.2.2.2.2.2.2.2.1 hP hD hS hA hci hfs hc.1 hc.2 h fun q H1 hP1 hD1 hS1 => k q H1 locs hS1 hP1 hD1
theorem NC.pre {w0 : va_W} {H : Heap} (C : NC p s m args meth c mi D dA) (hP : va_P D vwCl w0 H) (hD : va_D A w0) (U : State) (hU : U.heap = H) (hW : s.WarmedH U.vm) : NPre D dA H.size w0 U := by
  refine ⟨by rw [hU], by rw [hU]; exact hP, va_K.moved hW.alike C.2.2.2.2.2.2.2.2.1, hD.weaken (fun _ _ _ _ => trivial), GK.moved hW.alike C.2.2.2.2.2.2.2.2.2, fun w hw => ?_⟩
  obtain ⟨a1, i1, x1, h1, e1⟩ := nw_form w hw
  subst e1
  exact va_Nw.warmM hW (C.2.2.2.2.2.2.2.1 _ hw)
theorem n_room {b : Nat} {st0 rest : List Value} (h : (rest.map fun v => v.category).sum ≤ 8) : 2 * (F0 m pc arr st0).monitorRoom + (rest.map fun v => v.category).sum ≤ 8 := lv_room h
theorem n_callN {S : Type} {mi' : MI} {d' mc' ms' idx q : Nat} {host : String} {w0' : Nat → va_W} {W1' : (Nat → ClassId) → Nat → S → va_W} {rest : List Value} (C : NC p s m args meth c mi D dA) (hA : ∀ q, s.heap.size ≤ q → A q) (hz : arr.size = mi.2.2.1) (hM : NMet d' mi' mc' ms' w0' W1') (hok : mOK mi' ∧ Cond.instanceMethod mi'.1 ∈ UW) (hn : mi'.1.name = "<init>") (h0 : mi'.2.2.2.2 = 0) (hv : mi'.2.2.2.1 = none) (hl : Cond.methodLinkNest mi.1.cls idx mi'.1 host ∈ NW) (h : decode mi.2.1 pc = .ok (.invokespecial idx, 3) ∧ pc + 3 = pc') (hd : d' + 1 ≤ R.frames ∧ 8 + (mi'.2.2.1 + 11) + 64 * d' ≤ R.locals) (hc : cells + mc' ≤ R.cells ∧ slots + ms' ≤ R.slots) (hr : (rest.map fun v => v.category).sum ≤ 8)
    (isC isR : List Nat) (hC : isC.map (fun i => (w ++ w0' q)[i]?) = (w0' q).map some) (hR : isR.map (fun i => (w ++ w0' q)[i]?) = w.map some) (n1 : va_nd isC = true) (n2 : va_nd isR = true) (n3 : ∀ i ∈ isR, i ∉ isC)
    (k : ∀ u : S, NJ p l e R s m args below meth c D A Qp arr (cells + mc') (slots + ms') pc' rest (w ++ W1' dA q u)) : NJ p l e R s m args below meth c D A Qp arr cells slots pc (.ref q :: rest) (w ++ w0' q) := by
  intro H locs hS hP hD
  obtain ⟨h, rfl⟩ := h
  have hPc : va_P D vwCl (w0' q) H := hP.sub isC (n_map hC)
  have hDc : va_D A (w0' q) := hD.sub isC n1 hC
  have hFc := va_free (wc := w0' q) hD hS hA isC hC
  obtain ⟨y, bytes, maxL, ret, na⟩ := mi'
  dsimp only at hn h0 hv hl hd
  subst h0
  subst hv
  refine va_callv (va_runIN (As := []) (rest := rest) (Ts := UW) (own := mi.1.cls) (host := host) (n := 0) ⟨C.1, C.2.1, C.2.2.1, C.2.2.2.2.2.1, C.2.2.2.2.2.2.1⟩ (hM l D dA q H.size) ⟨va_cnB 0 C.2.2.2.2.2.2.1 (cws_good hok.1) rfl rfl rfl (C.2.2.2.2.2.2.2.1 _ hl) (C.2.2.2.2.2.2.1 _ hok.1.2.1) ⟨hok.1.2.2.1.1, hok.1.2.2.1.2, hok.1.2.2.2.1⟩ hd, hn, C.2.2.2.2.2.2.1 _ hok.2⟩ ⟨NPre.blind, fun U hU hW => ⟨rfl, C.pre hPc hDc U hU hW⟩⟩ rfl rfl hz rfl (n_room (b := q) hr) h hc) hS (fun q _ h => hFc q h) hFc (fun u t H1 locs1 ht hvm hw hB hz1 hk1 hS1 => ?_)
  obtain ⟨hP1, hK1, hD1⟩ := hB
  rw [ht] at hP1
  obtain ⟨hP2, hD2⟩ := va_join hP hD isC isR hC hR n2 n3 hk1 hFc hP1 hD1
  exact k u H1 locs1 hS1 hP2 hD2
theorem n_callI {S : Type} {mi' : MI} {d' mc' ms' idx q : Nat} {w0' : Nat → va_W} {W1' : (Nat → ClassId) → Nat → S → va_W} {rest : List Value} (C : NC p s m args meth c mi D dA) (hA : ∀ q, s.heap.size ≤ q → A q) (hz : arr.size = mi.2.2.1) (hM : NMet d' mi' mc' ms' w0' W1') (hok : mOK mi' ∧ Cond.instanceMethod mi'.1 ∈ UW) (hn : mi'.1.name = "<init>") (h0 : mi'.2.2.2.2 = 0) (hv : mi'.2.2.2.1 = none) (hl : Cond.methodLink mi.1.cls idx mi'.1 ∈ UW) (h : decode mi.2.1 pc = .ok (.invokespecial idx, 3) ∧ pc + 3 = pc') (hd : d' + 1 ≤ R.frames ∧ 8 + (mi'.2.2.1 + 11) + 64 * d' ≤ R.locals) (hc : cells + mc' ≤ R.cells ∧ slots + ms' ≤ R.slots) (hr : (rest.map fun v => v.category).sum ≤ 8)
    (isC isR : List Nat) (hC : isC.map (fun i => (w ++ w0' q)[i]?) = (w0' q).map some) (hR : isR.map (fun i => (w ++ w0' q)[i]?) = w.map some) (n1 : va_nd isC = true) (n2 : va_nd isR = true) (n3 : ∀ i ∈ isR, i ∉ isC)
    (k : ∀ u : S, NJ p l e R s m args below meth c D A Qp arr (cells + mc') (slots + ms') pc' rest (w ++ W1' dA q u)) : NJ p l e R s m args below meth c D A Qp arr cells slots pc (.ref q :: rest) (w ++ w0' q) := by
  intro H locs hS hP hD
  obtain ⟨h, rfl⟩ := h
  have hPc : va_P D vwCl (w0' q) H := hP.sub isC (n_map hC)
  have hDc : va_D A (w0' q) := hD.sub isC n1 hC
  have hFc := va_free (wc := w0' q) hD hS hA isC hC
  obtain ⟨y, bytes, maxL, ret, na⟩ := mi'
  dsimp only at hn h0 hv hl hd
  subst h0
  subst hv
  refine va_callv (va_runI (As := []) (rest := rest) (Ts := UW) (own := mi.1.cls) (n := 0) ⟨C.1, C.2.1, C.2.2.1, C.2.2.2.2.2.1, C.2.2.2.2.2.2.1⟩ (hM l D dA q H.size) (cwI 0 C.2.2.2.2.2.2.1 (cws_good hok.1) rfl rfl rfl (C.2.2.2.2.2.2.1 _ hok.1.2.1) (C.2.2.2.2.2.2.1 _ hl) (C.2.2.2.2.2.2.1 _ hok.2) hn ⟨hok.1.2.2.1.1, hok.1.2.2.1.2, hok.1.2.2.2.1⟩ hd) ⟨NPre.blind, fun U hU hW => ⟨rfl, C.pre hPc hDc U hU hW⟩⟩ rfl rfl hz rfl (n_room (b := q) hr) h hc) hS (fun q _ h => hFc q h) hFc (fun u t H1 locs1 ht hvm hw hB hz1 hk1 hS1 => ?_)
  obtain ⟨hP1, hK1, hD1⟩ := hB
  rw [ht] at hP1
  obtain ⟨hP2, hD2⟩ := va_join hP hD isC isR hC hR n2 n3 hk1 hFc hP1 hD1
  exact k u H1 locs1 hS1 hP2 hD2
theorem n_ret {S : Type} {mc ms : Nat} {W1 : S → va_W} (u : S) (C : NC p s m args meth c mi D dA) (h : decode mi.2.1 pc = .ok (.return_, 1) ∧ pc + 1 = pc') (hv : mi.2.2.2.1 = none) (hw : w = W1 u) (hc : cells ≤ mc ∧ slots ≤ ms) : NJ p l e R s m args below meth c D A (MQ below (va_Qv (fun _ : S => True) (NPost D dA A W1) A) args s mc ms A) arr cells slots pc [] w := by
  intro H locs hS hP hD
  subst hw
  have hlocks : meth.locks = false := C.2.2.2.2.1
  refine W.widen hc.1 hc.2 ?_
  exact W.vret C.1 C.2.1 (C.2.2.2.1.trans hv) (fun t ht hW => ⟨⟨u, rfl, trivial, by rw [ht]; exact hP, va_K.moved hW.alike C.2.2.2.2.2.2.2.2.1, hD⟩, hS.F ht⟩) hS.2.2 h.1
end NRules
theorem n_met {S : Type} {mi : MI} {d mc ms ci : Nat} {fs0 : List Value} {W1 : (Nat → ClassId) → Nat → S → va_W} (hm : mOK mi) (hn : mi.1.name = "<init>") (hL : mi.2.2.1 = 1)
    (hJ : ∀ (p : Program) (l : Launch) (e : Env) (s : State) (m : MethodId) (args : Array Value) (below : List Frame) (meth : Method) (c : Code) (D : va_G) (dA : Nat → ClassId) (A : Nat → Prop) (h0 : Nat) (arr : Array Slot), NC p s m args meth c mi D dA → meth.name = "<init>" → (∀ q, s.heap.size ≤ q → A q) → arr.size = mi.2.2.1 → arr[0]? = some (.val (.ref h0)) → NJ p l e (nR d mc ms) s m args below meth c D A (MQ below (va_Qv (fun _ : S => True) (NPost D dA A (W1 dA h0)) A) args s mc ms A) arr 0 0 0 [] [(h0, .inr (ci, fs0))]) : NMet d mi mc ms (fun h0 => [(h0, .inr (ci, fs0))]) W1 := by
  intro l D dA h0 sz
  refine Met.ofW (cc := mi.2.1) (maxL := mi.2.2.1) (ret := mi.2.2.2.1) hm.2.2.2.2.1 rfl ?_
  intro p e s m args below meth c s₁ B hml hv
  obtain ⟨rfl, hsz, hP, hK, hD0, hG, hN⟩ := hv
  subst hsz
  have hts := atoms_spec (ws := cws mi) B.pre
  have hin : meth.name = "<init>" := (name_of_methodNamed B.named B.method).1.trans hn
  have hl := lv_entry ([.ref h0]) (n := mi.2.2.1) (by rw [hL]; exact Nat.le_of_ble_eq_true rfl)
  rw [lg_entry_eq]
  exact hJ p l e s m _ below meth c D dA _ h0 _ ⟨B.exec, B.bytes, hml, B.returns, B.notSynchronized, findClass_of_methodNamed B.named, fun w hw => hts w (List.mem_cons_of_mem _ hw), hN, hK, hG⟩ hin (fun q h => Or.inr h) hl.1 (hl.2.2 (0, .ref h0) List.mem_cons_self) s.heap [] va_S.rf hP hD0.self
