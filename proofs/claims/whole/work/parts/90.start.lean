/-! ===== the law, from its entry to its loop ===== -/
theorem u_cL5 : Cond.classLink RL 7 RX5 ∈ UW := uw 77 (by decide +kernel) (by decide +kernel)
theorem u_cL6 : Cond.classLink RL 10 RX6 ∈ UW := uw 698 (by decide +kernel) (by decide +kernel)
theorem u_rao : Cond.arrayOver (.array .int) ∈ lw_tbl := List.mem_of_getElem? (i := 110) (by decide +kernel)
theorem u_rsr : Cond.stringRef "LeapBoard$Page" 46 "kwfcb" ∈ lw_tbl := List.mem_of_getElem? (i := 275) (by decide +kernel)
theorem u_rcs : Cond.laysStatic "java/lang/String" "COMPACT_STRINGS" "Z" ∈ lw_tbl := List.mem_of_getElem? (i := 289) (by decide +kernel)
theorem u_ris : Cond.initialized "java/lang/String" ∈ lw_tbl := List.mem_of_getElem? (i := 70) (by decide +kernel)
section
variable {s : State} {b : Nat}
/-- the String constant and what its search reads, at the start -/
theorem amb0 (hts : ∀ w ∈ lw_tbl, w.before #[Value.ref b] s = true) (hgv : (Jvm.Cond.and given_1 narrow_1).before #[Value.ref b] s = true) : ∃ k0 v0 : Nat, ∀ q : Nat → Nat, q 1000 = k0 → q 1001 = v0 → Amb q (fun a => s.heap.size ≤ a) s s.heap := by
  have hs := flat_of_before _ hgv
  have hA : ∀ a : Nat, a < s.heap.size → ¬ (fun a : Nat => s.heap.size ≤ a) a := fun a h => Nat.not_le.mpr h
  obtain ⟨adK, adV, h1, h2⟩ := vk_Sof (args := #[Value.ref b]) (s := s) (N := 1) (tm := fun _ => .string "LeapBoard$Page" 46) (len := [5]) (byt := [[107, 119, 102, 99, 98]]) (A := fun a => s.heap.size ≤ a)
    (fun i hi => by obtain rfl : i = 0 := by omega
                    decide)
    (fun i hi => hs _ (by decide +kernel)) (fun i hi => hs _ (by decide +kernel)) (fun i hi => hs _ (by decide +kernel))
    (fun i hi => by obtain rfl : i = 0 := by omega
                    exact hs _ (by decide +kernel))
    (fun i hi j hj => by
      obtain rfl : i = 0 := by omega
      have hj : j < 5 := hj
      rcases (show j = 0 ∨ j = 1 ∨ j = 2 ∨ j = 3 ∨ j = 4 by omega) with rfl | rfl | rfl | rfl | rfl <;> exact hs _ (by decide +kernel))
    (fun i j hi hj hne => absurd (show i = j by omega) hne) hA
  refine ⟨adK 0, adV 0, fun q e0 e1 => ⟨⟨fun i hi => ?_, fun i j hi hj _ => by omega⟩, ?_, ?_⟩⟩
  · obtain rfl : i = 0 := by omega
    rw [e0, e1]
    exact h1.1 0 hi
  · rw [e0]
    exact vk_R.of (hts _ u_rsr) (h2 0 (by decide))
  · exact va_Zof (hts _ u_rcs) (hts _ u_ris) (va_eqi (hs _ (by decide +kernel))) hA
/-- what is known of the classes, at the start -/
theorem known0 (hts : ∀ w ∈ lw_tbl, w.before #[Value.ref b] s = true) : ∃ (D : va_G) (dA : Nat → ClassId), va_K D vwCl (tyA dA) s ∧ GK dA s := by
  have hU : ∀ w ∈ UW, w.before #[Value.ref b] s = true := fun w hw => hts w (List.mem_filter.mp hw).1
  obtain ⟨c0, i0, h0⟩ := u_known (C := RX0) (T := TX0) (N := 1) (n := 1) hU uwX0 (hU _ u_nX0)
  obtain ⟨c1, i1, h1⟩ := u_known (C := RX1) (T := TX1) (N := 4) (n := 4) hU uwX1 (hU _ u_nX1)
  obtain ⟨c2, i2, h2⟩ := u_known (C := RX2) (T := TX2) (N := 3) (n := 3) hU uwX2 (hU _ u_nX2)
  obtain ⟨c3, i3, h3⟩ := u_known (C := RX3) (T := TX3) (N := 8) (n := 8) hU uwX3 (hU _ u_nX3)
  obtain ⟨c4, i4, h4⟩ := u_known (C := RX4) (T := TX4) (N := 6) (n := 6) hU uwX4 (hU _ u_nX4)
  obtain ⟨c5, i5, h5⟩ := u_known (C := RX5) (T := TX5) (N := 9) (n := 9) hU uwX5 (hU _ u_nX5)
  obtain ⟨c6, i6, h6⟩ := u_known (C := RX6) (T := TX6) (N := 39) (n := 39) hU uwX6 (hU _ u_nX6)
  obtain ⟨dC, dI, hKc⟩ : ∃ (dC : Nat → ClassId) (dI : Nat → Nat → Nat), ∀ (k : Nat) (q : vw_C), vwCl[k]? = some q → u_Kn s q.1 q.2.1 q.2.2 (dC k) (dI k) := by
    refine ⟨fun k => match k with | 0 => c0 | 1 => c1 | 2 => c2 | 3 => c3 | 4 => c4 | 5 => c5 | _ => c6, fun k => match k with | 0 => i0 | 1 => i1 | 2 => i2 | 3 => i3 | 4 => i4 | 5 => i5 | _ => i6, ?_⟩
    intro k q hq
    match k, hq with
    | 0, hq => cases hq; exact h0
    | 1, hq => cases hq; exact h1
    | 2, hq => cases hq; exact h2
    | 3, hq => cases hq; exact h3
    | 4, hq => cases hq; exact h4
    | 5, hq => cases hq; exact h5
    | 6, hq => cases hq; exact h6
    | k + 7, hq => cases (show (none : Option vw_C) = some q from hq)
  obtain ⟨a0, k0, p0, f0, g0, e0⟩ := Cond.arrayClass_spec (hU _ u_ai)
  obtain ⟨a1, k1, p1, f1, g1, e1⟩ := Cond.arrayClass_spec (hU _ u_ab)
  obtain ⟨p2, a2, k2, f3, g2, e2, f2⟩ := gm_over (hts _ u_rao)
  have ep : p2 = a0 := Option.some.inj (f3.symm.trans f0)
  subst ep
  refine ⟨(dC, dI), fun k => match k with | 0 => p2 | 1 => a1 | _ => a2, ⟨hKc, fun k q hq => ?_⟩, ⟨k2, g2, e2⟩⟩
  match k, hq with
  | 0, hq => cases hq; exact ⟨fun n z => ⟨fun k h => (by cases h), k0, g0, p0, e0⟩, f0⟩
  | 1, hq => cases hq; exact ⟨fun n z => ⟨fun k h => (by cases h), k1, g1, p1, e1⟩, f1⟩
  | 2, hq => cases hq; exact ⟨fun n z => ⟨fun k h => (by cases h), k2, g2, p2, e2⟩, f2⟩
  | k + 3, hq => cases (show (none : Option (ClassId × FieldType)) = some q from hq)
end
section
variable {p : Program} {l : Launch} {e : Env} {R : Room} {s : State} {m : MethodId} {args : Array Value} {below : List Frame} {meth : Method} {c : Code} {mi : MI} {D : va_G} {dA : Nat → ClassId} {A : Nat → Prop} {Qp : State → Prop} {arr : Array Slot} {cells slots pc pc' : Nat} {st : List Value} {w : va_W}
theorem n_astore {k : Fin 4} {i nL x : Nat} {lv lv' : List (Nat × Value)} (C : NC p s m args meth c mi D dA) (h : decode mi.2.1 pc = .ok (.astore_n k, 1) ∧ pc + 1 = pc') (hi : (k : Nat) = i) (hl : lv_has arr nL lv) (hn : i < nL) (hf : (i, Value.ref x) :: lv.filter (fun q => !(q.1 == i) && !(q.1 + 1 == i && q.2.category == 2)) = lv')
    (kk : ∀ arr' : Array Slot, lv_has arr' nL lv' → NJ p l e R s m args below meth c D A Qp arr' cells slots pc' st w) : NJ p l e R s m args below meth c D A Qp arr cells slots pc (.ref x :: st) w := by
  intro H locs hS hP hD
  obtain ⟨h, rfl⟩ := h
  exact lv_astore_n C.1 C.2.1 h hi hl hn hf fun ls' h' => kk ls' h' H locs hS hP hD
theorem n_istore {k : Fin 4} {i nL : Nat} {x : Int32} {lv lv' : List (Nat × Value)} (C : NC p s m args meth c mi D dA) (h : decode mi.2.1 pc = .ok (.istore_n k, 1) ∧ pc + 1 = pc') (hi : (k : Nat) = i) (hl : lv_has arr nL lv) (hn : i < nL) (hf : (i, Value.int x) :: lv.filter (fun q => !(q.1 == i) && !(q.1 + 1 == i && q.2.category == 2)) = lv')
    (kk : ∀ arr' : Array Slot, lv_has arr' nL lv' → NJ p l e R s m args below meth c D A Qp arr' cells slots pc' st w) : NJ p l e R s m args below meth c D A Qp arr cells slots pc (.int x :: st) w := by
  intro H locs hS hP hD
  obtain ⟨h, rfl⟩ := h
  exact lv_istore_n C.1 C.2.1 h hi hl hn hf fun ls' h' => kk ls' h' H locs hS hP hD
end
set_option maxHeartbeats 4000000 in
set_option maxRecDepth 100000 in
/-- THE LAW, from its entry: for every script of at most 2560 ints it comes to its end with true -/
theorem whole_start {p : Program} {e : Env} {s : State} {m : MethodId} {below : List Frame} {meth : Method} {c : Code} (l : Launch) (hflags : l.flags = flags0) {b L : Nat} {xs : Nat → Int32} (hL : L ≤ 2560) (C0 : lw_At p s m meth c b L xs) : W p l e room_1 s m #[Value.ref b] below meth c s.heap [] 0 0 (lw_Z below #[Value.ref b] s) (entryFrame m ([Value.ref b] : List Value).toArray 4) := by
  obtain ⟨hx, hb, hr, hml, hown, hts, hX, hbl, hlocks, hgv⟩ := id C0
  obtain ⟨k0, v0, hamb⟩ := amb0 hts hgv
  obtain ⟨D, dA, hK, hG⟩ := known0 hts
  have hN : ∀ w ∈ NW, va_Nw w s := fun w hw => by
    obtain ⟨a1, i1, x1, h1, e1⟩ := nw_form w hw
    have h := hts w (nw_tbl w hw)
    subst e1
    exact va_tabs rfl rfl h
  have hU : ∀ w ∈ UW, w.before #[Value.ref b] s = true := fun w hw => hts w (List.mem_filter.mp hw).1
  have C : NC p s m #[Value.ref b] meth c mL_law D dA := ⟨hx, hb, hml, hr, hlocks, hown, hU, hN, hK, hG⟩
  have hA : ∀ q : Nat, s.heap.size ≤ q → (fun a : Nat => s.heap.size ≤ a) q := fun _ h => h
  have hl := lv_entry ([.ref b]) (n := 4) (Nat.le_of_ble_eq_true rfl)
  rw [lg_entry_eq]
  generalize (lg_sl ([.ref b]) ++ List.replicate (4 - (lg_sl ([.ref b])).length) Slot.unset).toArray = ls at hl ⊢
  have hl : lv_has ls 4 [(0, .ref b)] := hl
  refine (show NJ p l e room_1 s m #[Value.ref b] below meth c D (fun a : Nat => s.heap.size ≤ a) (lw_Z below #[Value.ref b] s) ls 0 0 0 [] [] from ?_) s.heap [] va_S.rf (fun k q h => by simp at h) ⟨fun i j p q h => by simp at h, fun k q h => by simp at h⟩
  refine n_new C hA (ci := 5) (CC := RX5) (T := TX5) (M := 9) (fs := fsX5) rfl uwX5 tyX5 tyX5_ok u_cL5 u_nX5 u_iX5 dfX5 iL_law_0 ⟨Nat.le_of_ble_eq_true rfl, Nat.le_of_ble_eq_true rfl⟩ (fun q0 => ?_)
  refine n_dup C iL_law_3 ?_
  refine n_callI (q := q0) C hA hl.1 metX5_init okX5_init rfl rfl rfl lk_L_9 iL_law_4 ⟨Nat.le_of_ble_eq_true rfl, Nat.le_of_ble_eq_true rfl⟩ ⟨Nat.le_of_ble_eq_true rfl, Nat.le_of_ble_eq_true rfl⟩ (Nat.le_of_ble_eq_true rfl) [0] [] rfl rfl (by decide) (by decide) (by decide) (fun u => ?_)
  refine n_astore (lv' := [(1, .ref q0), (0, .ref b)]) C iL_law_7 rfl hl (by decide) rfl (fun ls1 hl1 => ?_)
  refine n_new C hA (ci := 6) (CC := RX6) (T := TX6) (M := 39) (fs := fsX6) rfl uwX6 tyX6 tyX6_ok u_cL6 u_nX6 u_iX6 dfX6 iL_law_8 ⟨Nat.le_of_ble_eq_true rfl, Nat.le_of_ble_eq_true rfl⟩ (fun q1 => ?_)
  refine n_dup C iL_law_11 ?_
  refine n_callI (q := q1) C hA hl1.1 metX6_init okX6_init rfl rfl rfl lk_L_12 iL_law_12 ⟨Nat.le_of_ble_eq_true rfl, Nat.le_of_ble_eq_true rfl⟩ ⟨Nat.le_of_ble_eq_true rfl, Nat.le_of_ble_eq_true rfl⟩ (Nat.le_of_ble_eq_true rfl) [33] (List.range 33) rfl rfl (by decide) (by decide) (by decide) (fun v => ?_)
  refine n_astore (lv' := [(2, .ref q1), (1, .ref q0), (0, .ref b)]) C iL_law_15 rfl hl1 (by decide) rfl (fun ls2 hl2 => ?_)
  refine n_iconst (v := nI 0) C iL_law_16 (by decide) ?_
  refine n_istore (lv' := [(3, .int (nI 0)), (2, .ref q1), (1, .ref q0), (0, .ref b)]) C iL_law_17 rfl hl2 (by decide) rfl (fun ls3 hl3 => ?_)
  intro H locs hS hP hD
  refine W.widen (k := 600000) (n := 7302250) (Nat.le_of_ble_eq_true rfl) (Nat.le_of_ble_eq_true rfl) ?_
  have hw := world0 dA q0 u q1 v k0 v0 b
  have CL : LE p s m meth c b L xs (qL q0 u q1 v k0 v0 b) D dA := ⟨⟨hx, hb, hml, hr, hlocks, hown, hU, hN, hK, hamb _ rfl rfl⟩, hX, hbl, rfl, hL⟩
  refine law_loop CL (L + 1) 0 w00 (by omega) (by omega) rel0 H locs ls3 hS (hP.sub perm (n_map hw)) (hD.sub perm (by decide) hw) (lvH.of hl3 (fun i x h1 h2 => ?_))
  match i, h1 with
  | 0, h1 => cases h1; exact List.mem_of_getElem? (i := 3) rfl
  | 1, h1 => cases h1; exact List.mem_of_getElem? (i := 2) rfl
  | 2, h1 => cases h1; exact List.mem_of_getElem? (i := 1) rfl
  | 3, h1 => cases h1; exact List.mem_of_getElem? (i := 0) rfl
  | i + 4, h1 => cases (show (none : Option Value) = some x from h1)
