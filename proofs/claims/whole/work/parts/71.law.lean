/-! ===== the law: a judgement of its own ===== -/
def LE (p : Program) (s : State) (m : MethodId) (meth : Method) (c : Code) (b L : Nat) (xs : Nat → Int32) (q : Nat → Nat) (D : va_G) (dA : Nat → ClassId) : Prop :=
  JC p s m #[Value.ref b] meth c mL_law q D dA (fun a => s.heap.size ≤ a) ∧ va_X b L xs s s.heap ∧ b < s.heap.size ∧ q 1002 = b ∧ L ≤ 2560
def LJ (p : Program) (l : Launch) (e : Env) (s : State) (m : MethodId) (below : List Frame) (meth : Method) (c : Code) (b : Nat) (q : Nat → Nat) (D : va_G) (dA : Nat → ClassId) (pc : Nat) (ls st : List Value) (w : mW) : Prop :=
  ∀ (H : Heap) (locs : List Loc) (arr : Array Slot), va_S (fun a => s.heap.size ≤ a) s.heap H locs → va_P D vwCl (cW q dA w) H → va_D (fun a => s.heap.size ≤ a) (cW q dA w) → lvH q arr 4 ls →
    W p l e room_1 s m #[Value.ref b] below meth c H locs 600000 7302250 (lw_Z below #[Value.ref b] s) (F0 m pc arr (st.map (cV q)))
section LRules
variable {p : Program} {l : Launch} {e : Env} {s : State} {m : MethodId} {below : List Frame} {meth : Method} {c : Code} {b L : Nat} {xs : Nat → Int32} {q : Nat → Nat} {D : va_G} {dA : Nat → ClassId} {pc pc' : Nat} {ls st : List Value} {w : mW}
theorem l_iadd {x y : Int32} (C : LE p s m meth c b L xs q D dA) (h : decode cL_law pc = .ok (.iadd, 1) ∧ pc + 1 = pc')  (k : LJ p l e s m below meth c b q D dA pc' ls (.int (x + y) :: st) w) : LJ p l e s m below meth c b q D dA pc ls (.int y :: .int x :: st) w := by
  intro H locs arr hS hP hD hl
  obtain ⟨h, rfl⟩ := h
  exact lv_iadd C.1.1 C.1.2.1 h (k H locs arr hS hP hD hl)
theorem l_isub {x y : Int32} (C : LE p s m meth c b L xs q D dA) (h : decode cL_law pc = .ok (.isub, 1) ∧ pc + 1 = pc')  (k : LJ p l e s m below meth c b q D dA pc' ls (.int (x - y) :: st) w) : LJ p l e s m below meth c b q D dA pc ls (.int y :: .int x :: st) w := by
  intro H locs arr hS hP hD hl
  obtain ⟨h, rfl⟩ := h
  exact lv_isub C.1.1 C.1.2.1 h (k H locs arr hS hP hD hl)
theorem l_iand {x y : Int32} (C : LE p s m meth c b L xs q D dA) (h : decode cL_law pc = .ok (.iand, 1) ∧ pc + 1 = pc')  (k : LJ p l e s m below meth c b q D dA pc' ls (.int (x &&& y) :: st) w) : LJ p l e s m below meth c b q D dA pc ls (.int y :: .int x :: st) w := by
  intro H locs arr hS hP hD hl
  obtain ⟨h, rfl⟩ := h
  exact lv_iand C.1.1 C.1.2.1 h (k H locs arr hS hP hD hl)
theorem l_iconst {n : Int} {v : Int32} (C : LE p s m meth c b L xs q D dA) (h : decode cL_law pc = .ok (.iconst n, 1) ∧ pc + 1 = pc') (hv : Int32.ofInt n = v) (k : LJ p l e s m below meth c b q D dA pc' ls (.int v :: st) w) : LJ p l e s m below meth c b q D dA pc ls (st) w := by
  intro H locs arr hS hP hD hl
  obtain ⟨h, rfl⟩ := h
  exact lv_iconst C.1.1 C.1.2.1 h hv (k H locs arr hS hP hD hl)
theorem l_bipush {n : Int} {v : Int32} (C : LE p s m meth c b L xs q D dA) (h : decode cL_law pc = .ok (.bipush n, 2) ∧ pc + 2 = pc') (hv : (Int8.ofInt n).toInt32 = v) (k : LJ p l e s m below meth c b q D dA pc' ls (.int v :: st) w) : LJ p l e s m below meth c b q D dA pc ls (st) w := by
  intro H locs arr hS hP hD hl
  obtain ⟨h, rfl⟩ := h
  exact lv_bipush C.1.1 C.1.2.1 h hv (k H locs arr hS hP hD hl)
theorem l_iload_n {i : Fin 4} {x : Int32} (C : LE p s m meth c b L xs q D dA) (h : decode cL_law pc = .ok (.iload_n i, 1) ∧ pc + 1 = pc') (hv : ls[(i : Nat)]? = some (.int x)) (k : LJ p l e s m below meth c b q D dA pc' ls (.int x :: st) w) : LJ p l e s m below meth c b q D dA pc ls (st) w := by
  intro H locs arr hS hP hD hl
  obtain ⟨h, rfl⟩ := h
  exact lv_iload_n C.1.1 C.1.2.1 h rfl (hl.2.2 _ _ hv (by simp)) (k H locs arr hS hP hD hl)
theorem l_aload_n {i : Fin 4} {x : Nat} (C : LE p s m meth c b L xs q D dA) (h : decode cL_law pc = .ok (.aload_n i, 1) ∧ pc + 1 = pc') (hv : ls[(i : Nat)]? = some (.ref x)) (k : LJ p l e s m below meth c b q D dA pc' ls (.ref x :: st) w) : LJ p l e s m below meth c b q D dA pc ls (st) w := by
  intro H locs arr hS hP hD hl
  obtain ⟨h, rfl⟩ := h
  exact lv_aload_n C.1.1 C.1.2.1 h rfl (hl.2.2 _ _ hv (by simp)) (k H locs arr hS hP hD hl)
theorem l_iinc {i : Nat} {n : Int} {x v : Int32} (C : LE p s m meth c b L xs q D dA) (h : decode cL_law pc = .ok (.iinc i n, 3) ∧ pc + 3 = pc') (hv : ls[i]? = some (.int x)) (he : Int32.ofInt n = v) (hn : i < 4) (ho : okAt ls i = true) (k : LJ p l e s m below meth c b q D dA pc' (ls.set i (.int (x + v))) (st) w) : LJ p l e s m below meth c b q D dA pc ls (st) w := by
  intro H locs arr hS hP hD hl
  obtain ⟨h, rfl⟩ := h
  subst he
  obtain ⟨j, hj⟩ := List.getElem?_of_mem (lvl_mem (q := q) hv (by simp))
  refine lv_iinc C.1.1 C.1.2.1 h hl.has hj rfl hn rfl fun arr2 h2 => ?_
  exact k H locs arr2 hS hP hD (lvH.store rfl ho h2)
theorem l_goto {off : Int} {tgt : Nat} (C : LE p s m meth c b L xs q D dA) (h : decode cL_law pc = .ok (.goto off, 3) ∧ pc + 3 = pc') (ht : (pc : Int) + off = (tgt : Int)) (k : LJ p l e s m below meth c b q D dA tgt ls (st) w) : LJ p l e s m below meth c b q D dA pc ls (st) w := by
  intro H locs arr hS hP hD hl
  exact lv_goto C.1.1 C.1.2.1 h.1 ht (k H locs arr hS hP hD hl)
theorem l_if_eq {x : Int32} {off : Int} {tgt : Nat} (C : LE p s m meth c b L xs q D dA) (h : decode cL_law pc = .ok (.ifCond .eq off, 3) ∧ pc + 3 = pc') (ht : (pc : Int) + off = (tgt : Int)) (kt : x = 0 → LJ p l e s m below meth c b q D dA tgt ls (st) w) (kf : ¬ x = 0 → LJ p l e s m below meth c b q D dA pc' ls (st) w) : LJ p l e s m below meth c b q D dA pc ls (.int x :: st) w := by
  intro H locs arr hS hP hD hl
  obtain ⟨h, rfl⟩ := h
  exact lv_if_eq C.1.1 C.1.2.1 h ht (fun hc => kt hc H locs arr hS hP hD hl) (fun hc => kf hc H locs arr hS hP hD hl)
theorem l_icmp_eq {x y : Int32} {off : Int} {tgt : Nat} (C : LE p s m meth c b L xs q D dA) (h : decode cL_law pc = .ok (.if_icmp .eq off, 3) ∧ pc + 3 = pc') (ht : (pc : Int) + off = (tgt : Int)) (kt : x = y → LJ p l e s m below meth c b q D dA tgt ls (st) w) (kf : ¬ x = y → LJ p l e s m below meth c b q D dA pc' ls (st) w) : LJ p l e s m below meth c b q D dA pc ls (.int y :: .int x :: st) w := by
  intro H locs arr hS hP hD hl
  obtain ⟨h, rfl⟩ := h
  exact lv_icmp_eq C.1.1 C.1.2.1 h ht (fun hc => kt hc H locs arr hS hP hD hl) (fun hc => kf hc H locs arr hS hP hD hl)
theorem l_icmp_gt {x y : Int32} {off : Int} {tgt : Nat} (C : LE p s m meth c b L xs q D dA) (h : decode cL_law pc = .ok (.if_icmp .gt off, 3) ∧ pc + 3 = pc') (ht : (pc : Int) + off = (tgt : Int)) (kt : y < x → LJ p l e s m below meth c b q D dA tgt ls (st) w) (kf : ¬ y < x → LJ p l e s m below meth c b q D dA pc' ls (st) w) : LJ p l e s m below meth c b q D dA pc ls (.int y :: .int x :: st) w := by
  intro H locs arr hS hP hD hl
  obtain ⟨h, rfl⟩ := h
  exact lv_icmp_gt C.1.1 C.1.2.1 h ht (fun hc => kt hc H locs arr hS hP hD hl) (fun hc => kf hc H locs arr hS hP hD hl)
theorem l_tswOut {dflt lo hi : Int} {offs : Array Int} {len : Nat} {x : Int32} {tgt : Nat} (C : LE p s m meth c b L xs q D dA) (h : decode cL_law pc = .ok (.tableswitch dflt lo hi offs, len) ∧ pc + len = pc') (hx : x.toInt < lo ∨ hi < x.toInt) (ht : (pc : Int) + dflt = (tgt : Int)) (k : LJ p l e s m below meth c b q D dA tgt ls (st) w) : LJ p l e s m below meth c b q D dA pc ls (.int x :: st) w := by
  intro H locs arr hS hP hD hl
  exact lv_tableOut C.1.1 C.1.2.1 h.1 hx ht (k H locs arr hS hP hD hl)
theorem l_tswIn {dflt lo hi : Int} {offs : Array Int} {len : Nat} {x : Int32} {off : Int} {tgt : Nat} (C : LE p s m meth c b L xs q D dA) (h : decode cL_law pc = .ok (.tableswitch dflt lo hi offs, len) ∧ pc + len = pc') (h1 : ¬ x.toInt < lo) (h2 : ¬ hi < x.toInt) (ho : offs[(x.toInt - lo).toNat]? = some off) (ht : (pc : Int) + off = (tgt : Int)) (k : LJ p l e s m below meth c b q D dA tgt ls (st) w) : LJ p l e s m below meth c b q D dA pc ls (.int x :: st) w := by
  intro H locs arr hS hP hD hl
  exact lv_tableIn C.1.1 C.1.2.1 h.1 h1 h2 ho ht (k H locs arr hS hP hD hl)
theorem l_lcmp0 {x : Int64} (C : LE p s m meth c b L xs q D dA) (h : decode cL_law pc = .ok (.lcmp, 1) ∧ pc + 1 = pc') (k : LJ p l e s m below meth c b q D dA pc' ls (.int 0 :: st) w) : LJ p l e s m below meth c b q D dA pc ls (.long x :: .long x :: st) w := by
  intro H locs arr hS hP hD hl
  obtain ⟨h, rfl⟩ := h
  have e : lg_cmp x x = 0 := by simp [lg_cmp]
  exact W.lcmp C.1.1 C.1.2.1 h (by rw [e]; exact k H locs arr hS hP hD hl)
theorem l_slen (C : LE p s m meth c b L xs q D dA) (h : decode cL_law pc = .ok (.arraylength, 1) ∧ pc + 1 = pc') (k : LJ p l e s m below meth c b q D dA pc' ls (.int (nI L) :: st) w) : LJ p l e s m below meth c b q D dA pc ls (.ref 1002 :: st) w := by
  intro H locs arr hS hP hD hl
  obtain ⟨h, rfl⟩ := h
  have hA : ¬ (fun a => s.heap.size ≤ a) b := Nat.not_le.mpr C.2.2.1
  show W p l e room_1 s m #[Value.ref b] below meth c H locs 600000 7302250 (lw_Z below #[Value.ref b] s) (F0 m pc arr (.ref (q 1002) :: st.map (cV q)))
  rw [C.2.2.2.1]
  exact va_slen C.1.1 C.1.2.1 C.2.1 C.2.2.1 hA hS h (k H locs arr hS hP hD hl)
theorem l_sld {i : Nat} (C : LE p s m meth c b L xs q D dA) (h : decode cL_law pc = .ok (.iaload, 1) ∧ pc + 1 = pc') (hi : i < L) (k : LJ p l e s m below meth c b q D dA pc' ls (.int (xs i) :: st) w) : LJ p l e s m below meth c b q D dA pc ls (.int (nI i) :: .ref 1002 :: st) w := by
  intro H locs arr hS hP hD hl
  obtain ⟨h, rfl⟩ := h
  have hA : ¬ (fun a => s.heap.size ≤ a) b := Nat.not_le.mpr C.2.2.1
  have hL := C.2.2.2.2
  show W p l e room_1 s m #[Value.ref b] below meth c H locs 600000 7302250 (lw_Z below #[Value.ref b] s) (F0 m pc arr (.int (nI i) :: .ref (q 1002) :: st.map (cV q)))
  rw [C.2.2.2.1]
  have k2 := k H locs arr hS hP hD hl
  refine va_sld C.1.1 C.1.2.1 C.2.1 C.2.2.1 hA hS (vp_in_nI hi (by omega)) h ?_
  rw [nI_clamp (by omega)]
  exact k2
theorem l_ret1 (C : LE p s m meth c b L xs q D dA) (h : decode cL_law pc = .ok (.ireturn, 1) ∧ pc + 1 = pc') : LJ p l e s m below meth c b q D dA pc ls ([.int 1]) w := by
  intro H locs arr hS hP hD hl
  exact va_forget hS.2.2 (lw_ret C.1.1 C.1.2.1 C.1.2.2.2.1 C.1.2.2.2.2.1 h.1)
theorem l_callV {mi' : MI} {as rest fs : List Value} {d' idx a ci N : Nat} {T : u_T} {Q' : Option Value → mW → Prop} (C : LE p s m meth c b L xs q D dA) (hm : mV mi') (hlink : Cond.methodLink RL idx mi'.1 ∈ UW) (h : decode cL_law pc = .ok (.invokevirtual idx, 3) ∧ pc + 3 = pc') (hd : d' ≤ 40) (ho : w[a]? = some (.inr (ci, fs))) (hci : vwCl[ci]? = some (mi'.1.cls, T, N)) (hc : JX d' mi' (.ref a :: as) w Q') (hn : as.length = mi'.2.2.2.2) (he : (entL (.ref a :: as)).length ≤ mi'.2.2.1) (hr : (rest.map fun v => v.category).sum ≤ 8)
    (kk : ∀ v w', Q' v w' → LJ p l e s m below meth c b q D dA pc' ls (v.toList ++ rest) w') : LJ p l e s m below meth c b q D dA pc ls (as.reverse ++ .ref a :: rest) w := by
  intro H locs arr hS hP hD hl
  obtain ⟨h, rfl⟩ := h
  have hrun : va_Run p l e room_1 s m #[Value.ref b] below meth c H locs 600000 7302250 0 0 (F0 m pc arr ((as.reverse ++ .ref a :: rest).map (cV q))) (rest.map (cV q)) (JQ q D dA (fun a => s.heap.size ≤ a) Q' (Value.ref (q a) :: as.map (cV q)).toArray) (fun a => s.heap.size ≤ a) := by
    refine va_runV (As := as.map (cV q)) (rest := rest.map (cV q)) (Ts := UW) (own := RL) (n := mi'.2.2.2.2) (C := mi'.1.cls) (b := q a) ⟨C.1.1, C.1.2.1, C.1.2.2.1, C.1.2.2.2.2.2.1, C.1.2.2.2.2.2.2.1⟩ (J_met hm.1 he hc l q D dA (fun a => s.heap.size ≤ a)) ⟨callB_of _ C.1.2.2.2.2.2.2.1 (cws_good hm.1) rfl rfl rfl (C.1.2.2.2.2.2.2.1 _ hm.1.2.1) (C.1.2.2.2.2.2.2.1 _ hlink) ⟨hm.1.2.2.1.1, hm.1.2.2.1.2, hm.1.2.2.2.1⟩ ⟨?_, ?_⟩, C.1.2.2.2.2.2.2.1 _ hm.2.1, C.1.2.2.2.2.2.2.1 _ hm.2.2⟩ ⟨JPre.blind, va_recv C.1.2.2.2.2.2.2.2.2.1 hP hci (cW_get ho), fun U hU hW => ⟨rfl, C.1.pre hS hP hD U hU hW⟩⟩ rfl (by rw [List.length_map]; exact hn) hl.1 (by simp [cV]) (hroom hr) h ⟨Nat.le_refl _, Nat.le_refl _⟩
    · show d' + 1 ≤ 2048; omega
    · have := hm.1.2.2.2.2.2
      show 8 + (mi'.2.2.1 + 11) + 64 * d' ≤ 84000; omega
  intro T hT X
  obtain ⟨v, st₀, t, T', L1, h0, X', hL, e1, e2, ⟨⟨v1, w', hv, hp, hP1, hK1, hD1⟩, hz, hk⟩, stp⟩ := hrun T hT X
  cases hv
  rw [h0] at hz hk
  obtain ⟨t2, a1, b1⟩ := kk v1 w' hp T'.heap (locs ++ L1) arr
    ⟨Nat.le_trans hS.1 (by rw [e1]; exact hz), fun x h1 h2 => by rw [e1, hk x (Nat.lt_of_lt_of_le h1 hS.1) h2]; exact hS.2.1 x h1 h2, fun x hx => by
      rcases List.mem_append.mp hx with h | h
      · exact hS.2.2 x h
      · exact hL x h⟩ (by rw [e1]; exact hP1) hD1 hl T' rfl X'
  refine ⟨t2, stp t2 ?_, b1⟩
  have : (F0 m (pc + 3) arr ((v1.toList ++ rest).map (cV q))) = { (F0 m pc arr ((as.reverse ++ .ref a :: rest).map (cV q))) with pc := pc + 3, stack := (v1.map (cV q)).toList ++ rest.map (cV q) } := by
    cases v1 <;> simp
  rw [← this]
  exact a1
theorem LE.nI5 (C : LE p s m meth c b L xs q D dA) {i : Nat} (hi : i ≤ 2600) : (nI L - nI 5 < nI i) ↔ L < i + 5 := by
  have hL := C.2.2.2.2
  by_cases h5 : 5 ≤ L
  · rw [pk_sub h5, nI_ltI (by omega) (by omega)]; omega
  · have h1 : nI L - nI 5 < 0 := pk_sneg (by decide) (by omega)
    exact ⟨fun _ => by omega, fun _ => Int32.lt_of_lt_of_le h1 (nI_pos' (by omega))⟩
/-- a word of the script -/
theorem l_arg {i k : Nat} {p1 p2 p3 p4 p5 : Nat} {n : Int} {st : List Value} (C : LE p s m meth c b L xs q D dA) (h1 : decode cL_law pc = .ok (.aload_n 0, 1) ∧ pc + 1 = p1) (h2 : decode cL_law p1 = .ok (.iload_n 3, 1) ∧ p1 + 1 = p2) (h3 : decode cL_law p2 = .ok (.iconst n, 1) ∧ p2 + 1 = p3) (h4 : decode cL_law p3 = .ok (.iadd, 1) ∧ p3 + 1 = p4) (h5 : decode cL_law p4 = .ok (.iaload, 1) ∧ p4 + 1 = p5) (hn : Int32.ofInt n = nI k) (hi : i + k < L) (kk : LJ p l e s m below meth c b q D dA p5 [.ref 1002, .ref 0, .ref 33, .int (nI i)] (.int (xs (i + k)) :: st) w) : LJ p l e s m below meth c b q D dA pc [.ref 1002, .ref 0, .ref 33, .int (nI i)] (st) w := by
  refine l_aload_n (i := 0) (x := 1002) C h1 rfl ?_
  refine l_iload_n (i := 3) (x := nI i) C h2 rfl ?_
  refine l_iconst C h3 hn ?_
  refine l_iadd C h4 ?_
  rw [nI_add]
  exact l_sld C h5 hi kk
end LRules
section LCases
variable {p : Program} {l : Launch} {e : Env} {s : State} {m : MethodId} {below : List Frame} {meth : Method} {c : Code} {b L : Nat} {xs : Nat → Int32} {q : Nat → Nat} {D : va_G} {dA : Nat → ClassId} {w : mW}
theorem lc_letter (C : LE p s m meth c b L xs q D dA) : ∀ i : Nat, i + 5 ≤ L ∧ i ≤ 2560 → REL i w → (∀ w', REL (i + 1) w' → LJ p l e s m below meth c b q D dA 813 [.ref 1002, .ref 0, .ref 33, .int (nI i)] ([]) w') → LJ p l e s m below meth c b q D dA 144 [.ref 1002, .ref 0, .ref 33, .int (nI i)] ([]) w := by
  intro i hi hR kk
  obtain ⟨⟨fs0, h0⟩, -⟩ := hR.own
  obtain ⟨r, P, hc1, hc2⟩ := p_letter hR (xs (i + 1))
  refine l_aload_n (i := 1) (x := 0) C iL_law_144 rfl ?_
  refine l_arg (k := 1) C iL_law_145 iL_law_146 iL_law_147 iL_law_148 iL_law_149 (by decide) (by omega) ?_
  refine l_callV (as := [.int (xs (i + 1))]) (rest := []) (a := 0) C okX5_letter lk_L_13 iL_law_150 (Nat.le_refl _) h0 rfl hc1 rfl (Nat.le_of_ble_eq_true rfl) (Nat.le_of_ble_eq_true rfl) ?_
  rintro v u ⟨rfl, hu⟩
  obtain ⟨⟨fs1, h33⟩, hc3⟩ := hc2 u hu
  refine l_aload_n (i := 2) (x := 33) C iL_law_153 rfl ?_
  refine l_arg (k := 1) C iL_law_154 iL_law_155 iL_law_156 iL_law_157 iL_law_158 (by decide) (by omega) ?_
  refine l_callV (as := [.int (xs (i + 1))]) (rest := [.int r]) (a := 33) C okX6_letter lk_L_17 iL_law_159 (Nat.le_refl _) h33 rfl hc3 rfl (Nat.le_of_ble_eq_true rfl) (Nat.le_of_ble_eq_true rfl) ?_
  rintro v w' ⟨rfl, hR'⟩
  refine l_icmp_eq (tgt := 813) C iL_law_162 (by decide) (fun _ => kk w' hR') (fun hne => absurd rfl hne)
theorem lc_blank (C : LE p s m meth c b L xs q D dA) : ∀ i : Nat, i + 5 ≤ L ∧ i ≤ 2560 → REL i w → (∀ w', REL (i + 1) w' → LJ p l e s m below meth c b q D dA 813 [.ref 1002, .ref 0, .ref 33, .int (nI i)] ([]) w') → LJ p l e s m below meth c b q D dA 167 [.ref 1002, .ref 0, .ref 33, .int (nI i)] ([]) w := by
  intro i hi hR kk
  obtain ⟨⟨fs0, h0⟩, -⟩ := hR.own
  obtain ⟨r, P, hc1, hc2⟩ := p_blank hR 
  refine l_aload_n (i := 1) (x := 0) C iL_law_167 rfl ?_
  refine l_callV (as := []) (rest := []) (a := 0) C okX5_blank lk_L_18 iL_law_168 (Nat.le_refl _) h0 rfl hc1 rfl (Nat.le_of_ble_eq_true rfl) (Nat.le_of_ble_eq_true rfl) ?_
  rintro v u ⟨rfl, hu⟩
  obtain ⟨⟨fs1, h33⟩, hc3⟩ := hc2 u hu
  refine l_aload_n (i := 2) (x := 33) C iL_law_171 rfl ?_
  refine l_callV (as := []) (rest := [.int r]) (a := 33) C okX6_blank lk_L_22 iL_law_172 (Nat.le_refl _) h33 rfl hc3 rfl (Nat.le_of_ble_eq_true rfl) (Nat.le_of_ble_eq_true rfl) ?_
  rintro v w' ⟨rfl, hR'⟩
  refine l_icmp_eq (tgt := 813) C iL_law_175 (by decide) (fun _ => kk w' hR') (fun hne => absurd rfl hne)
theorem lc_fault (C : LE p s m meth c b L xs q D dA) : ∀ i : Nat, i + 5 ≤ L ∧ i ≤ 2560 → REL i w → (∀ w', REL (i + 1) w' → LJ p l e s m below meth c b q D dA 813 [.ref 1002, .ref 0, .ref 33, .int (nI i)] ([]) w') → LJ p l e s m below meth c b q D dA 180 [.ref 1002, .ref 0, .ref 33, .int (nI i)] ([]) w := by
  intro i hi hR kk
  obtain ⟨⟨fs0, h0⟩, -⟩ := hR.own
  obtain ⟨r, P, hc1, hc2⟩ := p_fault hR 
  refine l_aload_n (i := 1) (x := 0) C iL_law_180 rfl ?_
  refine l_callV (as := []) (rest := []) (a := 0) C okX5_fault lk_L_23 iL_law_181 (Nat.le_refl _) h0 rfl hc1 rfl (Nat.le_of_ble_eq_true rfl) (Nat.le_of_ble_eq_true rfl) ?_
  rintro v u ⟨rfl, hu⟩
  obtain ⟨⟨fs1, h33⟩, hc3⟩ := hc2 u hu
  refine l_aload_n (i := 2) (x := 33) C iL_law_184 rfl ?_
  refine l_callV (as := []) (rest := [.int r]) (a := 33) C okX6_fault lk_L_26 iL_law_185 (Nat.le_refl _) h33 rfl hc3 rfl (Nat.le_of_ble_eq_true rfl) (Nat.le_of_ble_eq_true rfl) ?_
  rintro v w' ⟨rfl, hR'⟩
  refine l_icmp_eq (tgt := 813) C iL_law_188 (by decide) (fun _ => kk w' hR') (fun hne => absurd rfl hne)
theorem lc_board (C : LE p s m meth c b L xs q D dA) : ∀ i : Nat, i + 5 ≤ L ∧ i ≤ 2560 → REL i w → (∀ w', REL (i + 1) w' → LJ p l e s m below meth c b q D dA 813 [.ref 1002, .ref 0, .ref 33, .int (nI i)] ([]) w') → LJ p l e s m below meth c b q D dA 193 [.ref 1002, .ref 0, .ref 33, .int (nI i)] ([]) w := by
  intro i hi hR kk
  obtain ⟨⟨fs0, h0⟩, -⟩ := hR.own
  obtain ⟨r, P, hc1, hc2⟩ := p_board hR 
  refine l_aload_n (i := 1) (x := 0) C iL_law_193 rfl ?_
  refine l_callV (as := []) (rest := []) (a := 0) C okX5_board lk_L_27 iL_law_194 (Nat.le_refl _) h0 rfl hc1 rfl (Nat.le_of_ble_eq_true rfl) (Nat.le_of_ble_eq_true rfl) ?_
  rintro v u ⟨rfl, hu⟩
  obtain ⟨⟨fs1, h33⟩, hc3⟩ := hc2 u hu
  refine l_aload_n (i := 2) (x := 33) C iL_law_197 rfl ?_
  refine l_callV (as := []) (rest := [.int r]) (a := 33) C okX6_board lk_L_30 iL_law_198 (Nat.le_refl _) h33 rfl hc3 rfl (Nat.le_of_ble_eq_true rfl) (Nat.le_of_ble_eq_true rfl) ?_
  rintro v w' ⟨rfl, hR'⟩
  refine l_icmp_eq (tgt := 813) C iL_law_201 (by decide) (fun _ => kk w' hR') (fun hne => absurd rfl hne)
theorem lc_leaper (C : LE p s m meth c b L xs q D dA) : ∀ i : Nat, i + 5 ≤ L ∧ i ≤ 2560 → REL i w → (∀ w', REL (i + 1) w' → LJ p l e s m below meth c b q D dA 813 [.ref 1002, .ref 0, .ref 33, .int (nI i)] ([]) w') → LJ p l e s m below meth c b q D dA 206 [.ref 1002, .ref 0, .ref 33, .int (nI i)] ([]) w := by
  intro i hi hR kk
  obtain ⟨⟨fs0, h0⟩, -⟩ := hR.own
  obtain ⟨r, P, hc1, hc2⟩ := p_leaper hR (xs (i + 1)) (xs (i + 2))
  refine l_aload_n (i := 1) (x := 0) C iL_law_206 rfl ?_
  refine l_arg (k := 1) C iL_law_207 iL_law_208 iL_law_209 iL_law_210 iL_law_211 (by decide) (by omega) ?_
  refine l_arg (k := 2) C iL_law_212 iL_law_213 iL_law_214 iL_law_215 iL_law_216 (by decide) (by omega) ?_
  refine l_callV (as := [.int (xs (i + 1)), .int (xs (i + 2))]) (rest := []) (a := 0) C okX5_leaper lk_L_31 iL_law_217 (Nat.le_refl _) h0 rfl hc1 rfl (Nat.le_of_ble_eq_true rfl) (Nat.le_of_ble_eq_true rfl) ?_
  rintro v u ⟨rfl, hu⟩
  obtain ⟨⟨fs1, h33⟩, hc3⟩ := hc2 u hu
  refine l_aload_n (i := 2) (x := 33) C iL_law_220 rfl ?_
  refine l_arg (k := 1) C iL_law_221 iL_law_222 iL_law_223 iL_law_224 iL_law_225 (by decide) (by omega) ?_
  refine l_arg (k := 2) C iL_law_226 iL_law_227 iL_law_228 iL_law_229 iL_law_230 (by decide) (by omega) ?_
  refine l_callV (as := [.int (xs (i + 1)), .int (xs (i + 2))]) (rest := [.int r]) (a := 33) C okX6_leaper lk_L_35 iL_law_231 (Nat.le_refl _) h33 rfl hc3 rfl (Nat.le_of_ble_eq_true rfl) (Nat.le_of_ble_eq_true rfl) ?_
  rintro v w' ⟨rfl, hR'⟩
  refine l_icmp_eq (tgt := 813) C iL_law_234 (by decide) (fun _ => kk w' hR') (fun hne => absurd rfl hne)
theorem lc_as (C : LE p s m meth c b L xs q D dA) : ∀ i : Nat, i + 5 ≤ L ∧ i ≤ 2560 → REL i w → (∀ w', REL (i + 1) w' → LJ p l e s m below meth c b q D dA 813 [.ref 1002, .ref 0, .ref 33, .int (nI i)] ([]) w') → LJ p l e s m below meth c b q D dA 239 [.ref 1002, .ref 0, .ref 33, .int (nI i)] ([]) w := by
  intro i hi hR kk
  obtain ⟨⟨fs0, h0⟩, -⟩ := hR.own
  obtain ⟨r, P, hc1, hc2⟩ := p_as hR (xs (i + 1)) (xs (i + 2))
  refine l_aload_n (i := 1) (x := 0) C iL_law_239 rfl ?_
  refine l_arg (k := 1) C iL_law_240 iL_law_241 iL_law_242 iL_law_243 iL_law_244 (by decide) (by omega) ?_
  refine l_arg (k := 2) C iL_law_245 iL_law_246 iL_law_247 iL_law_248 iL_law_249 (by decide) (by omega) ?_
  refine l_callV (as := [.int (xs (i + 1)), .int (xs (i + 2))]) (rest := []) (a := 0) C okX5_as lk_L_36 iL_law_250 (Nat.le_refl _) h0 rfl hc1 rfl (Nat.le_of_ble_eq_true rfl) (Nat.le_of_ble_eq_true rfl) ?_
  rintro v u ⟨rfl, hu⟩
  obtain ⟨⟨fs1, h33⟩, hc3⟩ := hc2 u hu
  refine l_aload_n (i := 2) (x := 33) C iL_law_253 rfl ?_
  refine l_arg (k := 1) C iL_law_254 iL_law_255 iL_law_256 iL_law_257 iL_law_258 (by decide) (by omega) ?_
  refine l_arg (k := 2) C iL_law_259 iL_law_260 iL_law_261 iL_law_262 iL_law_263 (by decide) (by omega) ?_
  refine l_callV (as := [.int (xs (i + 1)), .int (xs (i + 2))]) (rest := [.int r]) (a := 33) C okX6_as lk_L_39 iL_law_264 (Nat.le_refl _) h33 rfl hc3 rfl (Nat.le_of_ble_eq_true rfl) (Nat.le_of_ble_eq_true rfl) ?_
  rintro v w' ⟨rfl, hR'⟩
  refine l_icmp_eq (tgt := 813) C iL_law_267 (by decide) (fun _ => kk w' hR') (fun hne => absurd rfl hne)
theorem lc_cell (C : LE p s m meth c b L xs q D dA) : ∀ i : Nat, i + 5 ≤ L ∧ i ≤ 2560 → REL i w → (∀ w', REL (i + 1) w' → LJ p l e s m below meth c b q D dA 813 [.ref 1002, .ref 0, .ref 33, .int (nI i)] ([]) w') → LJ p l e s m below meth c b q D dA 272 [.ref 1002, .ref 0, .ref 33, .int (nI i)] ([]) w := by
  intro i hi hR kk
  obtain ⟨⟨fs0, h0⟩, -⟩ := hR.own
  obtain ⟨r, P, hc1, hc2⟩ := p_cell hR (xs (i + 1)) (xs (i + 2))
  refine l_aload_n (i := 1) (x := 0) C iL_law_272 rfl ?_
  refine l_arg (k := 1) C iL_law_273 iL_law_274 iL_law_275 iL_law_276 iL_law_277 (by decide) (by omega) ?_
  refine l_arg (k := 2) C iL_law_278 iL_law_279 iL_law_280 iL_law_281 iL_law_282 (by decide) (by omega) ?_
  refine l_callV (as := [.int (xs (i + 1)), .int (xs (i + 2))]) (rest := []) (a := 0) C okX5_cell lk_L_40 iL_law_283 (Nat.le_refl _) h0 rfl hc1 rfl (Nat.le_of_ble_eq_true rfl) (Nat.le_of_ble_eq_true rfl) ?_
  rintro v u ⟨rfl, hu⟩
  obtain ⟨⟨fs1, h33⟩, hc3⟩ := hc2 u hu
  refine l_aload_n (i := 2) (x := 33) C iL_law_286 rfl ?_
  refine l_arg (k := 1) C iL_law_287 iL_law_288 iL_law_289 iL_law_290 iL_law_291 (by decide) (by omega) ?_
  refine l_arg (k := 2) C iL_law_292 iL_law_293 iL_law_294 iL_law_295 iL_law_296 (by decide) (by omega) ?_
  refine l_callV (as := [.int (xs (i + 1)), .int (xs (i + 2))]) (rest := [.int r]) (a := 33) C okX6_cell lk_L_43 iL_law_297 (Nat.le_refl _) h33 rfl hc3 rfl (Nat.le_of_ble_eq_true rfl) (Nat.le_of_ble_eq_true rfl) ?_
  rintro v w' ⟨rfl, hR'⟩
  refine l_icmp_eq (tgt := 813) C iL_law_300 (by decide) (fun _ => kk w' hR') (fun hne => absurd rfl hne)
theorem lc_leap (C : LE p s m meth c b L xs q D dA) : ∀ i : Nat, i + 5 ≤ L ∧ i ≤ 2560 → REL i w → (∀ w', REL (i + 1) w' → LJ p l e s m below meth c b q D dA 813 [.ref 1002, .ref 0, .ref 33, .int (nI i)] ([]) w') → LJ p l e s m below meth c b q D dA 305 [.ref 1002, .ref 0, .ref 33, .int (nI i)] ([]) w := by
  intro i hi hR kk
  obtain ⟨⟨fs0, h0⟩, -⟩ := hR.own
  obtain ⟨r, P, hc1, hc2⟩ := p_leap hR (xs (i + 1)) (xs (i + 2))
  refine l_aload_n (i := 1) (x := 0) C iL_law_305 rfl ?_
  refine l_arg (k := 1) C iL_law_306 iL_law_307 iL_law_308 iL_law_309 iL_law_310 (by decide) (by omega) ?_
  refine l_arg (k := 2) C iL_law_311 iL_law_312 iL_law_313 iL_law_314 iL_law_315 (by decide) (by omega) ?_
  refine l_callV (as := [.int (xs (i + 1)), .int (xs (i + 2))]) (rest := []) (a := 0) C okX5_leap lk_L_44 iL_law_316 (Nat.le_refl _) h0 rfl hc1 rfl (Nat.le_of_ble_eq_true rfl) (Nat.le_of_ble_eq_true rfl) ?_
  rintro v u ⟨rfl, hu⟩
  obtain ⟨⟨fs1, h33⟩, hc3⟩ := hc2 u hu
  refine l_aload_n (i := 2) (x := 33) C iL_law_319 rfl ?_
  refine l_arg (k := 1) C iL_law_320 iL_law_321 iL_law_322 iL_law_323 iL_law_324 (by decide) (by omega) ?_
  refine l_arg (k := 2) C iL_law_325 iL_law_326 iL_law_327 iL_law_328 iL_law_329 (by decide) (by omega) ?_
  refine l_callV (as := [.int (xs (i + 1)), .int (xs (i + 2))]) (rest := [.int r]) (a := 33) C okX6_leap lk_L_47 iL_law_330 (Nat.le_refl _) h33 rfl hc3 rfl (Nat.le_of_ble_eq_true rfl) (Nat.le_of_ble_eq_true rfl) ?_
  rintro v w' ⟨rfl, hR'⟩
  refine l_icmp_eq (tgt := 813) C iL_law_333 (by decide) (fun _ => kk w' hR') (fun hne => absurd rfl hne)
theorem lc_dig (C : LE p s m meth c b L xs q D dA) : ∀ i : Nat, i + 5 ≤ L ∧ i ≤ 2560 → REL i w → (∀ w', REL (i + 1) w' → LJ p l e s m below meth c b q D dA 813 [.ref 1002, .ref 0, .ref 33, .int (nI i)] ([]) w') → LJ p l e s m below meth c b q D dA 338 [.ref 1002, .ref 0, .ref 33, .int (nI i)] ([]) w := by
  intro i hi hR kk
  obtain ⟨⟨fs0, h0⟩, -⟩ := hR.own
  obtain ⟨r, P, hc1, hc2⟩ := p_dig hR (xs (i + 1))
  refine l_aload_n (i := 1) (x := 0) C iL_law_338 rfl ?_
  refine l_arg (k := 1) C iL_law_339 iL_law_340 iL_law_341 iL_law_342 iL_law_343 (by decide) (by omega) ?_
  refine l_callV (as := [.int (xs (i + 1))]) (rest := []) (a := 0) C okX5_dig lk_L_48 iL_law_344 (Nat.le_refl _) h0 rfl hc1 rfl (Nat.le_of_ble_eq_true rfl) (Nat.le_of_ble_eq_true rfl) ?_
  rintro v u ⟨rfl, hu⟩
  obtain ⟨⟨fs1, h33⟩, hc3⟩ := hc2 u hu
  refine l_aload_n (i := 2) (x := 33) C iL_law_347 rfl ?_
  refine l_arg (k := 1) C iL_law_348 iL_law_349 iL_law_350 iL_law_351 iL_law_352 (by decide) (by omega) ?_
  refine l_callV (as := [.int (xs (i + 1))]) (rest := [.int r]) (a := 33) C okX6_dig lk_L_51 iL_law_353 (Nat.le_refl _) h33 rfl hc3 rfl (Nat.le_of_ble_eq_true rfl) (Nat.le_of_ble_eq_true rfl) ?_
  rintro v w' ⟨rfl, hR'⟩
  refine l_icmp_eq (tgt := 813) C iL_law_356 (by decide) (fun _ => kk w' hR') (fun hne => absurd rfl hne)
theorem lc_fill (C : LE p s m meth c b L xs q D dA) : ∀ i : Nat, i + 5 ≤ L ∧ i ≤ 2560 → REL i w → (∀ w', REL (i + 1) w' → LJ p l e s m below meth c b q D dA 813 [.ref 1002, .ref 0, .ref 33, .int (nI i)] ([]) w') → LJ p l e s m below meth c b q D dA 361 [.ref 1002, .ref 0, .ref 33, .int (nI i)] ([]) w := by
  intro i hi hR kk
  obtain ⟨⟨fs0, h0⟩, -⟩ := hR.own
  obtain ⟨r, P, hc1, hc2⟩ := p_fill hR (xs (i + 1))
  refine l_aload_n (i := 1) (x := 0) C iL_law_361 rfl ?_
  refine l_arg (k := 1) C iL_law_362 iL_law_363 iL_law_364 iL_law_365 iL_law_366 (by decide) (by omega) ?_
  refine l_callV (as := [.int (xs (i + 1))]) (rest := []) (a := 0) C okX5_fill lk_L_52 iL_law_367 (Nat.le_refl _) h0 rfl hc1 rfl (Nat.le_of_ble_eq_true rfl) (Nat.le_of_ble_eq_true rfl) ?_
  rintro v u ⟨rfl, hu⟩
  obtain ⟨⟨fs1, h33⟩, hc3⟩ := hc2 u hu
  refine l_aload_n (i := 2) (x := 33) C iL_law_370 rfl ?_
  refine l_arg (k := 1) C iL_law_371 iL_law_372 iL_law_373 iL_law_374 iL_law_375 (by decide) (by omega) ?_
  refine l_callV (as := [.int (xs (i + 1))]) (rest := [.int r]) (a := 33) C okX6_fill lk_L_55 iL_law_376 (Nat.le_refl _) h33 rfl hc3 rfl (Nat.le_of_ble_eq_true rfl) (Nat.le_of_ble_eq_true rfl) ?_
  rintro v w' ⟨rfl, hR'⟩
  refine l_icmp_eq (tgt := 813) C iL_law_379 (by decide) (fun _ => kk w' hR') (fun hne => absurd rfl hne)
theorem lc_be (C : LE p s m meth c b L xs q D dA) : ∀ i : Nat, i + 5 ≤ L ∧ i ≤ 2560 → REL i w → (∀ w', REL (i + 1) w' → LJ p l e s m below meth c b q D dA 813 [.ref 1002, .ref 0, .ref 33, .int (nI i)] ([]) w') → LJ p l e s m below meth c b q D dA 384 [.ref 1002, .ref 0, .ref 33, .int (nI i)] ([]) w := by
  intro i hi hR kk
  obtain ⟨⟨fs0, h0⟩, -⟩ := hR.own
  obtain ⟨r, P, hc1, hc2⟩ := p_be hR (xs (i + 1)) (xs (i + 2))
  refine l_aload_n (i := 1) (x := 0) C iL_law_384 rfl ?_
  refine l_arg (k := 1) C iL_law_385 iL_law_386 iL_law_387 iL_law_388 iL_law_389 (by decide) (by omega) ?_
  refine l_arg (k := 2) C iL_law_390 iL_law_391 iL_law_392 iL_law_393 iL_law_394 (by decide) (by omega) ?_
  refine l_callV (as := [.int (xs (i + 1)), .int (xs (i + 2))]) (rest := []) (a := 0) C okX5_be lk_L_56 iL_law_395 (Nat.le_refl _) h0 rfl hc1 rfl (Nat.le_of_ble_eq_true rfl) (Nat.le_of_ble_eq_true rfl) ?_
  rintro v u ⟨rfl, hu⟩
  obtain ⟨⟨fs1, h33⟩, hc3⟩ := hc2 u hu
  refine l_aload_n (i := 2) (x := 33) C iL_law_398 rfl ?_
  refine l_arg (k := 1) C iL_law_399 iL_law_400 iL_law_401 iL_law_402 iL_law_403 (by decide) (by omega) ?_
  refine l_arg (k := 2) C iL_law_404 iL_law_405 iL_law_406 iL_law_407 iL_law_408 (by decide) (by omega) ?_
  refine l_callV (as := [.int (xs (i + 1)), .int (xs (i + 2))]) (rest := [.int r]) (a := 33) C okX6_be lk_L_59 iL_law_409 (Nat.le_refl _) h33 rfl hc3 rfl (Nat.le_of_ble_eq_true rfl) (Nat.le_of_ble_eq_true rfl) ?_
  rintro v w' ⟨rfl, hR'⟩
  refine l_icmp_eq (tgt := 813) C iL_law_412 (by decide) (fun _ => kk w' hR') (fun hne => absurd rfl hne)
theorem lc_hops (C : LE p s m meth c b L xs q D dA) : ∀ i : Nat, i + 5 ≤ L ∧ i ≤ 2560 → REL i w → (∀ w', REL (i + 1) w' → LJ p l e s m below meth c b q D dA 813 [.ref 1002, .ref 0, .ref 33, .int (nI i)] ([]) w') → LJ p l e s m below meth c b q D dA 417 [.ref 1002, .ref 0, .ref 33, .int (nI i)] ([]) w := by
  intro i hi hR kk
  obtain ⟨⟨fs0, h0⟩, -⟩ := hR.own
  obtain ⟨r, P, hc1, hc2⟩ := p_hops hR (xs (i + 1)) (xs (i + 2))
  refine l_aload_n (i := 1) (x := 0) C iL_law_417 rfl ?_
  refine l_arg (k := 1) C iL_law_418 iL_law_419 iL_law_420 iL_law_421 iL_law_422 (by decide) (by omega) ?_
  refine l_arg (k := 2) C iL_law_423 iL_law_424 iL_law_425 iL_law_426 iL_law_427 (by decide) (by omega) ?_
  refine l_callV (as := [.int (xs (i + 1)), .int (xs (i + 2))]) (rest := []) (a := 0) C okX5_hops lk_L_60 iL_law_428 (Nat.le_refl _) h0 rfl hc1 rfl (Nat.le_of_ble_eq_true rfl) (Nat.le_of_ble_eq_true rfl) ?_
  rintro v u ⟨rfl, hu⟩
  obtain ⟨⟨fs1, h33⟩, hc3⟩ := hc2 u hu
  refine l_aload_n (i := 2) (x := 33) C iL_law_431 rfl ?_
  refine l_arg (k := 1) C iL_law_432 iL_law_433 iL_law_434 iL_law_435 iL_law_436 (by decide) (by omega) ?_
  refine l_arg (k := 2) C iL_law_437 iL_law_438 iL_law_439 iL_law_440 iL_law_441 (by decide) (by omega) ?_
  refine l_callV (as := [.int (xs (i + 1)), .int (xs (i + 2))]) (rest := [.int r]) (a := 33) C okX6_hops lk_L_63 iL_law_442 (Nat.le_refl _) h33 rfl hc3 rfl (Nat.le_of_ble_eq_true rfl) (Nat.le_of_ble_eq_true rfl) ?_
  rintro v w' ⟨rfl, hR'⟩
  refine l_icmp_eq (tgt := 813) C iL_law_445 (by decide) (fun _ => kk w' hR') (fun hne => absurd rfl hne)
theorem lc_trade (C : LE p s m meth c b L xs q D dA) : ∀ i : Nat, i + 5 ≤ L ∧ i ≤ 2560 → REL i w → (∀ w', REL (i + 1) w' → LJ p l e s m below meth c b q D dA 813 [.ref 1002, .ref 0, .ref 33, .int (nI i)] ([]) w') → LJ p l e s m below meth c b q D dA 450 [.ref 1002, .ref 0, .ref 33, .int (nI i)] ([]) w := by
  intro i hi hR kk
  obtain ⟨⟨fs0, h0⟩, -⟩ := hR.own
  obtain ⟨r, P, hc1, hc2⟩ := p_trade hR (xs (i + 1)) (xs (i + 2))
  refine l_aload_n (i := 1) (x := 0) C iL_law_450 rfl ?_
  refine l_arg (k := 1) C iL_law_451 iL_law_452 iL_law_453 iL_law_454 iL_law_455 (by decide) (by omega) ?_
  refine l_arg (k := 2) C iL_law_456 iL_law_457 iL_law_458 iL_law_459 iL_law_460 (by decide) (by omega) ?_
  refine l_callV (as := [.int (xs (i + 1)), .int (xs (i + 2))]) (rest := []) (a := 0) C okX5_trade lk_L_64 iL_law_461 (Nat.le_refl _) h0 rfl hc1 rfl (Nat.le_of_ble_eq_true rfl) (Nat.le_of_ble_eq_true rfl) ?_
  rintro v u ⟨rfl, hu⟩
  obtain ⟨⟨fs1, h33⟩, hc3⟩ := hc2 u hu
  refine l_aload_n (i := 2) (x := 33) C iL_law_464 rfl ?_
  refine l_arg (k := 1) C iL_law_465 iL_law_466 iL_law_467 iL_law_468 iL_law_469 (by decide) (by omega) ?_
  refine l_arg (k := 2) C iL_law_470 iL_law_471 iL_law_472 iL_law_473 iL_law_474 (by decide) (by omega) ?_
  refine l_callV (as := [.int (xs (i + 1)), .int (xs (i + 2))]) (rest := [.int r]) (a := 33) C okX6_trade lk_L_67 iL_law_475 (Nat.le_refl _) h33 rfl hc3 rfl (Nat.le_of_ble_eq_true rfl) (Nat.le_of_ble_eq_true rfl) ?_
  rintro v w' ⟨rfl, hR'⟩
  refine l_icmp_eq (tgt := 813) C iL_law_478 (by decide) (fun _ => kk w' hR') (fun hne => absurd rfl hne)
theorem lc_peace (C : LE p s m meth c b L xs q D dA) : ∀ i : Nat, i + 5 ≤ L ∧ i ≤ 2560 → REL i w → (∀ w', REL (i + 1) w' → LJ p l e s m below meth c b q D dA 813 [.ref 1002, .ref 0, .ref 33, .int (nI i)] ([]) w') → LJ p l e s m below meth c b q D dA 483 [.ref 1002, .ref 0, .ref 33, .int (nI i)] ([]) w := by
  intro i hi hR kk
  obtain ⟨⟨fs0, h0⟩, -⟩ := hR.own
  obtain ⟨r, P, hc1, hc2⟩ := p_peace hR (xs (i + 1)) (xs (i + 2))
  refine l_aload_n (i := 1) (x := 0) C iL_law_483 rfl ?_
  refine l_arg (k := 1) C iL_law_484 iL_law_485 iL_law_486 iL_law_487 iL_law_488 (by decide) (by omega) ?_
  refine l_arg (k := 2) C iL_law_489 iL_law_490 iL_law_491 iL_law_492 iL_law_493 (by decide) (by omega) ?_
  refine l_callV (as := [.int (xs (i + 1)), .int (xs (i + 2))]) (rest := []) (a := 0) C okX5_peace lk_L_68 iL_law_494 (Nat.le_refl _) h0 rfl hc1 rfl (Nat.le_of_ble_eq_true rfl) (Nat.le_of_ble_eq_true rfl) ?_
  rintro v u ⟨rfl, hu⟩
  obtain ⟨⟨fs1, h33⟩, hc3⟩ := hc2 u hu
  refine l_aload_n (i := 2) (x := 33) C iL_law_497 rfl ?_
  refine l_arg (k := 1) C iL_law_498 iL_law_499 iL_law_500 iL_law_501 iL_law_502 (by decide) (by omega) ?_
  refine l_arg (k := 2) C iL_law_503 iL_law_504 iL_law_505 iL_law_506 iL_law_507 (by decide) (by omega) ?_
  refine l_callV (as := [.int (xs (i + 1)), .int (xs (i + 2))]) (rest := [.int r]) (a := 33) C okX6_peace lk_L_71 iL_law_508 (Nat.le_refl _) h33 rfl hc3 rfl (Nat.le_of_ble_eq_true rfl) (Nat.le_of_ble_eq_true rfl) ?_
  rintro v w' ⟨rfl, hR'⟩
  refine l_icmp_eq (tgt := 813) C iL_law_511 (by decide) (fun _ => kk w' hR') (fun hne => absurd rfl hne)
theorem lc_guard (C : LE p s m meth c b L xs q D dA) : ∀ i : Nat, i + 5 ≤ L ∧ i ≤ 2560 → REL i w → (∀ w', REL (i + 1) w' → LJ p l e s m below meth c b q D dA 813 [.ref 1002, .ref 0, .ref 33, .int (nI i)] ([]) w') → LJ p l e s m below meth c b q D dA 516 [.ref 1002, .ref 0, .ref 33, .int (nI i)] ([]) w := by
  intro i hi hR kk
  obtain ⟨⟨fs0, h0⟩, -⟩ := hR.own
  obtain ⟨r, P, hc1, hc2⟩ := p_guard hR (xs (i + 1)) (xs (i + 2))
  refine l_aload_n (i := 1) (x := 0) C iL_law_516 rfl ?_
  refine l_arg (k := 1) C iL_law_517 iL_law_518 iL_law_519 iL_law_520 iL_law_521 (by decide) (by omega) ?_
  refine l_arg (k := 2) C iL_law_522 iL_law_523 iL_law_524 iL_law_525 iL_law_526 (by decide) (by omega) ?_
  refine l_callV (as := [.int (xs (i + 1)), .int (xs (i + 2))]) (rest := []) (a := 0) C okX5_guard lk_L_72 iL_law_527 (Nat.le_refl _) h0 rfl hc1 rfl (Nat.le_of_ble_eq_true rfl) (Nat.le_of_ble_eq_true rfl) ?_
  rintro v u ⟨rfl, hu⟩
  obtain ⟨⟨fs1, h33⟩, hc3⟩ := hc2 u hu
  refine l_aload_n (i := 2) (x := 33) C iL_law_530 rfl ?_
  refine l_arg (k := 1) C iL_law_531 iL_law_532 iL_law_533 iL_law_534 iL_law_535 (by decide) (by omega) ?_
  refine l_arg (k := 2) C iL_law_536 iL_law_537 iL_law_538 iL_law_539 iL_law_540 (by decide) (by omega) ?_
  refine l_callV (as := [.int (xs (i + 1)), .int (xs (i + 2))]) (rest := [.int r]) (a := 33) C okX6_guard lk_L_75 iL_law_541 (Nat.le_refl _) h33 rfl hc3 rfl (Nat.le_of_ble_eq_true rfl) (Nat.le_of_ble_eq_true rfl) ?_
  rintro v w' ⟨rfl, hR'⟩
  refine l_icmp_eq (tgt := 813) C iL_law_544 (by decide) (fun _ => kk w' hR') (fun hne => absurd rfl hne)
theorem lc_parts (C : LE p s m meth c b L xs q D dA) : ∀ i : Nat, i + 5 ≤ L ∧ i ≤ 2560 → REL i w → (∀ w', REL (i + 1) w' → LJ p l e s m below meth c b q D dA 813 [.ref 1002, .ref 0, .ref 33, .int (nI i)] ([]) w') → LJ p l e s m below meth c b q D dA 549 [.ref 1002, .ref 0, .ref 33, .int (nI i)] ([]) w := by
  intro i hi hR kk
  obtain ⟨⟨fs0, h0⟩, -⟩ := hR.own
  obtain ⟨r, P, hc1, hc2⟩ := p_parts hR (xs (i + 1)) (xs (i + 2))
  refine l_aload_n (i := 1) (x := 0) C iL_law_549 rfl ?_
  refine l_arg (k := 1) C iL_law_550 iL_law_551 iL_law_552 iL_law_553 iL_law_554 (by decide) (by omega) ?_
  refine l_arg (k := 2) C iL_law_555 iL_law_556 iL_law_557 iL_law_558 iL_law_559 (by decide) (by omega) ?_
  refine l_callV (as := [.int (xs (i + 1)), .int (xs (i + 2))]) (rest := []) (a := 0) C okX5_parts lk_L_76 iL_law_560 (Nat.le_refl _) h0 rfl hc1 rfl (Nat.le_of_ble_eq_true rfl) (Nat.le_of_ble_eq_true rfl) ?_
  rintro v u ⟨rfl, hu⟩
  obtain ⟨⟨fs1, h33⟩, hc3⟩ := hc2 u hu
  refine l_aload_n (i := 2) (x := 33) C iL_law_563 rfl ?_
  refine l_arg (k := 1) C iL_law_564 iL_law_565 iL_law_566 iL_law_567 iL_law_568 (by decide) (by omega) ?_
  refine l_arg (k := 2) C iL_law_569 iL_law_570 iL_law_571 iL_law_572 iL_law_573 (by decide) (by omega) ?_
  refine l_callV (as := [.int (xs (i + 1)), .int (xs (i + 2))]) (rest := [.int r]) (a := 33) C okX6_parts lk_L_79 iL_law_574 (Nat.le_refl _) h33 rfl hc3 rfl (Nat.le_of_ble_eq_true rfl) (Nat.le_of_ble_eq_true rfl) ?_
  rintro v w' ⟨rfl, hR'⟩
  refine l_icmp_eq (tgt := 813) C iL_law_577 (by decide) (fun _ => kk w' hR') (fun hne => absurd rfl hne)
theorem lc_chance (C : LE p s m meth c b L xs q D dA) : ∀ i : Nat, i + 5 ≤ L ∧ i ≤ 2560 → REL i w → (∀ w', REL (i + 1) w' → LJ p l e s m below meth c b q D dA 813 [.ref 1002, .ref 0, .ref 33, .int (nI i)] ([]) w') → LJ p l e s m below meth c b q D dA 582 [.ref 1002, .ref 0, .ref 33, .int (nI i)] ([]) w := by
  intro i hi hR kk
  obtain ⟨⟨fs0, h0⟩, -⟩ := hR.own
  obtain ⟨r, P, hc1, hc2⟩ := p_chance hR (xs (i + 1)) (xs (i + 2)) (xs (i + 3))
  refine l_aload_n (i := 1) (x := 0) C iL_law_582 rfl ?_
  refine l_arg (k := 1) C iL_law_583 iL_law_584 iL_law_585 iL_law_586 iL_law_587 (by decide) (by omega) ?_
  refine l_arg (k := 2) C iL_law_588 iL_law_589 iL_law_590 iL_law_591 iL_law_592 (by decide) (by omega) ?_
  refine l_arg (k := 3) C iL_law_593 iL_law_594 iL_law_595 iL_law_596 iL_law_597 (by decide) (by omega) ?_
  refine l_callV (as := [.int (xs (i + 1)), .int (xs (i + 2)), .int (xs (i + 3))]) (rest := []) (a := 0) C okX5_chance lk_L_80 iL_law_598 (Nat.le_refl _) h0 rfl hc1 rfl (Nat.le_of_ble_eq_true rfl) (Nat.le_of_ble_eq_true rfl) ?_
  rintro v u ⟨rfl, hu⟩
  obtain ⟨⟨fs1, h33⟩, hc3⟩ := hc2 u hu
  refine l_aload_n (i := 2) (x := 33) C iL_law_601 rfl ?_
  refine l_arg (k := 1) C iL_law_602 iL_law_603 iL_law_604 iL_law_605 iL_law_606 (by decide) (by omega) ?_
  refine l_arg (k := 2) C iL_law_607 iL_law_608 iL_law_609 iL_law_610 iL_law_611 (by decide) (by omega) ?_
  refine l_arg (k := 3) C iL_law_612 iL_law_613 iL_law_614 iL_law_615 iL_law_616 (by decide) (by omega) ?_
  refine l_callV (as := [.int (xs (i + 1)), .int (xs (i + 2)), .int (xs (i + 3))]) (rest := [.int r]) (a := 33) C okX6_chance lk_L_84 iL_law_617 (Nat.le_refl _) h33 rfl hc3 rfl (Nat.le_of_ble_eq_true rfl) (Nat.le_of_ble_eq_true rfl) ?_
  rintro v w' ⟨rfl, hR'⟩
  refine l_icmp_eq (tgt := 813) C iL_law_620 (by decide) (fun _ => kk w' hR') (fun hne => absurd rfl hne)
theorem lc_see (C : LE p s m meth c b L xs q D dA) : ∀ i : Nat, i + 5 ≤ L ∧ i ≤ 2560 → REL i w → (∀ w', REL (i + 1) w' → LJ p l e s m below meth c b q D dA 813 [.ref 1002, .ref 0, .ref 33, .int (nI i)] ([]) w') → LJ p l e s m below meth c b q D dA 625 [.ref 1002, .ref 0, .ref 33, .int (nI i)] ([]) w := by
  intro i hi hR kk
  have hz : ∃ z : Bool, z = decide (xs (i + 4) ≠ 0) := ⟨_, rfl⟩
  obtain ⟨z, hz⟩ := hz
  obtain ⟨⟨fs0, h0⟩, -⟩ := hR.own
  obtain ⟨r, P, hc1, hc2⟩ := p_see hR (xs (i + 1)) (xs (i + 2)) (xs (i + 3)) z
  refine l_aload_n (i := 1) (x := 0) C iL_law_625 rfl ?_
  refine l_arg (k := 1) C iL_law_626 iL_law_627 iL_law_628 iL_law_629 iL_law_630 (by decide) (by omega) ?_
  refine l_arg (k := 2) C iL_law_631 iL_law_632 iL_law_633 iL_law_634 iL_law_635 (by decide) (by omega) ?_
  refine l_arg (k := 3) C iL_law_636 iL_law_637 iL_law_638 iL_law_639 iL_law_640 (by decide) (by omega) ?_
  refine l_arg (k := 4) C iL_law_641 iL_law_642 iL_law_643 iL_law_644 iL_law_645 (by decide) (by omega) ?_
  have hB : LJ p l e s m below meth c b q D dA 654 [.ref 1002, .ref 0, .ref 33, .int (nI i)] (.int (bI z) :: .int (xs (i + 3)) :: .int (xs (i + 2)) :: .int (xs (i + 1)) :: .ref 0 :: []) w → LJ p l e s m below meth c b q D dA 646 [.ref 1002, .ref 0, .ref 33, .int (nI i)] (.int (xs (i + 4)) :: .int (xs (i + 3)) :: .int (xs (i + 2)) :: .int (xs (i + 1)) :: .ref 0 :: []) w := by
    intro hk
    refine l_if_eq (tgt := 653) C iL_law_646 (by decide) (fun hq => ?_) (fun hq => ?_)
    · refine l_iconst (v := 0) C iL_law_653 (by decide) ?_
      rw [hz, decide_eq_false (fun y => y hq)] at hk
      exact hk
    · refine l_iconst (v := nI 1) C iL_law_649 (by decide) ?_
      refine l_goto (tgt := 654) C iL_law_650 (by decide) ?_
      rw [hz, decide_eq_true hq] at hk
      exact hk
  refine hB ?_
  refine l_callV (as := [.int (xs (i + 1)), .int (xs (i + 2)), .int (xs (i + 3)), .int (bI z)]) (rest := []) (a := 0) C okX5_see lk_L_85 iL_law_654 (Nat.le_refl _) h0 rfl hc1 rfl (Nat.le_of_ble_eq_true rfl) (Nat.le_of_ble_eq_true rfl) ?_
  rintro v u ⟨rfl, hu⟩
  obtain ⟨⟨fs1, h33⟩, hc3⟩ := hc2 u hu
  refine l_aload_n (i := 2) (x := 33) C iL_law_657 rfl ?_
  refine l_arg (k := 1) C iL_law_658 iL_law_659 iL_law_660 iL_law_661 iL_law_662 (by decide) (by omega) ?_
  refine l_arg (k := 2) C iL_law_663 iL_law_664 iL_law_665 iL_law_666 iL_law_667 (by decide) (by omega) ?_
  refine l_arg (k := 3) C iL_law_668 iL_law_669 iL_law_670 iL_law_671 iL_law_672 (by decide) (by omega) ?_
  refine l_arg (k := 4) C iL_law_673 iL_law_674 iL_law_675 iL_law_676 iL_law_677 (by decide) (by omega) ?_
  have hB : LJ p l e s m below meth c b q D dA 686 [.ref 1002, .ref 0, .ref 33, .int (nI i)] (.int (bI z) :: .int (xs (i + 3)) :: .int (xs (i + 2)) :: .int (xs (i + 1)) :: .ref 33 :: .int r :: []) u → LJ p l e s m below meth c b q D dA 678 [.ref 1002, .ref 0, .ref 33, .int (nI i)] (.int (xs (i + 4)) :: .int (xs (i + 3)) :: .int (xs (i + 2)) :: .int (xs (i + 1)) :: .ref 33 :: .int r :: []) u := by
    intro hk
    refine l_if_eq (tgt := 685) C iL_law_678 (by decide) (fun hq => ?_) (fun hq => ?_)
    · refine l_iconst (v := 0) C iL_law_685 (by decide) ?_
      rw [hz, decide_eq_false (fun y => y hq)] at hk
      exact hk
    · refine l_iconst (v := nI 1) C iL_law_681 (by decide) ?_
      refine l_goto (tgt := 686) C iL_law_682 (by decide) ?_
      rw [hz, decide_eq_true hq] at hk
      exact hk
  refine hB ?_
  refine l_callV (as := [.int (xs (i + 1)), .int (xs (i + 2)), .int (xs (i + 3)), .int (bI z)]) (rest := [.int r]) (a := 33) C okX6_see lk_L_89 iL_law_686 (Nat.le_refl _) h33 rfl hc3 rfl (Nat.le_of_ble_eq_true rfl) (Nat.le_of_ble_eq_true rfl) ?_
  rintro v w' ⟨rfl, hR'⟩
  refine l_icmp_eq (tgt := 813) C iL_law_689 (by decide) (fun _ => kk w' hR') (fun hne => absurd rfl hne)
theorem lc_forget (C : LE p s m meth c b L xs q D dA) : ∀ i : Nat, i + 5 ≤ L ∧ i ≤ 2560 → REL i w → (∀ w', REL (i + 1) w' → LJ p l e s m below meth c b q D dA 813 [.ref 1002, .ref 0, .ref 33, .int (nI i)] ([]) w') → LJ p l e s m below meth c b q D dA 694 [.ref 1002, .ref 0, .ref 33, .int (nI i)] ([]) w := by
  intro i hi hR kk
  obtain ⟨⟨fs0, h0⟩, -⟩ := hR.own
  obtain ⟨r, P, hc1, hc2⟩ := p_forget hR 
  refine l_aload_n (i := 1) (x := 0) C iL_law_694 rfl ?_
  refine l_callV (as := []) (rest := []) (a := 0) C okX5_forget lk_L_90 iL_law_695 (Nat.le_refl _) h0 rfl hc1 rfl (Nat.le_of_ble_eq_true rfl) (Nat.le_of_ble_eq_true rfl) ?_
  rintro v u ⟨rfl, hu⟩
  obtain ⟨⟨fs1, h33⟩, hc3⟩ := hc2 u hu
  refine l_aload_n (i := 2) (x := 33) C iL_law_698 rfl ?_
  refine l_callV (as := []) (rest := [.int r]) (a := 33) C okX6_forget lk_L_93 iL_law_699 (Nat.le_refl _) h33 rfl hc3 rfl (Nat.le_of_ble_eq_true rfl) (Nat.le_of_ble_eq_true rfl) ?_
  rintro v w' ⟨rfl, hR'⟩
  refine l_icmp_eq (tgt := 813) C iL_law_702 (by decide) (fun _ => kk w' hR') (fun hne => absurd rfl hne)
theorem lc_walks (C : LE p s m meth c b L xs q D dA) : ∀ i : Nat, i + 5 ≤ L ∧ i ≤ 2560 → REL i w → (∀ w', REL (i + 1) w' → LJ p l e s m below meth c b q D dA 813 [.ref 1002, .ref 0, .ref 33, .int (nI i)] ([]) w') → LJ p l e s m below meth c b q D dA 707 [.ref 1002, .ref 0, .ref 33, .int (nI i)] ([]) w := by
  intro i hi hR kk
  obtain ⟨⟨fs0, h0⟩, -⟩ := hR.own
  obtain ⟨r, P, hc1, hc2⟩ := p_walks hR (xs (i + 1)) (xs (i + 2)) (xs (i + 3))
  refine l_aload_n (i := 1) (x := 0) C iL_law_707 rfl ?_
  refine l_arg (k := 1) C iL_law_708 iL_law_709 iL_law_710 iL_law_711 iL_law_712 (by decide) (by omega) ?_
  refine l_arg (k := 2) C iL_law_713 iL_law_714 iL_law_715 iL_law_716 iL_law_717 (by decide) (by omega) ?_
  refine l_arg (k := 3) C iL_law_718 iL_law_719 iL_law_720 iL_law_721 iL_law_722 (by decide) (by omega) ?_
  refine l_callV (as := [.int (xs (i + 1)), .int (xs (i + 2)), .int (xs (i + 3))]) (rest := []) (a := 0) C okX5_walks lk_L_94 iL_law_723 (Nat.le_refl _) h0 rfl hc1 rfl (Nat.le_of_ble_eq_true rfl) (Nat.le_of_ble_eq_true rfl) ?_
  rintro v u ⟨rfl, hu⟩
  obtain ⟨⟨fs1, h33⟩, hc3⟩ := hc2 u hu
  refine l_aload_n (i := 2) (x := 33) C iL_law_726 rfl ?_
  refine l_arg (k := 1) C iL_law_727 iL_law_728 iL_law_729 iL_law_730 iL_law_731 (by decide) (by omega) ?_
  refine l_arg (k := 2) C iL_law_732 iL_law_733 iL_law_734 iL_law_735 iL_law_736 (by decide) (by omega) ?_
  refine l_arg (k := 3) C iL_law_737 iL_law_738 iL_law_739 iL_law_740 iL_law_741 (by decide) (by omega) ?_
  refine l_callV (as := [.int (xs (i + 1)), .int (xs (i + 2)), .int (xs (i + 3))]) (rest := [.int r]) (a := 33) C okX6_walks lk_L_97 iL_law_742 (Nat.le_refl _) h33 rfl hc3 rfl (Nat.le_of_ble_eq_true rfl) (Nat.le_of_ble_eq_true rfl) ?_
  rintro v w' ⟨rfl, hR'⟩
  refine l_icmp_eq (tgt := 813) C iL_law_745 (by decide) (fun _ => kk w' hR') (fun hne => absurd rfl hne)
theorem lc_image (C : LE p s m meth c b L xs q D dA) : ∀ i : Nat, i + 5 ≤ L ∧ i ≤ 2560 → REL i w → (∀ w', REL (i + 1) w' → LJ p l e s m below meth c b q D dA 813 [.ref 1002, .ref 0, .ref 33, .int (nI i)] ([]) w') → LJ p l e s m below meth c b q D dA 750 [.ref 1002, .ref 0, .ref 33, .int (nI i)] ([]) w := by
  intro i hi hR kk
  obtain ⟨⟨fs0, h0⟩, -⟩ := hR.own
  obtain ⟨r, P, hc1, hc2⟩ := p_image hR 
  refine l_aload_n (i := 1) (x := 0) C iL_law_750 rfl ?_
  refine l_callV (as := []) (rest := []) (a := 0) C okX5_image lk_L_98 iL_law_751 (Nat.le_refl _) h0 rfl hc1 rfl (Nat.le_of_ble_eq_true rfl) (Nat.le_of_ble_eq_true rfl) ?_
  rintro v u ⟨rfl, hu⟩
  obtain ⟨⟨fs1, h33⟩, hc3⟩ := hc2 u hu
  refine l_aload_n (i := 2) (x := 33) C iL_law_754 rfl ?_
  refine l_callV (as := []) (rest := [.int r]) (a := 33) C okX6_image lk_L_101 iL_law_755 (Nat.le_refl _) h33 rfl hc3 rfl (Nat.le_of_ble_eq_true rfl) (Nat.le_of_ble_eq_true rfl) ?_
  rintro v w' ⟨rfl, hR'⟩
  refine l_icmp_eq (tgt := 813) C iL_law_758 (by decide) (fun _ => kk w' hR') (fun hne => absurd rfl hne)
theorem lc_restore (C : LE p s m meth c b L xs q D dA) : ∀ i : Nat, i + 5 ≤ L ∧ i ≤ 2560 → REL i w → (∀ w', REL (i + 1) w' → LJ p l e s m below meth c b q D dA 813 [.ref 1002, .ref 0, .ref 33, .int (nI i)] ([]) w') → LJ p l e s m below meth c b q D dA 763 [.ref 1002, .ref 0, .ref 33, .int (nI i)] ([]) w := by
  intro i hi hR kk
  obtain ⟨⟨fs0, h0⟩, -⟩ := hR.own
  obtain ⟨r, P, hc1, hc2⟩ := p_restore hR  (by omega)
  refine l_aload_n (i := 1) (x := 0) C iL_law_763 rfl ?_
  refine l_callV (as := []) (rest := []) (a := 0) C okX5_restore lk_L_102 iL_law_764 (Nat.le_refl _) h0 rfl hc1 rfl (Nat.le_of_ble_eq_true rfl) (Nat.le_of_ble_eq_true rfl) ?_
  rintro v u ⟨rfl, hu⟩
  obtain ⟨⟨fs1, h33⟩, hc3⟩ := hc2 u hu
  refine l_aload_n (i := 2) (x := 33) C iL_law_767 rfl ?_
  refine l_callV (as := []) (rest := [.int r]) (a := 33) C okX6_restore lk_L_105 iL_law_768 (Nat.le_refl _) h33 rfl hc3 rfl (Nat.le_of_ble_eq_true rfl) (Nat.le_of_ble_eq_true rfl) ?_
  rintro v w' ⟨rfl, hR'⟩
  refine l_icmp_eq (tgt := 813) C iL_law_771 (by decide) (fun _ => kk w' hR') (fun hne => absurd rfl hne)
theorem lc_count (C : LE p s m meth c b L xs q D dA) : ∀ i : Nat, i + 5 ≤ L ∧ i ≤ 2560 → REL i w → (∀ w', REL (i + 1) w' → LJ p l e s m below meth c b q D dA 813 [.ref 1002, .ref 0, .ref 33, .int (nI i)] ([]) w') → LJ p l e s m below meth c b q D dA 776 [.ref 1002, .ref 0, .ref 33, .int (nI i)] ([]) w := by
  intro i hi hR kk
  obtain ⟨⟨fs0, h0⟩, -⟩ := hR.own
  obtain ⟨r, P, hc1, hc2⟩ := p_count hR (xs (i + 1))
  refine l_aload_n (i := 1) (x := 0) C iL_law_776 rfl ?_
  refine l_arg (k := 1) C iL_law_777 iL_law_778 iL_law_779 iL_law_780 iL_law_781 (by decide) (by omega) ?_
  refine l_callV (as := [.int (xs (i + 1))]) (rest := []) (a := 0) C okX5_count lk_L_106 iL_law_782 (Nat.le_refl _) h0 rfl hc1 rfl (Nat.le_of_ble_eq_true rfl) (Nat.le_of_ble_eq_true rfl) ?_
  rintro v u ⟨rfl, hu⟩
  obtain ⟨⟨fs1, h33⟩, hc3⟩ := hc2 u hu
  refine l_aload_n (i := 2) (x := 33) C iL_law_785 rfl ?_
  refine l_arg (k := 1) C iL_law_786 iL_law_787 iL_law_788 iL_law_789 iL_law_790 (by decide) (by omega) ?_
  refine l_callV (as := [.int (xs (i + 1))]) (rest := [.int r]) (a := 33) C okX6_count lk_L_109 iL_law_791 (Nat.le_refl _) h33 rfl hc3 rfl (Nat.le_of_ble_eq_true rfl) (Nat.le_of_ble_eq_true rfl) ?_
  rintro v w' ⟨rfl, hR'⟩
  refine l_icmp_eq (tgt := 813) C iL_law_794 (by decide) (fun _ => kk w' hR') (fun hne => absurd rfl hne)
theorem lc_digest (C : LE p s m meth c b L xs q D dA) : ∀ i : Nat, i + 5 ≤ L ∧ i ≤ 2560 → REL i w → (∀ w', REL (i + 1) w' → LJ p l e s m below meth c b q D dA 813 [.ref 1002, .ref 0, .ref 33, .int (nI i)] ([]) w') → LJ p l e s m below meth c b q D dA 799 [.ref 1002, .ref 0, .ref 33, .int (nI i)] ([]) w := by
  intro i hi hR kk
  obtain ⟨⟨fs0, h0⟩, -⟩ := hR.own
  obtain ⟨r, P, hc1, hc2⟩ := p_digest hR 
  refine l_aload_n (i := 1) (x := 0) C iL_law_799 rfl ?_
  refine l_callV (as := []) (rest := []) (a := 0) C okX5_digest lk_L_110 iL_law_800 (Nat.le_refl _) h0 rfl hc1 rfl (Nat.le_of_ble_eq_true rfl) (Nat.le_of_ble_eq_true rfl) ?_
  rintro v u ⟨rfl, hu⟩
  obtain ⟨⟨fs1, h33⟩, hc3⟩ := hc2 u hu
  refine l_aload_n (i := 2) (x := 33) C iL_law_803 rfl ?_
  refine l_callV (as := []) (rest := [.long r]) (a := 33) C okX6_digest lk_L_114 iL_law_804 (Nat.le_refl _) h33 rfl hc3 rfl (Nat.le_of_ble_eq_true rfl) (Nat.le_of_ble_eq_true rfl) ?_
  rintro v w' ⟨rfl, hR'⟩
  refine l_lcmp0 C iL_law_807 ?_
  refine l_if_eq (tgt := 813) C iL_law_808 (by decide) (fun _ => kk w' hR') (fun hne => absurd rfl hne)
theorem law_loop (C : LE p s m meth c b L xs q D dA) : ∀ (n i : Nat) (w : mW), L < i + n → i ≤ 2600 → REL i w → LJ p l e s m below meth c b q D dA 18 [.ref 1002, .ref 0, .ref 33, .int (nI i)] ([]) w := by
  intro n
  have hL := C.2.2.2.2
  have hend : ∀ (i : Nat) (w : mW), i ≤ 2600 → L < i + 5 → LJ p l e s m below meth c b q D dA 18 [.ref 1002, .ref 0, .ref 33, .int (nI i)] ([]) w := by
    intro i w hi h
    refine l_iload_n (i := 3) (x := nI i) C iL_law_18 rfl ?_
    refine l_aload_n (i := 0) (x := 1002) C iL_law_19 rfl ?_
    refine l_slen C iL_law_20 ?_
    refine l_iconst (v := nI 5) C iL_law_21 (by decide) ?_
    refine l_isub C iL_law_22 ?_
    refine l_icmp_gt (tgt := 819) C iL_law_23 (by decide) (fun _ => ?_) (fun hq => absurd ((C.nI5 hi).mpr h) hq)
    refine l_iconst (v := 1) C iL_law_819 (by decide) ?_
    exact l_ret1 C iL_law_820
  induction n with
  | zero => intro i w h hi _; exact hend i w hi (by omega)
  | succ n ih =>
    intro i w h hi hR
    by_cases h5 : L < i + 5
    · exact hend i w hi h5
    · have kk : ∀ w', REL (i + 1) w' → LJ p l e s m below meth c b q D dA 813 [.ref 1002, .ref 0, .ref 33, .int (nI i)] ([]) w' := by
        intro w' hR'
        refine l_iinc (x := nI i) (v := nI 5) C iL_law_813 rfl (by decide) (by decide) rfl ?_
        rw [nI_add]
        refine l_goto (tgt := 18) C iL_law_816 (by decide) ?_
        exact ih (i + 5) w' (by omega) (by omega) ((((hR'.up).up).up).up)
      refine l_iload_n (i := 3) (x := nI i) C iL_law_18 rfl ?_
      refine l_aload_n (i := 0) (x := 1002) C iL_law_19 rfl ?_
      refine l_slen C iL_law_20 ?_
      refine l_iconst (v := nI 5) C iL_law_21 (by decide) ?_
      refine l_isub C iL_law_22 ?_
      refine l_icmp_gt (tgt := 819) C iL_law_23 (by decide) (fun hq => absurd ((C.nI5 hi).mp hq) h5) (fun _ => ?_)
      refine l_aload_n (i := 0) (x := 1002) C iL_law_26 rfl ?_
      refine l_iload_n (i := 3) (x := nI i) C iL_law_27 rfl ?_
      refine l_sld C iL_law_28 (by omega) ?_
      refine l_bipush (v := nI 31) C iL_law_29 (by decide) ?_
      refine l_iand C iL_law_31 ?_
      obtain ⟨j, hj, hje⟩ := pk_andE (xs i) (m := nI 31) 5 (by decide)
      rw [hje]
      have hj : j < 32 := hj
      have hi2 : i + 5 ≤ L ∧ i ≤ 2560 := ⟨by omega, by omega⟩
      have hto : (nI j).toInt = (j : Int) := nI_toInt (by omega)
      rcases (show j = 0 ∨ j = 1 ∨ j = 2 ∨ j = 3 ∨ j = 4 ∨ j = 5 ∨ j = 6 ∨ j = 7 ∨ j = 8 ∨ j = 9 ∨ j = 10 ∨ j = 11 ∨ j = 12 ∨ j = 13 ∨ j = 14 ∨ j = 15 ∨ j = 16 ∨ j = 17 ∨ j = 18 ∨ j = 19 ∨ j = 20 ∨ j = 21 ∨ j = 22 ∨ j = 23 ∨ 24 ≤ j by omega) with rfl | rfl | rfl | rfl | rfl | rfl | rfl | rfl | rfl | rfl | rfl | rfl | rfl | rfl | rfl | rfl | rfl | rfl | rfl | rfl | rfl | rfl | rfl | rfl | hj24
      · refine l_tswIn (off := 112) (tgt := 144) C iL_law_32 (by decide) (by decide) (by decide) (by decide) ?_
        exact lc_letter C i hi2 hR kk
      · refine l_tswIn (off := 135) (tgt := 167) C iL_law_32 (by decide) (by decide) (by decide) (by decide) ?_
        exact lc_blank C i hi2 hR kk
      · refine l_tswIn (off := 148) (tgt := 180) C iL_law_32 (by decide) (by decide) (by decide) (by decide) ?_
        exact lc_fault C i hi2 hR kk
      · refine l_tswIn (off := 161) (tgt := 193) C iL_law_32 (by decide) (by decide) (by decide) (by decide) ?_
        exact lc_board C i hi2 hR kk
      · refine l_tswIn (off := 174) (tgt := 206) C iL_law_32 (by decide) (by decide) (by decide) (by decide) ?_
        exact lc_leaper C i hi2 hR kk
      · refine l_tswIn (off := 207) (tgt := 239) C iL_law_32 (by decide) (by decide) (by decide) (by decide) ?_
        exact lc_as C i hi2 hR kk
      · refine l_tswIn (off := 240) (tgt := 272) C iL_law_32 (by decide) (by decide) (by decide) (by decide) ?_
        exact lc_cell C i hi2 hR kk
      · refine l_tswIn (off := 273) (tgt := 305) C iL_law_32 (by decide) (by decide) (by decide) (by decide) ?_
        exact lc_leap C i hi2 hR kk
      · refine l_tswIn (off := 306) (tgt := 338) C iL_law_32 (by decide) (by decide) (by decide) (by decide) ?_
        exact lc_dig C i hi2 hR kk
      · refine l_tswIn (off := 329) (tgt := 361) C iL_law_32 (by decide) (by decide) (by decide) (by decide) ?_
        exact lc_fill C i hi2 hR kk
      · refine l_tswIn (off := 352) (tgt := 384) C iL_law_32 (by decide) (by decide) (by decide) (by decide) ?_
        exact lc_be C i hi2 hR kk
      · refine l_tswIn (off := 385) (tgt := 417) C iL_law_32 (by decide) (by decide) (by decide) (by decide) ?_
        exact lc_hops C i hi2 hR kk
      · refine l_tswIn (off := 418) (tgt := 450) C iL_law_32 (by decide) (by decide) (by decide) (by decide) ?_
        exact lc_trade C i hi2 hR kk
      · refine l_tswIn (off := 451) (tgt := 483) C iL_law_32 (by decide) (by decide) (by decide) (by decide) ?_
        exact lc_peace C i hi2 hR kk
      · refine l_tswIn (off := 484) (tgt := 516) C iL_law_32 (by decide) (by decide) (by decide) (by decide) ?_
        exact lc_guard C i hi2 hR kk
      · refine l_tswIn (off := 517) (tgt := 549) C iL_law_32 (by decide) (by decide) (by decide) (by decide) ?_
        exact lc_parts C i hi2 hR kk
      · refine l_tswIn (off := 550) (tgt := 582) C iL_law_32 (by decide) (by decide) (by decide) (by decide) ?_
        exact lc_chance C i hi2 hR kk
      · refine l_tswIn (off := 593) (tgt := 625) C iL_law_32 (by decide) (by decide) (by decide) (by decide) ?_
        exact lc_see C i hi2 hR kk
      · refine l_tswIn (off := 662) (tgt := 694) C iL_law_32 (by decide) (by decide) (by decide) (by decide) ?_
        exact lc_forget C i hi2 hR kk
      · refine l_tswIn (off := 675) (tgt := 707) C iL_law_32 (by decide) (by decide) (by decide) (by decide) ?_
        exact lc_walks C i hi2 hR kk
      · refine l_tswIn (off := 718) (tgt := 750) C iL_law_32 (by decide) (by decide) (by decide) (by decide) ?_
        exact lc_image C i hi2 hR kk
      · refine l_tswIn (off := 731) (tgt := 763) C iL_law_32 (by decide) (by decide) (by decide) (by decide) ?_
        exact lc_restore C i hi2 hR kk
      · refine l_tswIn (off := 744) (tgt := 776) C iL_law_32 (by decide) (by decide) (by decide) (by decide) ?_
        exact lc_count C i hi2 hR kk
      · refine l_tswIn (off := 767) (tgt := 799) C iL_law_32 (by decide) (by decide) (by decide) (by decide) ?_
        exact lc_digest C i hi2 hR kk
      · refine l_tswOut (tgt := 813) C iL_law_32 (Or.inr (by rw [hto]; omega)) (by decide) ?_
        exact kk w hR.up
end LCases
