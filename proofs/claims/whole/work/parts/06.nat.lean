/-! ===== numbers: ints that are written nI n; N rules ===== -/
theorem wset_same {w : mW} {a : Nat} {e0 e : mE} (h : w[a]? = some e0) : (w.set a e)[a]? = some e := by
  rw [List.getElem?_set]
  simp [(List.getElem?_eq_some_iff.mp h).1]
theorem wset_ne {w : mW} {a b : Nat} {x e : mE} (hne : a ≠ b) (h : w[b]? = some e) : (w.set a x)[b]? = some e := by
  rw [List.getElem?_set, if_neg hne]
  exact h
theorem wsome {w : mW} {a : Nat} {e : mE} (h : w[a]? = some e) : a < w.length := (List.getElem?_eq_some_iff.mp h).1
theorem wset_lt {w : mW} {a : Nat} {e : mE} (h : a < w.length) : (w.set a e)[a]? = some e := by
  rw [List.getElem?_set]
  simp [h]
theorem wset_eq {w : mW} {a : Nat} {e : mE} (h : w[a]? = some e) : w.set a e = w := by
  apply List.ext_getElem?
  intro i
  rw [List.getElem?_set]
  by_cases hi : a = i
  · subst hi
    rw [if_pos rfl, if_pos (List.getElem?_eq_some_iff.mp h).1, h]
  · rw [if_neg hi]
theorem wset2 {w : mW} {a : Nat} {x y : mE} : (w.set a x).set a y = w.set a y := by simp
theorem nI_and (a b : Nat) : nI a &&& nI b = nI (a &&& b) := by
  apply Int32.toBitVec_inj.mp
  show BitVec.ofNat 32 a &&& BitVec.ofNat 32 b = BitVec.ofNat 32 (a &&& b)
  exact BitVec.ofNat_and.symm
theorem nI_or (a b : Nat) : nI a ||| nI b = nI (a ||| b) := by
  apply Int32.toBitVec_inj.mp
  show BitVec.ofNat 32 a ||| BitVec.ofNat 32 b = BitVec.ofNat 32 (a ||| b)
  exact BitVec.ofNat_or.symm
/-- s without m -/
def ad (s m : Nat) : Nat := s ^^^ (s &&& m)
theorem ad_tb (s m i : Nat) : (ad s m).testBit i = (s.testBit i && !m.testBit i) := by
  unfold ad
  rw [Nat.testBit_xor, Nat.testBit_and]
  cases s.testBit i <;> cases m.testBit i <;> rfl
theorem nI_andn (s m : Nat) : nI s &&& (nI m ^^^ (-1)) = nI (ad s m) := by
  apply Int32.toBitVec_inj.mp
  show BitVec.ofNat 32 s &&& (BitVec.ofNat 32 m ^^^ (-1 : Int32).toBitVec) = BitVec.ofNat 32 (ad s m)
  apply BitVec.eq_of_getLsbD_eq
  intro i hi
  have h1 : (-1 : Int32).toBitVec = BitVec.allOnes 32 := by decide +kernel
  rw [h1]
  simp only [BitVec.getLsbD_and, BitVec.getLsbD_xor, BitVec.getLsbD_allOnes, BitVec.getLsbD_ofNat, ad_tb]
  simp [hi]
theorem nI_sh31 : ∀ s : Nat, s < 32 → nI s &&& 31 = nI s := by decide +kernel
theorem nI_smod : ∀ s : Nat, s < 32 → ((nI s).toBitVec.smod 32).toNat = s := by decide +kernel
theorem nI_shl1 {s : Nat} (h : s < 32) : nI 1 <<< (nI s &&& 31) = nI (2 ^ s) := by
  rw [nI_sh31 s h, pk_shlN (nI s) s (nI_smod s h) (by rw [Nat.one_mul]; exact Nat.pow_lt_pow_right (by decide) h), Nat.one_mul]
theorem nI_shr {a s : Nat} (ha : a < 2 ^ 31) (h : s < 32) : nI a >>> (nI s &&& 31) = nI (a >>> s) := by
  rw [nI_sh31 s h, pk_shrN ha (nI s) s (nI_smod s h), Nat.shiftRight_eq_div_pow]
def bI (b : Bool) : Int32 := nI b.toNat
theorem bI_t : bI true = nI 1 := rfl
theorem bI_f : bI false = nI 0 := rfl
theorem nar_bI (b : Bool) : narrow .boolean (.int (bI b)) = .int (bI b) := by cases b <;> rfl
theorem nar_b0 : narrow .boolean (.int (nI 0)) = .int (nI 0) := rfl
theorem nar_b1 : narrow .boolean (.int (nI 1)) = .int (nI 1) := rfl
theorem tb_nat (a s : Nat) : (a >>> s) &&& 1 = (a.testBit s).toNat := by
  rw [Nat.and_comm]
  unfold Nat.testBit
  rw [Nat.one_and_eq_mod_two]
  rcases Nat.mod_two_eq_zero_or_one (a >>> s) with h | h <;> rw [h] <;> rfl
def oN (o : Option Nat) : Int32 := match o with
  | none => -1
  | some i => nI i
section JN
variable {d : Nat} {mi : MI} {pc pc' : Nat} {ls st : List Value} {w : mW} {Q Q' : Option Value → mW → Prop}
theorem j_start {as ls : List Value} (h : ent mi.2.2.1 as = ls) (k : J d mi 0 ls [] w Q) : JX d mi as w Q := by
  subst h; exact k
theorem j_top {x y : Int32} (he : x = y) (k : J d mi pc ls (.int y :: st) w Q) : J d mi pc ls (.int x :: st) w Q := by
  subst he; exact k
theorem j_loc {ls' : List Value} (he : ls = ls') (k : J d mi pc ls' st w Q) : J d mi pc ls st w Q := by
  subst he; exact k
theorem j_wld {w' : mW} (he : w = w') (k : J d mi pc ls st w' Q) : J d mi pc ls st w Q := by
  subst he; exact k
theorem j_iaddN {a b : Nat} (h : decode mi.2.1 pc = .ok (.iadd, 1) ∧ pc + 1 = pc') (k : J d mi pc' ls (.int (nI (a + b)) :: st) w Q) : J d mi pc ls (.int (nI b) :: .int (nI a) :: st) w Q := j_iadd h (by rw [nI_add]; exact k)
theorem j_isubN {a b : Nat} (h : decode mi.2.1 pc = .ok (.isub, 1) ∧ pc + 1 = pc') (hb : b ≤ a) (k : J d mi pc' ls (.int (nI (a - b)) :: st) w Q) : J d mi pc ls (.int (nI b) :: .int (nI a) :: st) w Q := j_isub h (by rw [pk_sub hb]; exact k)
theorem j_imulN {a b : Nat} (h : decode mi.2.1 pc = .ok (.imul, 1) ∧ pc + 1 = pc') (k : J d mi pc' ls (.int (nI (a * b)) :: st) w Q) : J d mi pc ls (.int (nI b) :: .int (nI a) :: st) w Q := j_imul h (by rw [pk_mul]; exact k)
theorem j_idivN {a b : Nat} (h : decode mi.2.1 pc = .ok (.idiv, 1) ∧ pc + 1 = pc') (ha : a < 2 ^ 31) (h0 : 0 < b) (hb : b < 2 ^ 31) (k : J d mi pc' ls (.int (nI (a / b)) :: st) w Q) : J d mi pc ls (.int (nI b) :: .int (nI a) :: st) w Q := j_idiv h (nI_ne0 h0 hb) (by rw [pk_div ha h0 hb]; exact k)
theorem j_iremN {a b : Nat} (h : decode mi.2.1 pc = .ok (.irem, 1) ∧ pc + 1 = pc') (ha : a < 2 ^ 31) (h0 : 0 < b) (hb : b < 2 ^ 31) (k : J d mi pc' ls (.int (nI (a % b)) :: st) w Q) : J d mi pc ls (.int (nI b) :: .int (nI a) :: st) w Q := j_irem h (nI_ne0 h0 hb) (by rw [pk_rem ha h0 hb]; exact k)
theorem j_iandN {a b : Nat} (h : decode mi.2.1 pc = .ok (.iand, 1) ∧ pc + 1 = pc') (k : J d mi pc' ls (.int (nI (a &&& b)) :: st) w Q) : J d mi pc ls (.int (nI b) :: .int (nI a) :: st) w Q := j_iand h (by rw [nI_and]; exact k)
theorem j_iandnN {a b : Nat} (h : decode mi.2.1 pc = .ok (.iand, 1) ∧ pc + 1 = pc') (k : J d mi pc' ls (.int (nI (ad a b)) :: st) w Q) : J d mi pc ls (.int (nI b ^^^ (-1)) :: .int (nI a) :: st) w Q := j_iand h (by rw [nI_andn]; exact k)
theorem j_iandBit {a s : Nat} (h : decode mi.2.1 pc = .ok (.iand, 1) ∧ pc + 1 = pc') (k : J d mi pc' ls (.int (bI (a.testBit s)) :: st) w Q) : J d mi pc ls (.int (nI 1) :: .int (nI (a >>> s)) :: st) w Q := j_iand h (by rw [nI_and, tb_nat]; exact k)
theorem j_iorN {a b : Nat} (h : decode mi.2.1 pc = .ok (.ior, 1) ∧ pc + 1 = pc') (k : J d mi pc' ls (.int (nI (a ||| b)) :: st) w Q) : J d mi pc ls (.int (nI b) :: .int (nI a) :: st) w Q := j_ior h (by rw [nI_or]; exact k)
theorem j_ishlN {s : Nat} (h : decode mi.2.1 pc = .ok (.ishl, 1) ∧ pc + 1 = pc') (hs : s < 32) (k : J d mi pc' ls (.int (nI (2 ^ s)) :: st) w Q) : J d mi pc ls (.int (nI s) :: .int (nI 1) :: st) w Q := j_ishl h (by rw [nI_shl1 hs]; exact k)
theorem j_ishrN {a s : Nat} (h : decode mi.2.1 pc = .ok (.ishr, 1) ∧ pc + 1 = pc') (ha : a < 2 ^ 31) (hs : s < 32) (k : J d mi pc' ls (.int (nI (a >>> s)) :: st) w Q) : J d mi pc ls (.int (nI s) :: .int (nI a) :: st) w Q := j_ishr h (by rw [nI_shr ha hs]; exact k)
theorem j_iincN {i : Nat} {x : Nat} (h : decode mi.2.1 pc = .ok (.iinc i 1, 3) ∧ pc + 3 = pc') (hv : ls[i]? = some (.int (nI x))) (hn : i < mi.2.2.1) (ho : okAt ls i = true) (k : J d mi pc' (ls.set i (.int (nI (x + 1)))) st w Q) : J d mi pc ls st w Q := j_iinc (v := nI 1) h hv rfl hn ho (by rw [nI_add]; exact k)
theorem j_ialdN {a n : Nat} {f : Nat → Nat} {i : Nat} (h : decode mi.2.1 pc = .ok (.iaload, 1) ∧ pc + 1 = pc') (hc : w[a]? = some (iA n (fun j => nI (f j)))) (hi : i < n ∧ n < 2 ^ 31) (k : J d mi pc' ls (.int (nI (f i)) :: st) w Q) : J d mi pc ls (.int (nI i) :: .ref a :: st) w Q :=
  j_iald h hc (vp_in_nI hi.1 hi.2) (by simp only [nI_clamp (Nat.lt_trans hi.1 hi.2)]; exact k)
theorem j_ialdR {a n : Nat} {f : Nat → Int32} {i : Nat} (h : decode mi.2.1 pc = .ok (.iaload, 1) ∧ pc + 1 = pc') (hc : w[a]? = some (iA n f)) (hi : i < n ∧ n < 2 ^ 31) (k : J d mi pc' ls (.int (f i) :: st) w Q) : J d mi pc ls (.int (nI i) :: .ref a :: st) w Q :=
  j_iald h hc (vp_in_nI hi.1 hi.2) (by simp only [nI_clamp (Nat.lt_trans hi.1 hi.2)]; exact k)
theorem j_baldN {a n : Nat} {f : Nat → Nat} {i : Nat} (h : decode mi.2.1 pc = .ok (.baload, 1) ∧ pc + 1 = pc') (hc : w[a]? = some (bA n (fun j => nI (f j)))) (hi : i < n ∧ n < 2 ^ 31) (k : J d mi pc' ls (.int (nI (f i)) :: st) w Q) : J d mi pc ls (.int (nI i) :: .ref a :: st) w Q :=
  j_bald h hc (vp_in_nI hi.1 hi.2) (by simp only [nI_clamp (Nat.lt_trans hi.1 hi.2)]; exact k)
theorem j_aaldN {a n b : Nat} {f : Nat → Option Nat} {i : Nat} (h : decode mi.2.1 pc = .ok (.aaload, 1) ∧ pc + 1 = pc') (hc : w[a]? = some (rA n f)) (hi : i < n ∧ n < 2 ^ 31) (hb : f i = some b) (k : J d mi pc' ls (.ref b :: st) w Q) : J d mi pc ls (.int (nI i) :: .ref a :: st) w Q :=
  j_aald h hc (vp_in_nI hi.1 hi.2) (by rw [nI_clamp (Nat.lt_trans hi.1 hi.2)]; exact hb) k
/-- a row of numbers, one of them anew -/
def un (f : Nat → Nat) (k x : Nat) : Nat → Nat := fun j => if j = k then x else f j
theorem un_same (f : Nat → Nat) (k x : Nat) : un f k x k = x := if_pos rfl
theorem un_ne {f : Nat → Nat} {k x j : Nat} (h : j ≠ k) : un f k x j = f j := if_neg h
theorem upd_un (f : Nat → Nat) (k x : Nat) : upd (fun j => nI (f j)) k (nI x) = fun j => nI (un f k x j) := by
  funext j
  unfold upd un
  by_cases h : j = k
  · rw [if_pos h, if_pos h]
  · rw [if_neg h, if_neg h]
theorem j_iastN {a n : Nat} {f : Nat → Nat} {i x : Nat} (h : decode mi.2.1 pc = .ok (.iastore, 1) ∧ pc + 1 = pc') (hc : w[a]? = some (iA n (fun j => nI (f j)))) (hi : i < n ∧ n < 2 ^ 31) (k : J d mi pc' ls st (w.set a (iA n (fun j => nI (un f i x j)))) Q) : J d mi pc ls (.int (nI x) :: .int (nI i) :: .ref a :: st) w Q :=
  j_iast h hc (vp_in_nI hi.1 hi.2) (by rw [nI_clamp (Nat.lt_trans hi.1 hi.2), upd_un]; exact k)
theorem j_iastR {a n : Nat} {f : Nat → Int32} {i : Nat} {x : Int32} (h : decode mi.2.1 pc = .ok (.iastore, 1) ∧ pc + 1 = pc') (hc : w[a]? = some (iA n f)) (hi : i < n ∧ n < 2 ^ 31) (k : J d mi pc' ls st (w.set a (iA n (upd f i x))) Q) : J d mi pc ls (.int x :: .int (nI i) :: .ref a :: st) w Q :=
  j_iast h hc (vp_in_nI hi.1 hi.2) (by rw [nI_clamp (Nat.lt_trans hi.1 hi.2)]; exact k)
theorem j_icmp_eqN {a b : Nat} {off : Int} {tgt : Nat} (h : decode mi.2.1 pc = .ok (.if_icmp .eq off, 3) ∧ pc + 3 = pc') (ht : (pc : Int) + off = (tgt : Int)) (ha : a < 2 ^ 31) (hb : b < 2 ^ 31) (kt : a = b → J d mi tgt ls st w Q) (kf : a ≠ b → J d mi pc' ls st w Q) : J d mi pc ls (.int (nI b) :: .int (nI a) :: st) w Q := j_icmp_eq h ht (fun h2 => kt ((nI_eq ha hb).mp h2)) (fun h2 => kf fun e => h2 ((nI_eq ha hb).mpr e))
theorem j_icmp_neN {a b : Nat} {off : Int} {tgt : Nat} (h : decode mi.2.1 pc = .ok (.if_icmp .ne off, 3) ∧ pc + 3 = pc') (ht : (pc : Int) + off = (tgt : Int)) (ha : a < 2 ^ 31) (hb : b < 2 ^ 31) (kt : a ≠ b → J d mi tgt ls st w Q) (kf : a = b → J d mi pc' ls st w Q) : J d mi pc ls (.int (nI b) :: .int (nI a) :: st) w Q := j_icmp_ne h ht (fun h2 => kt fun e => h2 ((nI_eq ha hb).mpr e)) (fun h2 => kf ((nI_eq ha hb).mp h2))
theorem j_icmp_ltN {a b : Nat} {off : Int} {tgt : Nat} (h : decode mi.2.1 pc = .ok (.if_icmp .lt off, 3) ∧ pc + 3 = pc') (ht : (pc : Int) + off = (tgt : Int)) (ha : a < 2 ^ 31) (hb : b < 2 ^ 31) (kt : a < b → J d mi tgt ls st w Q) (kf : b ≤ a → J d mi pc' ls st w Q) : J d mi pc ls (.int (nI b) :: .int (nI a) :: st) w Q := j_icmp_lt h ht (fun h2 => kt ((nI_ltI ha hb).mp h2)) (fun h2 => kf (Nat.not_lt.mp fun e => h2 ((nI_ltI ha hb).mpr e)))
theorem j_icmp_geN {a b : Nat} {off : Int} {tgt : Nat} (h : decode mi.2.1 pc = .ok (.if_icmp .ge off, 3) ∧ pc + 3 = pc') (ht : (pc : Int) + off = (tgt : Int)) (ha : a < 2 ^ 31) (hb : b < 2 ^ 31) (kt : b ≤ a → J d mi tgt ls st w Q) (kf : a < b → J d mi pc' ls st w Q) : J d mi pc ls (.int (nI b) :: .int (nI a) :: st) w Q := j_icmp_ge h ht (fun h2 => kt ((nI_leI hb ha).mp h2)) (fun h2 => kf (Nat.not_le.mp fun e => h2 ((nI_leI hb ha).mpr e)))
theorem j_icmp_gtN {a b : Nat} {off : Int} {tgt : Nat} (h : decode mi.2.1 pc = .ok (.if_icmp .gt off, 3) ∧ pc + 3 = pc') (ht : (pc : Int) + off = (tgt : Int)) (ha : a < 2 ^ 31) (hb : b < 2 ^ 31) (kt : b < a → J d mi tgt ls st w Q) (kf : a ≤ b → J d mi pc' ls st w Q) : J d mi pc ls (.int (nI b) :: .int (nI a) :: st) w Q := j_icmp_gt h ht (fun h2 => kt ((nI_ltI hb ha).mp h2)) (fun h2 => kf (Nat.not_lt.mp fun e => h2 ((nI_ltI hb ha).mpr e)))
theorem j_icmp_leN {a b : Nat} {off : Int} {tgt : Nat} (h : decode mi.2.1 pc = .ok (.if_icmp .le off, 3) ∧ pc + 3 = pc') (ht : (pc : Int) + off = (tgt : Int)) (ha : a < 2 ^ 31) (hb : b < 2 ^ 31) (kt : a ≤ b → J d mi tgt ls st w Q) (kf : b < a → J d mi pc' ls st w Q) : J d mi pc ls (.int (nI b) :: .int (nI a) :: st) w Q := j_icmp_le h ht (fun h2 => kt ((nI_leI ha hb).mp h2)) (fun h2 => kf (Nat.not_le.mp fun e => h2 ((nI_leI ha hb).mpr e)))
theorem j_if_eqN {a : Nat} {off : Int} {tgt : Nat} (h : decode mi.2.1 pc = .ok (.ifCond .eq off, 3) ∧ pc + 3 = pc') (ht : (pc : Int) + off = (tgt : Int)) (ha : a < 2 ^ 31) (kt : a = 0 → J d mi tgt ls st w Q) (kf : a ≠ 0 → J d mi pc' ls st w Q) : J d mi pc ls (.int (nI a) :: st) w Q := j_if_eq h ht (fun h2 => kt (Nat.eq_zero_of_not_pos fun e => nI_ne0 e ha h2)) (fun h2 => kf fun e => h2 (by rw [e]; rfl))
theorem j_if_neN {a : Nat} {off : Int} {tgt : Nat} (h : decode mi.2.1 pc = .ok (.ifCond .ne off, 3) ∧ pc + 3 = pc') (ht : (pc : Int) + off = (tgt : Int)) (ha : a < 2 ^ 31) (kt : a ≠ 0 → J d mi tgt ls st w Q) (kf : a = 0 → J d mi pc' ls st w Q) : J d mi pc ls (.int (nI a) :: st) w Q := j_if_ne h ht (fun h2 => kt fun e => h2 (by rw [e]; rfl)) (fun h2 => kf (Nat.eq_zero_of_not_pos fun e => nI_ne0 e ha h2))
theorem j_if_ltN {a : Nat} {off : Int} {tgt : Nat} (h : decode mi.2.1 pc = .ok (.ifCond .lt off, 3) ∧ pc + 3 = pc') (ht : (pc : Int) + off = (tgt : Int)) (ha : a < 2 ^ 31) (kt : False → J d mi tgt ls st w Q) (kf : True → J d mi pc' ls st w Q) : J d mi pc ls (.int (nI a) :: st) w Q := j_if_lt h ht (fun h2 => kt (nI_pos ha h2)) (fun _ => kf trivial)
theorem j_if_geN {a : Nat} {off : Int} {tgt : Nat} (h : decode mi.2.1 pc = .ok (.ifCond .ge off, 3) ∧ pc + 3 = pc') (ht : (pc : Int) + off = (tgt : Int)) (ha : a < 2 ^ 31) (kt : True → J d mi tgt ls st w Q) (kf : False → J d mi pc' ls st w Q) : J d mi pc ls (.int (nI a) :: st) w Q := j_if_ge h ht (fun _ => kt trivial) (fun h2 => kf (h2 (nI_pos' ha)))
theorem j_if_gtN {a : Nat} {off : Int} {tgt : Nat} (h : decode mi.2.1 pc = .ok (.ifCond .gt off, 3) ∧ pc + 3 = pc') (ht : (pc : Int) + off = (tgt : Int)) (ha : a < 2 ^ 31) (kt : 0 < a → J d mi tgt ls st w Q) (kf : a = 0 → J d mi pc' ls st w Q) : J d mi pc ls (.int (nI a) :: st) w Q := j_if_gt h ht (fun h2 => kt (Nat.pos_of_ne_zero fun e => by rw [e] at h2; exact absurd h2 (by decide))) (fun h2 => kf (Nat.eq_zero_of_not_pos fun e => h2 (by rw [← nI_0]; exact nI_lt e ha)))
theorem j_if_leN {a : Nat} {off : Int} {tgt : Nat} (h : decode mi.2.1 pc = .ok (.ifCond .le off, 3) ∧ pc + 3 = pc') (ht : (pc : Int) + off = (tgt : Int)) (ha : a < 2 ^ 31) (kt : a = 0 → J d mi tgt ls st w Q) (kf : 0 < a → J d mi pc' ls st w Q) : J d mi pc ls (.int (nI a) :: st) w Q := j_if_le h ht (fun h2 => kt (Nat.eq_zero_of_not_pos fun e => nI_nle e ha h2)) (fun h2 => kf (Nat.pos_of_ne_zero fun e => h2 (by rw [e]; decide)))
theorem bI_0 {b : Bool} : bI b = 0 ↔ b = false := by cases b <;> decide
theorem bI_1 {b : Bool} : bI b = nI 1 ↔ b = true := by cases b <;> decide
theorem j_if_eqB {b : Bool} {off : Int} {tgt : Nat} (h : decode mi.2.1 pc = .ok (.ifCond .eq off, 3) ∧ pc + 3 = pc') (ht : (pc : Int) + off = (tgt : Int)) (kt : b = false → J d mi tgt ls st w Q) (kf : b = true → J d mi pc' ls st w Q) : J d mi pc ls (.int (bI b) :: st) w Q := j_if_eq h ht (fun h2 => kt (bI_0.mp h2)) (fun h2 => kf (by cases b with | false => exact absurd (bI_0.mpr rfl) h2 | true => rfl))
theorem j_if_neB {b : Bool} {off : Int} {tgt : Nat} (h : decode mi.2.1 pc = .ok (.ifCond .ne off, 3) ∧ pc + 3 = pc') (ht : (pc : Int) + off = (tgt : Int)) (kt : b = true → J d mi tgt ls st w Q) (kf : b = false → J d mi pc' ls st w Q) : J d mi pc ls (.int (bI b) :: st) w Q := j_if_ne h ht (fun h2 => kt (by cases b with | false => exact absurd (bI_0.mpr rfl) h2 | true => rfl)) (fun h2 => kf (bI_0.mp h2))
theorem j_icmp_neT {b : Bool} {off : Int} {tgt : Nat} (h : decode mi.2.1 pc = .ok (.if_icmp .ne off, 3) ∧ pc + 3 = pc') (ht : (pc : Int) + off = (tgt : Int)) (kt : b = false → J d mi tgt ls st w Q) (kf : b = true → J d mi pc' ls st w Q) : J d mi pc ls (.int (nI 1) :: .int (bI b) :: st) w Q := j_icmp_ne h ht (fun h2 => kt (by cases b with | false => rfl | true => exact absurd rfl h2)) (fun h2 => kf (bI_1.mp h2))
theorem j_mmaxN {idx a b : Nat} (hlink : Cond.methodLink mi.1.cls idx Lib.Math.max.name ∈ UW) (h : decode mi.2.1 pc = .ok (.invokestatic idx, 3) ∧ pc + 3 = pc') (hd : 1 ≤ d) (hr : (st.map fun v => v.category).sum ≤ 8) (ha : a < 2 ^ 31) (hb : b < 2 ^ 31) (k : J d mi pc' ls (.int (nI (max a b)) :: st) w Q) : J d mi pc ls (.int (nI b) :: .int (nI a) :: st) w Q := j_mmax hlink h hd hr (by
  have e : (if nI a < nI b then nI b else nI a) = nI (max a b) := by
    by_cases hl : a < b
    · rw [if_pos ((nI_ltI ha hb).mpr hl), Nat.max_eq_right (Nat.le_of_lt hl)]
    · rw [if_neg (fun e => hl ((nI_ltI ha hb).mp e)), Nat.max_eq_left (Nat.not_lt.mp hl)]
  rw [e]; exact k)
theorem j_mminN {idx a b : Nat} (hlink : Cond.methodLink mi.1.cls idx Lib.Math.min.name ∈ UW) (h : decode mi.2.1 pc = .ok (.invokestatic idx, 3) ∧ pc + 3 = pc') (hd : 1 ≤ d) (hr : (st.map fun v => v.category).sum ≤ 8) (ha : a < 2 ^ 31) (hb : b < 2 ^ 31) (k : J d mi pc' ls (.int (nI (min a b)) :: st) w Q) : J d mi pc ls (.int (nI b) :: .int (nI a) :: st) w Q := j_mmin hlink h hd hr (by
  have e : (if nI b < nI a then nI b else nI a) = nI (min a b) := by
    by_cases hl : b < a
    · rw [if_pos ((nI_ltI hb ha).mpr hl), Nat.min_eq_right (Nat.le_of_lt hl)]
    · rw [if_neg (fun e => hl ((nI_ltI hb ha).mp e)), Nat.min_eq_left (Nat.not_lt.mp hl)]
  rw [e]; exact k)
/-- how far two numbers are apart -/
def dist (a b : Nat) : Nat := (a - b) + (b - a)
theorem nI_dist {a b : Nat} (ha : a < 2 ^ 30) (hb : b < 2 ^ 30) : (if 0 ≤ nI a - nI b then nI a - nI b else 0 - (nI a - nI b)) = nI (dist a b) := by
  by_cases hl : b ≤ a
  · rw [pk_sub hl, if_pos (nI_pos' (by omega))]
    congr 1; unfold dist; omega
  · have h1 : nI a - nI b < 0 := pk_sneg hb (by omega)
    rw [if_neg (Int32.not_le.mpr h1), show (0 : Int32) - (nI a - nI b) = nI b - nI a by rw [Int32.zero_sub, Int32.neg_sub], pk_sub (by omega)]
    congr 1; unfold dist; omega
theorem dist_lt {a b : Nat} (ha : a < 2 ^ 30) (hb : b < 2 ^ 30) : dist a b < 2 ^ 31 := by unfold dist; omega
theorem un_upto {h F : Nat → Nat} {c v : Nat} (hh : ∀ j, j < c → h j = F j) (hv : v = F c) : ∀ j, j < c + 1 → un h c v j = F j := by
  intro j hj
  by_cases e : j = c
  · rw [e, un_same, hv]
  · rw [un_ne e]; exact hh j (by omega)
theorem j_mabsN {idx a b : Nat} (hlink : Cond.methodLink mi.1.cls idx Lib.Math.abs.name ∈ UW) (h : decode mi.2.1 pc = .ok (.invokestatic idx, 3) ∧ pc + 3 = pc') (hd : 1 ≤ d) (hr : (st.map fun v => v.category).sum ≤ 8) (ha : a < 2 ^ 30) (hb : b < 2 ^ 30) (k : J d mi pc' ls (.int (nI (dist a b)) :: st) w Q) : J d mi pc ls (.int (nI a - nI b) :: st) w Q := j_mabs hlink h hd hr (by rw [nI_dist ha hb]; exact k)
/-- beyond its end a row is free -/
theorem arrV_congr {cA : ClassId} {n : Nat} {f g : Nat → Value} (h : ∀ j, j < n → f j = g j) : arrV cA n f = arrV cA n g := by
  unfold arrV
  have : (fun j : Fin n => f j.val) = fun j : Fin n => g j.val := funext fun j => h j.val j.isLt
  rw [this]
theorem j_arr {a n : Nat} {f g : Nat → Int32} (h : ∀ j, j < n → f j = g j) (hc : w[a]? = some (iA n f)) (k : J d mi pc ls st (w.set a (iA n g)) Q) : J d mi pc ls st w Q := by
  intro p l e R s m args below meth c H locs q D dA A arr hR C hS hP hD hl
  have hg := cW_get (q := q) (dA := dA) hc
  refine k p l e R s m args below meth c H locs q D dA A arr hR C hS ?_ ?_ hl
  · rw [← cW_set]
    refine hP.set hD hg ?_ (fun _ _ => rfl)
    have h1 : H[q a]? = some (arrV (dA 0) n (fun j => .int (f j))) := hP a _ hg
    show H[q a]? = some (arrV (dA 0) n (fun j => .int (g j)))
    rw [h1, arrV_congr (f := fun j => Value.int (f j)) (g := fun j => Value.int (g j)) (fun j hj => by simp only [h j hj])]
  · rw [← cW_set]
    exact hD.set hg
theorem j_arrN {a n : Nat} {f g : Nat → Nat} (h : ∀ j, j < n → f j = g j) (hc : w[a]? = some (iA n (fun j => nI (f j)))) (k : J d mi pc ls st (w.set a (iA n (fun j => nI (g j)))) Q) : J d mi pc ls st w Q :=
  j_arr (fun j hj => by simp only [h j hj]) hc k
end JN
