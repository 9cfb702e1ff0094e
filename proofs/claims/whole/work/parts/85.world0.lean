/-! ===== the first world ===== -/
theorem w_cons {α : Type} {a b : α} {l m : List α} (h : a = b) (h2 : l = m) : a :: l = b :: m := by rw [h, h2]
abbrev Z0 : Nat → Nat := fun _ => 0
def w00 : mW := [oB false 0, oP 0 (nI 0), oG 0 0 0 9, oS 0 0 0 0 15 16 17 18, oS 0 0 0 0 19 20 21 22, oS 0 0 0 0 23 24 25 26, oT, oD 0, nA 30 Z0, rA 5 fanRows, nA 12 Z0, nA 12 Z0, nA 12 Z0, nA 12 Z0, nA 12 Z0, nA 4 Z0, nA 4 Z0, nA 6 Z0, nA 6 Z0, nA 4 Z0, nA 4 Z0, nA 6 Z0, nA 6 Z0, nA 4 Z0, nA 4 Z0, nA 6 Z0, nA 6 Z0, nA 4096 Z0, nA 13 Z0, nA 12 Z0, nA 12 Z0, nA 12 Z0, nA 12 Z0, oM 0 0 0 0 0 0 0 0 false 0 0 0 0 0 false 0 0 0 0 0, nA 4 Z0, nA 4 Z0, nA 6 Z0, nA 6 Z0, nA 6 Z0, nA 6 Z0, pB Z0, nA 144 Z0, nA 144 Z0, nA 4096 Z0, nA 12 Z0, nA 12 Z0, nA 4 Z0, nA 4 Z0, nA 4 Z0, nA 6 Z0, nA 6 Z0, nA 6 Z0, nA 6 Z0]
theorem fan0 (k : Nat) : fanF 0 (0 * 0) k = Z0 := funext fun c => if_pos (Nat.zero_le c)
set_option maxHeartbeats 4000000 in
set_option maxRecDepth 100000 in
theorem rel0 : REL 0 w00 := by
  refine ⟨0, 0, 0, 0, 0, 0, 0, 0, false, false, 0, 0, 0, 0, 0, Z0, Z0, Z0, Z0, Z0, Z0, Z0, Z0, Z0, Z0, Z0, Z0, Z0, Z0, ((0, 0, 0, 0), (Z0, Z0, Z0, Z0)), ?_, ?_, ?_, Or.inl rfl, by decide, fun _ => (show 0 < 127 by decide), by decide, by decide, by decide, (fun h => Bool.noConfusion h), fun _ => Or.inl rfl⟩
  · refine ⟨rfl, ⟨rfl, rfl⟩, ⟨rfl, rfl, by rw [fan0]; rfl, by rw [fan0]; rfl, by rw [fan0]; rfl, by rw [fan0]; rfl, by rw [fan0]; rfl⟩, ⟨rfl, rfl, rfl, rfl, rfl⟩, ⟨rfl, rfl, rfl, rfl, rfl⟩, ⟨0, 0, 0, 0, Z0, Z0, Z0, Z0, rfl, rfl, rfl, rfl, rfl⟩, ⟨rfl, ⟨Z0, rfl⟩, ⟨Z0, rfl⟩, ⟨Z0, rfl⟩, ⟨Z0, rfl⟩, ⟨Z0, rfl⟩, ⟨Z0, rfl⟩⟩, ⟨0, by decide, rfl⟩⟩
  · exact ⟨false, 0, 0, 0, 0, 0, Z0, Z0, Z0, Z0, Z0, Z0, rfl, rfl, rfl, rfl, rfl, rfl, rfl, rfl, rfl, rfl, rfl, rfl, rfl, rfl, rfl, rfl, rfl, rfl, rfl, rfl⟩
  · exact ⟨by decide, by decide, ⟨by decide, by decide, by decide, fun _ => (show 0 < 5 by decide), fun _ => (show 0 < 12 by decide), fun _ => (show 0 < 4 by decide), fun _ => (show 0 < 32 by decide)⟩, fun _ => (show 0 < 4 by decide), fun _ => (show 0 < 4 by decide), fun _ => (show 0 < 2 by decide), fun i hi => absurd hi (Nat.not_lt_zero i), fun i hi => absurd hi (Nat.not_lt_zero i), fun i j hi => absurd hi (Nat.not_lt_zero i)⟩
def adr (q0 : Nat) (u : List (List Nat)) (q1 : Nat) (v : List Nat) : List Nat := [q0, ((u.getD 0 []).getD 0 0), ((u.getD 0 []).getD 1 0), ((u.getD 0 []).getD 2 0), ((u.getD 0 []).getD 3 0), ((u.getD 0 []).getD 4 0), ((u.getD 0 []).getD 5 0), ((u.getD 0 []).getD 6 0), ((u.getD 1 []).getD 0 0), ((u.getD 2 []).getD 0 0), (((u.getD 2 []).getD 0 0) + 1), (((u.getD 2 []).getD 0 0) + 2), (((u.getD 2 []).getD 0 0) + 3), (((u.getD 2 []).getD 0 0) + 4), (((u.getD 2 []).getD 0 0) + 5), ((u.getD 3 []).getD 0 0), ((u.getD 3 []).getD 1 0), ((u.getD 3 []).getD 2 0), ((u.getD 3 []).getD 3 0), ((u.getD 4 []).getD 0 0), ((u.getD 4 []).getD 1 0), ((u.getD 4 []).getD 2 0), ((u.getD 4 []).getD 3 0), ((u.getD 5 []).getD 0 0), ((u.getD 5 []).getD 1 0), ((u.getD 5 []).getD 2 0), ((u.getD 5 []).getD 3 0), ((u.getD 6 []).getD 0 0), ((u.getD 6 []).getD 1 0), ((u.getD 6 []).getD 2 0), ((u.getD 6 []).getD 3 0), ((u.getD 6 []).getD 4 0), ((u.getD 6 []).getD 5 0), q1, (v.getD 0 0), (v.getD 1 0), (v.getD 2 0), (v.getD 3 0), (v.getD 4 0), (v.getD 5 0), (v.getD 6 0), (v.getD 7 0), (v.getD 8 0), (v.getD 9 0), (v.getD 10 0), (v.getD 11 0), (v.getD 12 0), (v.getD 13 0), (v.getD 14 0), (v.getD 15 0), (v.getD 16 0), (v.getD 17 0), (v.getD 18 0)]
def qL (q0 : Nat) (u : List (List Nat)) (q1 : Nat) (v : List Nat) (k0 v0 b : Nat) : Nat → Nat := fun i => if i = 1000 then k0 else if i = 1001 then v0 else if i = 1002 then b else (adr q0 u q1 v).getD i 0
theorem gmW_eq {a0 a2 : ClassId} {h : Nat} {q : Nat → Nat} (hq : ∀ j, j < 5 → q (10 + j) = h + 1 + j) : gmW a0 a2 h = (h, .inl (a2, 5, .inr (.inr (.inr (.inr (fun j => (fanRows j).map q)))))) :: [(h + 1, .inl (a0, 12, .inl (fun _ => 0))), (h + 2, .inl (a0, 12, .inl (fun _ => 0))), (h + 3, .inl (a0, 12, .inl (fun _ => 0))), (h + 4, .inl (a0, 12, .inl (fun _ => 0))), (h + 5, .inl (a0, 12, .inl (fun _ => 0)))] := by
  have e : (fun j => if j < 5 then some (h + 1 + j) else none) = fun j => (fanRows j).map q := by
    funext j
    unfold fanRows
    by_cases hj : j < 5
    · rw [if_pos hj, if_pos hj, Option.map_some, hq j hj]
    · rw [if_neg hj, if_neg hj, Option.map_none]
  unfold gmW
  rw [e]
theorem cW00 (q : Nat → Nat) (dA : Nat → ClassId) : cW q dA w00 = [(q 0, cE q dA (oB false 0)), (q 1, cE q dA (oP 0 (nI 0))), (q 2, cE q dA (oG 0 0 0 9)), (q 3, cE q dA (oS 0 0 0 0 15 16 17 18)), (q 4, cE q dA (oS 0 0 0 0 19 20 21 22)), (q 5, cE q dA (oS 0 0 0 0 23 24 25 26)), (q 6, cE q dA (oT)), (q 7, cE q dA (oD 0)), (q 8, cE q dA (nA 30 Z0)), (q 9, cE q dA (rA 5 fanRows)), (q 10, cE q dA (nA 12 Z0)), (q 11, cE q dA (nA 12 Z0)), (q 12, cE q dA (nA 12 Z0)), (q 13, cE q dA (nA 12 Z0)), (q 14, cE q dA (nA 12 Z0)), (q 15, cE q dA (nA 4 Z0)), (q 16, cE q dA (nA 4 Z0)), (q 17, cE q dA (nA 6 Z0)), (q 18, cE q dA (nA 6 Z0)), (q 19, cE q dA (nA 4 Z0)), (q 20, cE q dA (nA 4 Z0)), (q 21, cE q dA (nA 6 Z0)), (q 22, cE q dA (nA 6 Z0)), (q 23, cE q dA (nA 4 Z0)), (q 24, cE q dA (nA 4 Z0)), (q 25, cE q dA (nA 6 Z0)), (q 26, cE q dA (nA 6 Z0)), (q 27, cE q dA (nA 4096 Z0)), (q 28, cE q dA (nA 13 Z0)), (q 29, cE q dA (nA 12 Z0)), (q 30, cE q dA (nA 12 Z0)), (q 31, cE q dA (nA 12 Z0)), (q 32, cE q dA (nA 12 Z0)), (q 33, cE q dA (oM 0 0 0 0 0 0 0 0 false 0 0 0 0 0 false 0 0 0 0 0)), (q 34, cE q dA (nA 4 Z0)), (q 35, cE q dA (nA 4 Z0)), (q 36, cE q dA (nA 6 Z0)), (q 37, cE q dA (nA 6 Z0)), (q 38, cE q dA (nA 6 Z0)), (q 39, cE q dA (nA 6 Z0)), (q 40, cE q dA (pB Z0)), (q 41, cE q dA (nA 144 Z0)), (q 42, cE q dA (nA 144 Z0)), (q 43, cE q dA (nA 4096 Z0)), (q 44, cE q dA (nA 12 Z0)), (q 45, cE q dA (nA 12 Z0)), (q 46, cE q dA (nA 4 Z0)), (q 47, cE q dA (nA 4 Z0)), (q 48, cE q dA (nA 4 Z0)), (q 49, cE q dA (nA 6 Z0)), (q 50, cE q dA (nA 6 Z0)), (q 51, cE q dA (nA 6 Z0)), (q 52, cE q dA (nA 6 Z0))] := by
  unfold cW w00
  simp only [List.mapIdx_cons, List.mapIdx_nil]
def perm : List Nat := [0, 1, 3, 10, 15, 20, 25, 32, 2, 4, 5, 6, 7, 8, 9, 11, 12, 13, 14, 16, 17, 18, 19, 21, 22, 23, 24, 26, 27, 28, 29, 30, 31, 33, 34, 35, 36, 37, 38, 39, 40, 41, 42, 43, 44, 45, 46, 47, 48, 49, 50, 51, 52]
def ws0 (dA : Nat → ClassId) (q0 : Nat) (u : List (List Nat)) (q1 : Nat) (v : List Nat) : va_W := w1X5 dA q0 u ++ w1X6 dA q1 v
set_option maxHeartbeats 4000000 in
set_option maxRecDepth 100000 in
theorem flat0 {q : Nat → Nat} (dA : Nat → ClassId) (q0 : Nat) (u : List (List Nat)) (q1 : Nat) (v : List Nat) (hq : ∀ j, j < 5 → q (10 + j) = ((u.getD 2 []).getD 0 0) + 1 + j) : ws0 dA q0 u q1 v = [(q0, .inr (5, [.ref ((u.getD 0 []).getD 0 0), .ref ((u.getD 0 []).getD 1 0), .ref ((u.getD 0 []).getD 2 0), .ref ((u.getD 0 []).getD 3 0), .ref ((u.getD 0 []).getD 4 0), .ref ((u.getD 0 []).getD 5 0), .ref ((u.getD 0 []).getD 6 0), .int 0, .int 0])), (((u.getD 0 []).getD 0 0), .inr (2, [.ref ((u.getD 1 []).getD 0 0), .int 0, .int 0])), (((u.getD 1 []).getD 0 0), .inl (dA 0, 30, .inl (fun _ => 0))), (((u.getD 0 []).getD 1 0), .inr (1, [.int 0, .int 0, .int 0, .ref ((u.getD 2 []).getD 0 0)])), (((u.getD 2 []).getD 0 0), .inl (dA 2, 5, .inr (.inr (.inr (.inr (fun j => (fanRows j).map q)))))), ((((u.getD 2 []).getD 0 0) + 1), .inl (dA 0, 12, .inl (fun _ => 0))), ((((u.getD 2 []).getD 0 0) + 2), .inl (dA 0, 12, .inl (fun _ => 0))), ((((u.getD 2 []).getD 0 0) + 3), .inl (dA 0, 12, .inl (fun _ => 0))), ((((u.getD 2 []).getD 0 0) + 4), .inl (dA 0, 12, .inl (fun _ => 0))), ((((u.getD 2 []).getD 0 0) + 5), .inl (dA 0, 12, .inl (fun _ => 0))), (((u.getD 0 []).getD 2 0), .inr (3, [.int 0, .int 0, .int 0, .int 0, .ref ((u.getD 3 []).getD 0 0), .ref ((u.getD 3 []).getD 1 0), .ref ((u.getD 3 []).getD 2 0), .ref ((u.getD 3 []).getD 3 0)])), (((u.getD 3 []).getD 0 0), .inl (dA 0, 4, .inl (fun _ => 0))), (((u.getD 3 []).getD 1 0), .inl (dA 0, 4, .inl (fun _ => 0))), (((u.getD 3 []).getD 2 0), .inl (dA 0, 6, .inl (fun _ => 0))), (((u.getD 3 []).getD 3 0), .inl (dA 0, 6, .inl (fun _ => 0))), (((u.getD 0 []).getD 3 0), .inr (3, [.int 0, .int 0, .int 0, .int 0, .ref ((u.getD 4 []).getD 0 0), .ref ((u.getD 4 []).getD 1 0), .ref ((u.getD 4 []).getD 2 0), .ref ((u.getD 4 []).getD 3 0)])), (((u.getD 4 []).getD 0 0), .inl (dA 0, 4, .inl (fun _ => 0))), (((u.getD 4 []).getD 1 0), .inl (dA 0, 4, .inl (fun _ => 0))), (((u.getD 4 []).getD 2 0), .inl (dA 0, 6, .inl (fun _ => 0))), (((u.getD 4 []).getD 3 0), .inl (dA 0, 6, .inl (fun _ => 0))), (((u.getD 0 []).getD 4 0), .inr (3, [.int 0, .int 0, .int 0, .int 0, .ref ((u.getD 5 []).getD 0 0), .ref ((u.getD 5 []).getD 1 0), .ref ((u.getD 5 []).getD 2 0), .ref ((u.getD 5 []).getD 3 0)])), (((u.getD 5 []).getD 0 0), .inl (dA 0, 4, .inl (fun _ => 0))), (((u.getD 5 []).getD 1 0), .inl (dA 0, 4, .inl (fun _ => 0))), (((u.getD 5 []).getD 2 0), .inl (dA 0, 6, .inl (fun _ => 0))), (((u.getD 5 []).getD 3 0), .inl (dA 0, 6, .inl (fun _ => 0))), (((u.getD 0 []).getD 5 0), .inr (4, [.ref ((u.getD 6 []).getD 0 0), .ref ((u.getD 6 []).getD 1 0), .ref ((u.getD 6 []).getD 2 0), .ref ((u.getD 6 []).getD 3 0), .ref ((u.getD 6 []).getD 4 0), .ref ((u.getD 6 []).getD 5 0)])), (((u.getD 6 []).getD 0 0), .inl (dA 0, 4096, .inl (fun _ => 0))), (((u.getD 6 []).getD 1 0), .inl (dA 0, 13, .inl (fun _ => 0))), (((u.getD 6 []).getD 2 0), .inl (dA 0, 12, .inl (fun _ => 0))), (((u.getD 6 []).getD 3 0), .inl (dA 0, 12, .inl (fun _ => 0))), (((u.getD 6 []).getD 4 0), .inl (dA 0, 12, .inl (fun _ => 0))), (((u.getD 6 []).getD 5 0), .inl (dA 0, 12, .inl (fun _ => 0))), (((u.getD 0 []).getD 6 0), .inr (0, [.int 0])), (q1, .inr (6, [.int 0, .int 0, .int 0, .int 0, .int 0, .ref (v.getD 0 0), .ref (v.getD 1 0), .int 0, .int 0, .ref (v.getD 2 0), .ref (v.getD 3 0), .ref (v.getD 4 0), .ref (v.getD 5 0), .int 0, .ref (v.getD 6 0), .int 0, .int 0, .int 0, .int 0, .ref (v.getD 7 0), .ref (v.getD 8 0), .int 0, .ref (v.getD 9 0), .ref (v.getD 10 0), .ref (v.getD 11 0), .long 0, .ref (v.getD 12 0), .int 0, .int 0, .int 0, .int 0, .int 0, .ref (v.getD 13 0), .ref (v.getD 14 0), .ref (v.getD 15 0), .ref (v.getD 16 0), .ref (v.getD 17 0), .ref (v.getD 18 0), .long 0])), ((v.getD 0 0), .inl (dA 0, 4, .inl (fun _ => 0))), ((v.getD 1 0), .inl (dA 0, 4, .inl (fun _ => 0))), ((v.getD 2 0), .inl (dA 0, 6, .inl (fun _ => 0))), ((v.getD 3 0), .inl (dA 0, 6, .inl (fun _ => 0))), ((v.getD 4 0), .inl (dA 0, 6, .inl (fun _ => 0))), ((v.getD 5 0), .inl (dA 0, 6, .inl (fun _ => 0))), ((v.getD 6 0), .inl (dA 1, 30, .inl (fun _ => 0))), ((v.getD 7 0), .inl (dA 0, 144, .inl (fun _ => 0))), ((v.getD 8 0), .inl (dA 0, 144, .inl (fun _ => 0))), ((v.getD 9 0), .inl (dA 0, 4096, .inl (fun _ => 0))), ((v.getD 10 0), .inl (dA 0, 12, .inl (fun _ => 0))), ((v.getD 11 0), .inl (dA 0, 12, .inl (fun _ => 0))), ((v.getD 12 0), .inl (dA 0, 4, .inl (fun _ => 0))), ((v.getD 13 0), .inl (dA 0, 4, .inl (fun _ => 0))), ((v.getD 14 0), .inl (dA 0, 4, .inl (fun _ => 0))), ((v.getD 15 0), .inl (dA 0, 6, .inl (fun _ => 0))), ((v.getD 16 0), .inl (dA 0, 6, .inl (fun _ => 0))), ((v.getD 17 0), .inl (dA 0, 6, .inl (fun _ => 0))), ((v.getD 18 0), .inl (dA 0, 6, .inl (fun _ => 0)))] := by
  unfold ws0 w1X5 w1X2 w1X1 w1X3 w1X4 w1X0 w1X6
  rw [gmW_eq hq]
  simp only [List.cons_append, List.nil_append]
section
variable (dA : Nat → ClassId) (q0 : Nat) (u : List (List Nat)) (q1 : Nat) (v : List Nat) (k0 v0 b : Nat)
theorem qL5 : ∀ j, j < 5 → (qL q0 u q1 v k0 v0 b) (10 + j) = ((u.getD 2 []).getD 0 0) + 1 + j := by
  intro j hj
  rcases (show j = 0 ∨ j = 1 ∨ j = 2 ∨ j = 3 ∨ j = 4 by omega) with rfl | rfl | rfl | rfl | rfl <;> (unfold qL; rw [if_neg (by decide), if_neg (by decide), if_neg (by decide)]; rfl)
theorem wl_0 : (ws0 dA q0 u q1 v)[0]? = some (qL q0 u q1 v k0 v0 b 0, cE (qL q0 u q1 v k0 v0 b) dA (oB false 0)) := by
  rw [flat0 dA q0 u q1 v (qL5 q0 u q1 v k0 v0 b)]
  rfl
theorem wl_1 : (ws0 dA q0 u q1 v)[1]? = some (qL q0 u q1 v k0 v0 b 1, cE (qL q0 u q1 v k0 v0 b) dA (oP 0 (nI 0))) := by
  rw [flat0 dA q0 u q1 v (qL5 q0 u q1 v k0 v0 b)]
  rfl
theorem wl_2 : (ws0 dA q0 u q1 v)[3]? = some (qL q0 u q1 v k0 v0 b 2, cE (qL q0 u q1 v k0 v0 b) dA (oG 0 0 0 9)) := by
  rw [flat0 dA q0 u q1 v (qL5 q0 u q1 v k0 v0 b)]
  rfl
theorem wl_3 : (ws0 dA q0 u q1 v)[10]? = some (qL q0 u q1 v k0 v0 b 3, cE (qL q0 u q1 v k0 v0 b) dA (oS 0 0 0 0 15 16 17 18)) := by
  rw [flat0 dA q0 u q1 v (qL5 q0 u q1 v k0 v0 b)]
  rfl
theorem wl_4 : (ws0 dA q0 u q1 v)[15]? = some (qL q0 u q1 v k0 v0 b 4, cE (qL q0 u q1 v k0 v0 b) dA (oS 0 0 0 0 19 20 21 22)) := by
  rw [flat0 dA q0 u q1 v (qL5 q0 u q1 v k0 v0 b)]
  rfl
theorem wl_5 : (ws0 dA q0 u q1 v)[20]? = some (qL q0 u q1 v k0 v0 b 5, cE (qL q0 u q1 v k0 v0 b) dA (oS 0 0 0 0 23 24 25 26)) := by
  rw [flat0 dA q0 u q1 v (qL5 q0 u q1 v k0 v0 b)]
  rfl
theorem wl_6 : (ws0 dA q0 u q1 v)[25]? = some (qL q0 u q1 v k0 v0 b 6, cE (qL q0 u q1 v k0 v0 b) dA (oT)) := by
  rw [flat0 dA q0 u q1 v (qL5 q0 u q1 v k0 v0 b)]
  rfl
theorem wl_7 : (ws0 dA q0 u q1 v)[32]? = some (qL q0 u q1 v k0 v0 b 7, cE (qL q0 u q1 v k0 v0 b) dA (oD 0)) := by
  rw [flat0 dA q0 u q1 v (qL5 q0 u q1 v k0 v0 b)]
  rfl
theorem wl_8 : (ws0 dA q0 u q1 v)[2]? = some (qL q0 u q1 v k0 v0 b 8, cE (qL q0 u q1 v k0 v0 b) dA (nA 30 Z0)) := by
  rw [flat0 dA q0 u q1 v (qL5 q0 u q1 v k0 v0 b)]
  rfl
theorem wl_9 : (ws0 dA q0 u q1 v)[4]? = some (qL q0 u q1 v k0 v0 b 9, cE (qL q0 u q1 v k0 v0 b) dA (rA 5 fanRows)) := by
  rw [flat0 dA q0 u q1 v (qL5 q0 u q1 v k0 v0 b)]
  rfl
theorem wl_10 : (ws0 dA q0 u q1 v)[5]? = some (qL q0 u q1 v k0 v0 b 10, cE (qL q0 u q1 v k0 v0 b) dA (nA 12 Z0)) := by
  rw [flat0 dA q0 u q1 v (qL5 q0 u q1 v k0 v0 b)]
  rfl
theorem wl_11 : (ws0 dA q0 u q1 v)[6]? = some (qL q0 u q1 v k0 v0 b 11, cE (qL q0 u q1 v k0 v0 b) dA (nA 12 Z0)) := by
  rw [flat0 dA q0 u q1 v (qL5 q0 u q1 v k0 v0 b)]
  rfl
theorem wl_12 : (ws0 dA q0 u q1 v)[7]? = some (qL q0 u q1 v k0 v0 b 12, cE (qL q0 u q1 v k0 v0 b) dA (nA 12 Z0)) := by
  rw [flat0 dA q0 u q1 v (qL5 q0 u q1 v k0 v0 b)]
  rfl
theorem wl_13 : (ws0 dA q0 u q1 v)[8]? = some (qL q0 u q1 v k0 v0 b 13, cE (qL q0 u q1 v k0 v0 b) dA (nA 12 Z0)) := by
  rw [flat0 dA q0 u q1 v (qL5 q0 u q1 v k0 v0 b)]
  rfl
theorem wl_14 : (ws0 dA q0 u q1 v)[9]? = some (qL q0 u q1 v k0 v0 b 14, cE (qL q0 u q1 v k0 v0 b) dA (nA 12 Z0)) := by
  rw [flat0 dA q0 u q1 v (qL5 q0 u q1 v k0 v0 b)]
  rfl
theorem wl_15 : (ws0 dA q0 u q1 v)[11]? = some (qL q0 u q1 v k0 v0 b 15, cE (qL q0 u q1 v k0 v0 b) dA (nA 4 Z0)) := by
  rw [flat0 dA q0 u q1 v (qL5 q0 u q1 v k0 v0 b)]
  rfl
theorem wl_16 : (ws0 dA q0 u q1 v)[12]? = some (qL q0 u q1 v k0 v0 b 16, cE (qL q0 u q1 v k0 v0 b) dA (nA 4 Z0)) := by
  rw [flat0 dA q0 u q1 v (qL5 q0 u q1 v k0 v0 b)]
  rfl
theorem wl_17 : (ws0 dA q0 u q1 v)[13]? = some (qL q0 u q1 v k0 v0 b 17, cE (qL q0 u q1 v k0 v0 b) dA (nA 6 Z0)) := by
  rw [flat0 dA q0 u q1 v (qL5 q0 u q1 v k0 v0 b)]
  rfl
theorem wl_18 : (ws0 dA q0 u q1 v)[14]? = some (qL q0 u q1 v k0 v0 b 18, cE (qL q0 u q1 v k0 v0 b) dA (nA 6 Z0)) := by
  rw [flat0 dA q0 u q1 v (qL5 q0 u q1 v k0 v0 b)]
  rfl
theorem wl_19 : (ws0 dA q0 u q1 v)[16]? = some (qL q0 u q1 v k0 v0 b 19, cE (qL q0 u q1 v k0 v0 b) dA (nA 4 Z0)) := by
  rw [flat0 dA q0 u q1 v (qL5 q0 u q1 v k0 v0 b)]
  rfl
theorem wl_20 : (ws0 dA q0 u q1 v)[17]? = some (qL q0 u q1 v k0 v0 b 20, cE (qL q0 u q1 v k0 v0 b) dA (nA 4 Z0)) := by
  rw [flat0 dA q0 u q1 v (qL5 q0 u q1 v k0 v0 b)]
  rfl
theorem wl_21 : (ws0 dA q0 u q1 v)[18]? = some (qL q0 u q1 v k0 v0 b 21, cE (qL q0 u q1 v k0 v0 b) dA (nA 6 Z0)) := by
  rw [flat0 dA q0 u q1 v (qL5 q0 u q1 v k0 v0 b)]
  rfl
theorem wl_22 : (ws0 dA q0 u q1 v)[19]? = some (qL q0 u q1 v k0 v0 b 22, cE (qL q0 u q1 v k0 v0 b) dA (nA 6 Z0)) := by
  rw [flat0 dA q0 u q1 v (qL5 q0 u q1 v k0 v0 b)]
  rfl
theorem wl_23 : (ws0 dA q0 u q1 v)[21]? = some (qL q0 u q1 v k0 v0 b 23, cE (qL q0 u q1 v k0 v0 b) dA (nA 4 Z0)) := by
  rw [flat0 dA q0 u q1 v (qL5 q0 u q1 v k0 v0 b)]
  rfl
theorem wl_24 : (ws0 dA q0 u q1 v)[22]? = some (qL q0 u q1 v k0 v0 b 24, cE (qL q0 u q1 v k0 v0 b) dA (nA 4 Z0)) := by
  rw [flat0 dA q0 u q1 v (qL5 q0 u q1 v k0 v0 b)]
  rfl
theorem wl_25 : (ws0 dA q0 u q1 v)[23]? = some (qL q0 u q1 v k0 v0 b 25, cE (qL q0 u q1 v k0 v0 b) dA (nA 6 Z0)) := by
  rw [flat0 dA q0 u q1 v (qL5 q0 u q1 v k0 v0 b)]
  rfl
theorem wl_26 : (ws0 dA q0 u q1 v)[24]? = some (qL q0 u q1 v k0 v0 b 26, cE (qL q0 u q1 v k0 v0 b) dA (nA 6 Z0)) := by
  rw [flat0 dA q0 u q1 v (qL5 q0 u q1 v k0 v0 b)]
  rfl
theorem wl_27 : (ws0 dA q0 u q1 v)[26]? = some (qL q0 u q1 v k0 v0 b 27, cE (qL q0 u q1 v k0 v0 b) dA (nA 4096 Z0)) := by
  rw [flat0 dA q0 u q1 v (qL5 q0 u q1 v k0 v0 b)]
  rfl
theorem wl_28 : (ws0 dA q0 u q1 v)[27]? = some (qL q0 u q1 v k0 v0 b 28, cE (qL q0 u q1 v k0 v0 b) dA (nA 13 Z0)) := by
  rw [flat0 dA q0 u q1 v (qL5 q0 u q1 v k0 v0 b)]
  rfl
theorem wl_29 : (ws0 dA q0 u q1 v)[28]? = some (qL q0 u q1 v k0 v0 b 29, cE (qL q0 u q1 v k0 v0 b) dA (nA 12 Z0)) := by
  rw [flat0 dA q0 u q1 v (qL5 q0 u q1 v k0 v0 b)]
  rfl
theorem wl_30 : (ws0 dA q0 u q1 v)[29]? = some (qL q0 u q1 v k0 v0 b 30, cE (qL q0 u q1 v k0 v0 b) dA (nA 12 Z0)) := by
  rw [flat0 dA q0 u q1 v (qL5 q0 u q1 v k0 v0 b)]
  rfl
theorem wl_31 : (ws0 dA q0 u q1 v)[30]? = some (qL q0 u q1 v k0 v0 b 31, cE (qL q0 u q1 v k0 v0 b) dA (nA 12 Z0)) := by
  rw [flat0 dA q0 u q1 v (qL5 q0 u q1 v k0 v0 b)]
  rfl
theorem wl_32 : (ws0 dA q0 u q1 v)[31]? = some (qL q0 u q1 v k0 v0 b 32, cE (qL q0 u q1 v k0 v0 b) dA (nA 12 Z0)) := by
  rw [flat0 dA q0 u q1 v (qL5 q0 u q1 v k0 v0 b)]
  rfl
theorem wl_33 : (ws0 dA q0 u q1 v)[33]? = some (qL q0 u q1 v k0 v0 b 33, cE (qL q0 u q1 v k0 v0 b) dA (oM 0 0 0 0 0 0 0 0 false 0 0 0 0 0 false 0 0 0 0 0)) := by
  rw [flat0 dA q0 u q1 v (qL5 q0 u q1 v k0 v0 b)]
  rfl
theorem wl_34 : (ws0 dA q0 u q1 v)[34]? = some (qL q0 u q1 v k0 v0 b 34, cE (qL q0 u q1 v k0 v0 b) dA (nA 4 Z0)) := by
  rw [flat0 dA q0 u q1 v (qL5 q0 u q1 v k0 v0 b)]
  rfl
theorem wl_35 : (ws0 dA q0 u q1 v)[35]? = some (qL q0 u q1 v k0 v0 b 35, cE (qL q0 u q1 v k0 v0 b) dA (nA 4 Z0)) := by
  rw [flat0 dA q0 u q1 v (qL5 q0 u q1 v k0 v0 b)]
  rfl
theorem wl_36 : (ws0 dA q0 u q1 v)[36]? = some (qL q0 u q1 v k0 v0 b 36, cE (qL q0 u q1 v k0 v0 b) dA (nA 6 Z0)) := by
  rw [flat0 dA q0 u q1 v (qL5 q0 u q1 v k0 v0 b)]
  rfl
theorem wl_37 : (ws0 dA q0 u q1 v)[37]? = some (qL q0 u q1 v k0 v0 b 37, cE (qL q0 u q1 v k0 v0 b) dA (nA 6 Z0)) := by
  rw [flat0 dA q0 u q1 v (qL5 q0 u q1 v k0 v0 b)]
  rfl
theorem wl_38 : (ws0 dA q0 u q1 v)[38]? = some (qL q0 u q1 v k0 v0 b 38, cE (qL q0 u q1 v k0 v0 b) dA (nA 6 Z0)) := by
  rw [flat0 dA q0 u q1 v (qL5 q0 u q1 v k0 v0 b)]
  rfl
theorem wl_39 : (ws0 dA q0 u q1 v)[39]? = some (qL q0 u q1 v k0 v0 b 39, cE (qL q0 u q1 v k0 v0 b) dA (nA 6 Z0)) := by
  rw [flat0 dA q0 u q1 v (qL5 q0 u q1 v k0 v0 b)]
  rfl
theorem wl_40 : (ws0 dA q0 u q1 v)[40]? = some (qL q0 u q1 v k0 v0 b 40, cE (qL q0 u q1 v k0 v0 b) dA (pB Z0)) := by
  rw [flat0 dA q0 u q1 v (qL5 q0 u q1 v k0 v0 b)]
  rfl
theorem wl_41 : (ws0 dA q0 u q1 v)[41]? = some (qL q0 u q1 v k0 v0 b 41, cE (qL q0 u q1 v k0 v0 b) dA (nA 144 Z0)) := by
  rw [flat0 dA q0 u q1 v (qL5 q0 u q1 v k0 v0 b)]
  rfl
theorem wl_42 : (ws0 dA q0 u q1 v)[42]? = some (qL q0 u q1 v k0 v0 b 42, cE (qL q0 u q1 v k0 v0 b) dA (nA 144 Z0)) := by
  rw [flat0 dA q0 u q1 v (qL5 q0 u q1 v k0 v0 b)]
  rfl
theorem wl_43 : (ws0 dA q0 u q1 v)[43]? = some (qL q0 u q1 v k0 v0 b 43, cE (qL q0 u q1 v k0 v0 b) dA (nA 4096 Z0)) := by
  rw [flat0 dA q0 u q1 v (qL5 q0 u q1 v k0 v0 b)]
  rfl
theorem wl_44 : (ws0 dA q0 u q1 v)[44]? = some (qL q0 u q1 v k0 v0 b 44, cE (qL q0 u q1 v k0 v0 b) dA (nA 12 Z0)) := by
  rw [flat0 dA q0 u q1 v (qL5 q0 u q1 v k0 v0 b)]
  rfl
theorem wl_45 : (ws0 dA q0 u q1 v)[45]? = some (qL q0 u q1 v k0 v0 b 45, cE (qL q0 u q1 v k0 v0 b) dA (nA 12 Z0)) := by
  rw [flat0 dA q0 u q1 v (qL5 q0 u q1 v k0 v0 b)]
  rfl
theorem wl_46 : (ws0 dA q0 u q1 v)[46]? = some (qL q0 u q1 v k0 v0 b 46, cE (qL q0 u q1 v k0 v0 b) dA (nA 4 Z0)) := by
  rw [flat0 dA q0 u q1 v (qL5 q0 u q1 v k0 v0 b)]
  rfl
theorem wl_47 : (ws0 dA q0 u q1 v)[47]? = some (qL q0 u q1 v k0 v0 b 47, cE (qL q0 u q1 v k0 v0 b) dA (nA 4 Z0)) := by
  rw [flat0 dA q0 u q1 v (qL5 q0 u q1 v k0 v0 b)]
  rfl
theorem wl_48 : (ws0 dA q0 u q1 v)[48]? = some (qL q0 u q1 v k0 v0 b 48, cE (qL q0 u q1 v k0 v0 b) dA (nA 4 Z0)) := by
  rw [flat0 dA q0 u q1 v (qL5 q0 u q1 v k0 v0 b)]
  rfl
theorem wl_49 : (ws0 dA q0 u q1 v)[49]? = some (qL q0 u q1 v k0 v0 b 49, cE (qL q0 u q1 v k0 v0 b) dA (nA 6 Z0)) := by
  rw [flat0 dA q0 u q1 v (qL5 q0 u q1 v k0 v0 b)]
  rfl
theorem wl_50 : (ws0 dA q0 u q1 v)[50]? = some (qL q0 u q1 v k0 v0 b 50, cE (qL q0 u q1 v k0 v0 b) dA (nA 6 Z0)) := by
  rw [flat0 dA q0 u q1 v (qL5 q0 u q1 v k0 v0 b)]
  rfl
theorem wl_51 : (ws0 dA q0 u q1 v)[51]? = some (qL q0 u q1 v k0 v0 b 51, cE (qL q0 u q1 v k0 v0 b) dA (nA 6 Z0)) := by
  rw [flat0 dA q0 u q1 v (qL5 q0 u q1 v k0 v0 b)]
  rfl
theorem wl_52 : (ws0 dA q0 u q1 v)[52]? = some (qL q0 u q1 v k0 v0 b 52, cE (qL q0 u q1 v k0 v0 b) dA (nA 6 Z0)) := by
  rw [flat0 dA q0 u q1 v (qL5 q0 u q1 v k0 v0 b)]
  rfl
set_option maxHeartbeats 4000000 in
set_option maxRecDepth 100000 in
theorem world0 : perm.map (fun i => (ws0 dA q0 u q1 v)[i]?) = (cW (qL q0 u q1 v k0 v0 b) dA w00).map some := by
  rw [cW00]
  unfold perm
  simp only [List.map_cons, List.map_nil]
  exact (w_cons (wl_0 dA q0 u q1 v k0 v0 b) (w_cons (wl_1 dA q0 u q1 v k0 v0 b) (w_cons (wl_2 dA q0 u q1 v k0 v0 b) (w_cons (wl_3 dA q0 u q1 v k0 v0 b) (w_cons (wl_4 dA q0 u q1 v k0 v0 b) (w_cons (wl_5 dA q0 u q1 v k0 v0 b) (w_cons (wl_6 dA q0 u q1 v k0 v0 b) (w_cons (wl_7 dA q0 u q1 v k0 v0 b) (w_cons (wl_8 dA q0 u q1 v k0 v0 b) (w_cons (wl_9 dA q0 u q1 v k0 v0 b) (w_cons (wl_10 dA q0 u q1 v k0 v0 b) (w_cons (wl_11 dA q0 u q1 v k0 v0 b) (w_cons (wl_12 dA q0 u q1 v k0 v0 b) (w_cons (wl_13 dA q0 u q1 v k0 v0 b) (w_cons (wl_14 dA q0 u q1 v k0 v0 b) (w_cons (wl_15 dA q0 u q1 v k0 v0 b) (w_cons (wl_16 dA q0 u q1 v k0 v0 b) (w_cons (wl_17 dA q0 u q1 v k0 v0 b) (w_cons (wl_18 dA q0 u q1 v k0 v0 b) (w_cons (wl_19 dA q0 u q1 v k0 v0 b) (w_cons (wl_20 dA q0 u q1 v k0 v0 b) (w_cons (wl_21 dA q0 u q1 v k0 v0 b) (w_cons (wl_22 dA q0 u q1 v k0 v0 b) (w_cons (wl_23 dA q0 u q1 v k0 v0 b) (w_cons (wl_24 dA q0 u q1 v k0 v0 b) (w_cons (wl_25 dA q0 u q1 v k0 v0 b) (w_cons (wl_26 dA q0 u q1 v k0 v0 b) (w_cons (wl_27 dA q0 u q1 v k0 v0 b) (w_cons (wl_28 dA q0 u q1 v k0 v0 b) (w_cons (wl_29 dA q0 u q1 v k0 v0 b) (w_cons (wl_30 dA q0 u q1 v k0 v0 b) (w_cons (wl_31 dA q0 u q1 v k0 v0 b) (w_cons (wl_32 dA q0 u q1 v k0 v0 b) (w_cons (wl_33 dA q0 u q1 v k0 v0 b) (w_cons (wl_34 dA q0 u q1 v k0 v0 b) (w_cons (wl_35 dA q0 u q1 v k0 v0 b) (w_cons (wl_36 dA q0 u q1 v k0 v0 b) (w_cons (wl_37 dA q0 u q1 v k0 v0 b) (w_cons (wl_38 dA q0 u q1 v k0 v0 b) (w_cons (wl_39 dA q0 u q1 v k0 v0 b) (w_cons (wl_40 dA q0 u q1 v k0 v0 b) (w_cons (wl_41 dA q0 u q1 v k0 v0 b) (w_cons (wl_42 dA q0 u q1 v k0 v0 b) (w_cons (wl_43 dA q0 u q1 v k0 v0 b) (w_cons (wl_44 dA q0 u q1 v k0 v0 b) (w_cons (wl_45 dA q0 u q1 v k0 v0 b) (w_cons (wl_46 dA q0 u q1 v k0 v0 b) (w_cons (wl_47 dA q0 u q1 v k0 v0 b) (w_cons (wl_48 dA q0 u q1 v k0 v0 b) (w_cons (wl_49 dA q0 u q1 v k0 v0 b) (w_cons (wl_50 dA q0 u q1 v k0 v0 b) (w_cons (wl_51 dA q0 u q1 v k0 v0 b) (w_cons (wl_52 dA q0 u q1 v k0 v0 b) rfl)))))))))))))))))))))))))))))))))))))))))))))))))))))
end
