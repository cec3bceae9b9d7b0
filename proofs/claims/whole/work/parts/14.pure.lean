/-! 14: the class's copies against the reference's; what every call keeps; no NaN in the mean -/
/-- the same beds, as far as anything reads them -/
def EqB (n : Nat) (B B' : Nat → Nat → Int32) : Prop := ∀ j k, j < 8 → k < n → B j k = B' j k
theorem eqB_cp {n : Nat} (hn : n ≤ 8) (B B2 BA : Nat → Nat → Int32) : EqB n (cpB n B B2) (cpN 8 B BA) := by
  intro j k hj hk
  rw [cpB_at hk hj]
  unfold cpN
  rw [if_pos (by omega)]
section EQB
variable {n : Nat} {B B' : Nat → Nat → Int32}
theorem eqB_given (h : EqB n B B') {k : Nat} (hk : k < n) : given B k = given B' k := by
  unfold given
  rw [h 1 k (by omega) hk, h 2 k (by omega) hk]
theorem eqB_sgiv (h : EqB n B B') {k : Nat} (hk : k < n) : sgiv B k = sgiv B' k := by
  unfold sgiv
  rw [eqB_given h hk, h 3 k (by omega) hk]
theorem eqB_crp (h : EqB n B B') {k : Nat} (hk : k < n) : ∀ i, i ≤ n → crp B k i = crp B' k i := by
  intro i
  induction i with
  | zero => intro _; rfl
  | succ i ih =>
    intro hi
    show (crp B k i || crp1 B k i) = (crp B' k i || crp1 B' k i)
    rw [ih (by omega)]
    unfold crp1
    rw [h 0 i (by omega) (by omega), h 0 k (by omega) hk, h 3 k (by omega) hk, h 3 i (by omega) (by omega)]
theorem eqB_chF (h : EqB n B B') {k : Nat} (hk : k < n) : chF B n k = chF B' n k := by
  unfold chF
  rw [h 2 k (by omega) hk, eqB_crp h hk n (Nat.le_refl _)]
theorem eqB_cl (h : EqB n B B') {j k : Nat} (hj : j < 8) (hk : k < n) : cl_ B k j = cl_ B' k j := h j k hj hk
theorem eqB_year (h : EqB n B B') : EqB n (yearB n B) (yearB n B') := by
  intro j k hj hk
  unfold yearB
  rw [mapC_lt hk, mapC_lt hk]
  unfold yearC
  rw [eqB_cl h (show 2 < 8 by omega) hk, eqB_cl h (show 3 < 8 by omega) hk, eqB_cl h hj hk, eqB_chF h hk]
theorem eqB_rot (h : EqB n B B') : EqB n (rotB n B) (rotB n B') := by
  intro j k hj hk
  unfold rotB
  rw [mapC_lt hk, mapC_lt hk]
  unfold rotC
  rw [eqB_cl h (show 5 < 8 by omega) hk, eqB_cl h (show 4 < 8 by omega) hk, eqB_cl h hj hk]
theorem eqB_day (h : EqB n B B') (dy : Int32) : EqB n (dayB n dy B) (dayB n dy B') := by
  unfold dayB
  split
  · exact eqB_year (eqB_rot h)
  · exact eqB_rot h
theorem eqB_years (h : EqB n B B') : ∀ y, EqB n (yearsB n y B) (yearsB n y B') := by
  intro y
  induction y with
  | zero => exact h
  | succ y ih => exact eqB_year ih
theorem eqB_best (h : EqB n B B') {k : Nat} (hk : k < n) : ∀ y, bestS n B k y = bestS n B' k y := by
  intro y
  induction y with
  | zero =>
    show (sgiv B k, (0 : Int32)) = (sgiv B' k, 0)
    rw [eqB_sgiv h hk]
  | succ y ih =>
    show (if sgiv (yearsB n (y + 1) B) k ≤ (bestS n B k y).1 then bestS n B k y else (sgiv (yearsB n (y + 1) B) k, nI (y + 1))) = (if sgiv (yearsB n (y + 1) B') k ≤ (bestS n B' k y).1 then bestS n B' k y else (sgiv (yearsB n (y + 1) B') k, nI (y + 1)))
    rw [ih, eqB_sgiv (eqB_years h (y + 1)) hk]
theorem sumF_eq {f g : Nat → Int32} : ∀ n, (∀ k, k < n → f k = g k) → sumF f n = sumF g n := by
  intro n
  induction n with
  | zero => intro _; rfl
  | succ n ih =>
    intro h
    show sumF f n + f n = sumF g n + g n
    rw [ih (fun k hk => h k (by omega)), h n (by omega)]
end EQB
theorem best_same {n k : Nat} (hn : n ≤ 8) (hk : k < n) (B B2 BA : Nat → Nat → Int32) : (bestS n (cpB n B B2) k 9).2 = (bestS n (cpN 8 B BA) k 9).2 := by rw [eqB_best (eqB_cp hn B B2 BA) hk]
/-- the same days gone by -/
def EqD (n : Nat) (x x' : DS) : Prop := x.1 = x'.1 ∧ x.2.1 = x'.2.1 ∧ EqB n x.2.2.1 x'.2.2.1 ∧ ∀ j, j < 3 → x.2.2.2.2 j = x'.2.2.2.2 j
theorem eqD_day {n nb : Nat} {x x' : DS} (h : EqD n x x') : EqD n (dayS n nb x) (dayS n nb x') := by
  obtain ⟨h1, h2, h3, h4⟩ := h
  refine ⟨?_, ?_, ?_, fun j hj => ?_⟩
  · show x.1 + 1 = x'.1 + 1
    rw [h1]
  · show x.2.1 + sumF (rotF x.2.2.1) n = x'.2.1 + sumF (rotF x'.2.2.1) n
    rw [h2, sumF_eq n (fun k hk => show rotF x.2.2.1 k = rotF x'.2.2.1 k from by unfold rotF; rw [h3 4 k (by omega) hk, h3 5 k (by omega) hk])]
  · show EqB n (dayB n x.1 x.2.2.1) (dayB n x'.1 x'.2.2.1)
    rw [← h1]
    exact eqB_day h3 _
  · show thT x.2.2.2.2 j = thT x'.2.2.2.2 j
    rw [thT_at hj, thT_at hj, h4 j hj]
theorem eqD_days {n nb : Nat} {x x' : DS} (h : EqD n x x') : ∀ d, EqD n (daysS n nb d x) (daysS n nb d x') := by
  intro d
  induction d with
  | zero => exact h
  | succ d ih => exact eqD_day ih
theorem eqD_cp {n : Nat} (hn : n ≤ 8) {dy ro : Int32} {B B2 BA G1 G2 : Nat → Nat → Int32} {T T2 TA : Nat → Int32} : EqD n (dy, ro, cpB n B B2, G1, cpT T T2) (dy, ro, cpN 8 B BA, G2, cpT3 T TA) := by
  refine ⟨rfl, rfl, eqB_cp hn B B2 BA, fun j hj => ?_⟩
  show cpT T T2 j = cpT3 T TA j
  rw [cpT_at hj]
  exact (if_pos hj).symm
theorem fore_same {n nb d qw : Nat} (hn : n ≤ 8) {dy co ti ro : Int32} {B B2 BA G1 G2 : Nat → Nat → Int32} {T T2 TA : Nat → Int32} (hw : qw = 4 ∨ qw = 5 ∨ qw = 9 ∨ qw = 10) :
    tellW (daysS n nb d (dy, ro, cpB n B B2, G1, cpT T T2)).1 co ti (daysS n nb d (dy, ro, cpB n B B2, G1, cpT T T2)).2.1 n (daysS n nb d (dy, ro, cpB n B B2, G1, cpT T T2)).2.2.1 nb (daysS n nb d (dy, ro, cpB n B B2, G1, cpT T T2)).2.2.2.1 (daysS n nb d (dy, ro, cpB n B B2, G1, cpT T T2)).2.2.2.2 qw =
    tellW (daysS n nb d (dy, ro, cpN 8 B BA, G2, cpT3 T TA)).1 co ti (daysS n nb d (dy, ro, cpN 8 B BA, G2, cpT3 T TA)).2.1 n (daysS n nb d (dy, ro, cpN 8 B BA, G2, cpT3 T TA)).2.2.1 nb (daysS n nb d (dy, ro, cpN 8 B BA, G2, cpT3 T TA)).2.2.2.1 (daysS n nb d (dy, ro, cpN 8 B BA, G2, cpT3 T TA)).2.2.2.2 qw := by
  obtain ⟨h1, h2, h3, h4⟩ := eqD_days (nb := nb) (eqD_cp hn (dy := dy) (ro := ro) (B := B) (B2 := B2) (BA := BA) (G1 := G1) (G2 := G2) (T := T) (T2 := T2) (TA := TA)) d
  generalize daysS n nb d (dy, ro, cpB n B B2, G1, cpT T T2) = x at *
  generalize daysS n nb d (dy, ro, cpN 8 B BA, G2, cpT3 T TA) = x' at *
  rcases hw with rfl | rfl | rfl | rfl
  · exact sumF_eq n (fun k hk => eqB_given h3 hk)
  · exact sumF_eq n (fun k hk => by unfold untF; rw [h3 4 k (by omega) hk, h3 5 k (by omega) hk])
  · exact sumF_eq 3 h4
  · exact h2
/-- what every call keeps -/
theorem in30 {x : Int32} (h0 : ¬ x < 0) (h1 : x ≤ 30) : ∃ p, p < 31 ∧ x = nI p := by
  obtain ⟨j, hj, e⟩ := nI_of2 (M := 30) (n := 30) (by decide) h0 h1
  exact ⟨j, by omega, e⟩
theorem in100 {x : Int32} (h0 : ¬ x < 0) (h1 : x ≤ 100) : ∃ p, p < 101 ∧ x = nI p := by
  obtain ⟨j, hj, e⟩ := nI_of2 (M := 100) (n := 100) (by decide) h0 h1
  exact ⟨j, by omega, e⟩
theorem BInv.same {n : Nat} {B B' : Nat → Nat → Int32} (h : BInv n B) (h0 : ∀ k, B' 0 k = B 0 k) (h2 : ∀ k, B' 2 k = B 2 k) (h3 : ∀ k, B' 3 k = B 3 k) : BInv n B' := by
  intro k hk
  rw [h0, h2, h3]
  exact h k hk
theorem GInv.same {nb : Nat} {G G' : Nat → Nat → Int32} (h : GInv nb G) (h0 : ∀ k, G' 0 k = G 0 k) (h1 : ∀ k, G' 1 k = G 1 k) : GInv nb G' := by
  intro k hk
  rw [h0, h1]
  exact h k hk
theorem inv_bed {n : Nat} {B : Nat → Nat → Int32} {p1 p2 p3 : Int32} (h : BInv n B) (q0 : ¬ p1 < 0) (q1 : p1 ≤ 30) (q4 : ¬ p3 < 0) (q5 : p3 ≤ 100) : BInv (n + 1) (addB B n p1 p2 p3) := by
  intro k hk
  by_cases e : k = n
  · subst e
    have e0 : addB B k p1 p2 p3 0 k = p1 := by unfold addB; rw [st_col (by decide), st_col (by decide), st_col (by decide), st_eq, if_pos rfl]
    have e2 : addB B k p1 p2 p3 2 k = 3 := by unfold addB; rw [st_col (by decide), st_eq, if_pos rfl]
    have e3 : addB B k p1 p2 p3 3 k = p3 := by unfold addB; rw [st_eq, if_pos rfl]
    rw [e0, e2, e3]
    exact ⟨in30 q0 q1, ⟨3, by omega, rfl⟩, in100 q4 q5⟩
  · unfold addB
    rw [st_ne e, st_ne e, st_ne e, st_ne e, st_ne e, st_ne e, st_ne e, st_ne e, st_ne e, st_ne e, st_ne e, st_ne e]
    exact h k (by omega)
theorem inv_cut {n i : Nat} {B : Nat → Nat → Int32} (h : BInv n B) : BInv n (cutB B i) := by
  intro k hk
  obtain ⟨h0, h2, h3⟩ := h k hk
  unfold cutB
  generalize B 4 i + sgiv B i = a
  generalize B 5 i + (given B i - sgiv B i) = b
  rw [st_col (j := 0) (by decide), st_col (j := 0) (by decide), st_col (j := 0) (by decide), st_col (j := 3) (by decide), st_col (j := 3) (by decide), st_col (j := 3) (by decide)]
  refine ⟨h0, ?_, h3⟩
  by_cases e : k = i
  · subst e
    rw [st_eq, if_pos rfl]
    exact ⟨0, by omega, rfl⟩
  · rw [st_ne e, st_ne e, st_ne e]
    exact h2
theorem inv_tie {n i : Nat} {B : Nat → Nat → Int32} {ti : Int32} (h : BInv n B) : BInv n (tieB B i ti) := by
  have key : ∀ j, j < 4 → ∀ k, tieB B i ti j k = B j k := by
    intro j hj k
    unfold tieB
    rw [st_col (by omega), st_col (by omega), st_col (by omega), st_col (by omega)]
  exact h.same (key 0 (by omega)) (key 2 (by omega)) (key 3 (by omega))
theorem inv_barge {nb : Nat} {G : Nat → Nat → Int32} {p1 : Int32} (h : GInv nb G) (q0 : ¬ p1 < 0) (q1 : p1 ≤ 30) : GInv (nb + 1) (addG G nb p1) := by
  intro k hk
  by_cases e : k = nb
  · subst e
    have e0 : addG G k p1 0 k = p1 := by unfold addG; rw [st_col (by decide), st_eq, if_pos rfl]
    have e1 : addG G k p1 1 k = -1 := by unfold addG; rw [st_eq, if_pos rfl]
    rw [e0, e1]
    exact ⟨in30 q0 q1, Or.inl rfl⟩
  · unfold addG
    rw [st_ne e, st_ne e, st_ne e, st_ne e]
    exact h k (by omega)
theorem inv_sail {nb i : Nat} {G : Nat → Nat → Int32} {p1 : Int32} (h : GInv nb G) (q0 : ¬ p1 < 0) (q1 : p1 ≤ 30) : GInv nb (sendG G i p1) := by
  intro k hk
  obtain ⟨h0, h1⟩ := h k hk
  unfold sendG
  rw [st_col (j := 0) (by decide)]
  refine ⟨h0, ?_⟩
  by_cases e : k = i
  · subst e
    rw [st_eq, if_pos rfl]
    by_cases c : sendW G k p1 = 0
    · rw [if_pos c]; exact Or.inl rfl
    · rw [if_neg c]; exact Or.inr (in30 q0 q1)
  · rw [st_ne e]
    exact h1
theorem inv_loadB {n k j : Nat} {B G : Nat → Nat → Int32} (h : BInv n B) : BInv n (ldB B G k j) := by
  have key : ∀ i, i < 4 → ∀ m, ldB B G k j i m = B i m := by
    intro i hi m
    unfold ldB
    rw [st_col (by omega), st_col (by omega)]
  exact h.same (key 0 (by omega)) (key 2 (by omega)) (key 3 (by omega))
theorem inv_loadG {nb k j : Nat} {B G : Nat → Nat → Int32} (h : GInv nb G) : GInv nb (ldG B G k j) := by
  have key : ∀ i, i < 2 → ∀ m, ldG B G k j i m = G i m := by
    intro i hi m
    unfold ldG
    rw [st_col (by omega), st_col (by omega)]
  exact h.same (key 0 (by omega)) (key 1 (by omega))
theorem inv_sell {nb k j : Nat} {G : Nat → Nat → Int32} {T : Nat → Int32} (h : GInv nb G) : GInv nb (sellG G T k j) := by
  have key : ∀ i, i < 2 → ∀ m, sellG G T k j i m = G i m := by
    intro i hi m
    unfold sellG
    rw [st_col (by omega), st_col (by omega), st_col (by omega)]
  exact h.same (key 0 (by omega)) (key 1 (by omega))
/-- the sum of what stands -/
theorem sum_inv {n : Nat} {B : Nat → Nat → Int32} (h : BInv n B) : ∀ m, m ≤ n → ∃ S, S ≤ 100 * m ∧ sumF (B 3) m = nI S := by
  intro m
  induction m with
  | zero => intro _; exact ⟨0, Nat.le_refl _, rfl⟩
  | succ m ih =>
    intro hm
    obtain ⟨S, h1, h2⟩ := ih (by omega)
    obtain ⟨j, h3, h4⟩ := (h m (by omega)).2.2
    refine ⟨S + j, by omega, ?_⟩
    show sumF (B 3) m + B 3 m = _
    rw [h2, h4, nI_add]
set_option maxRecDepth 100000 in
set_option maxHeartbeats 4000000 in
theorem nan_1 : ∀ S : Fin 101, FP.ddiv (FP.i2d (nI S.val)) (FP.i2d (nI 1)) &&& 0x7fffffffffffffff ≤ 0x7ff0000000000000 := by decide +kernel
set_option maxRecDepth 100000 in
set_option maxHeartbeats 4000000 in
theorem nan_2 : ∀ S : Fin 201, FP.ddiv (FP.i2d (nI S.val)) (FP.i2d (nI 2)) &&& 0x7fffffffffffffff ≤ 0x7ff0000000000000 := by decide +kernel
set_option maxRecDepth 100000 in
set_option maxHeartbeats 4000000 in
theorem nan_3 : ∀ S : Fin 301, FP.ddiv (FP.i2d (nI S.val)) (FP.i2d (nI 3)) &&& 0x7fffffffffffffff ≤ 0x7ff0000000000000 := by decide +kernel
set_option maxRecDepth 100000 in
set_option maxHeartbeats 4000000 in
theorem nan_4 : ∀ S : Fin 401, FP.ddiv (FP.i2d (nI S.val)) (FP.i2d (nI 4)) &&& 0x7fffffffffffffff ≤ 0x7ff0000000000000 := by decide +kernel
set_option maxRecDepth 100000 in
set_option maxHeartbeats 4000000 in
theorem nan_5 : ∀ S : Fin 501, FP.ddiv (FP.i2d (nI S.val)) (FP.i2d (nI 5)) &&& 0x7fffffffffffffff ≤ 0x7ff0000000000000 := by decide +kernel
set_option maxRecDepth 100000 in
set_option maxHeartbeats 4000000 in
theorem nan_6 : ∀ S : Fin 601, FP.ddiv (FP.i2d (nI S.val)) (FP.i2d (nI 6)) &&& 0x7fffffffffffffff ≤ 0x7ff0000000000000 := by decide +kernel
set_option maxRecDepth 100000 in
set_option maxHeartbeats 4000000 in
theorem nan_7 : ∀ S : Fin 701, FP.ddiv (FP.i2d (nI S.val)) (FP.i2d (nI 7)) &&& 0x7fffffffffffffff ≤ 0x7ff0000000000000 := by decide +kernel
set_option maxRecDepth 100000 in
set_option maxHeartbeats 4000000 in
theorem nan_8 : ∀ S : Fin 801, FP.ddiv (FP.i2d (nI S.val)) (FP.i2d (nI 8)) &&& 0x7fffffffffffffff ≤ 0x7ff0000000000000 := by decide +kernel
theorem mean_nan {n : Nat} {B : Nat → Nat → Int32} (hn : n ≤ 8) (h : BInv n B) : n ≠ 0 → vf_n64 (FP.ddiv (FP.i2d (sumF (B 3) n)) (FP.i2d (nI n))) := by
  intro h0
  obtain ⟨S, h1, h2⟩ := sum_inv h n (Nat.le_refl n)
  rw [h2]
  unfold vf_n64
  rcases (show n = 1 ∨ n = 2 ∨ n = 3 ∨ n = 4 ∨ n = 5 ∨ n = 6 ∨ n = 7 ∨ n = 8 by omega) with rfl | rfl | rfl | rfl | rfl | rfl | rfl | rfl
  · exact nan_1 ⟨S, by omega⟩
  · exact nan_2 ⟨S, by omega⟩
  · exact nan_3 ⟨S, by omega⟩
  · exact nan_4 ⟨S, by omega⟩
  · exact nan_5 ⟨S, by omega⟩
  · exact nan_6 ⟨S, by omega⟩
  · exact nan_7 ⟨S, by omega⟩
  · exact nan_8 ⟨S, by omega⟩
