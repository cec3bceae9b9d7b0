/-! 17b: the state of the law's loop -/
def andN (v : Int32) : Nat := (v &&& 2147483647).toNatClampNeg
theorem and_nn (v : Int32) : ¬ (v &&& 2147483647) < 0 := by
  refine t_nlt ?_
  rw [t_n0]
  refine BitVec.toInt_nonneg_of_msb_false (x := (v &&& 2147483647).toBitVec) ?_
  rw [Int32.toBitVec_and, BitVec.msb_and]
  have e : (2147483647 : Int32).toBitVec.msb = false := by decide
  rw [e, Bool.and_false]
theorem andN_lt (v : Int32) : andN v < 2 ^ 31 := by
  obtain ⟨j, hj, e⟩ := nI_of (and_nn v)
  unfold andN
  rw [e, nI_clamp hj]
  exact hj
theorem andN_eq (v : Int32) : v &&& 2147483647 = nI (andN v) := by
  obtain ⟨j, hj, e⟩ := nI_of (and_nn v)
  unfold andN
  rw [e, nI_clamp hj]
/-- a number below q, as a cell chooses it -/
def bel (v : Int32) (q : Nat) : Nat := andN v % q
theorem bel_lt {v : Int32} {q : Nat} (h : 0 < q) : bel v q < q := Nat.mod_lt _ h
/-- a cell of the script -/
def cellV (sa : Nat × Nat × (Nat → Int32)) (k : Nat) : Int32 := if k < sa.2.1 then sa.2.2 k else nI (461243603 * (k + 3))
theorem t_bel {v : Int32} {q : Nat} (h : 0 < q) (h2 : q < 2 ^ 31) : (nI (bel v q)).toInt = (bel v q : Int) := nI_toInt (Nat.lt_trans (bel_lt h) h2)
theorem t_bel1 {v : Int32} : (nI (1 + bel v 9)).toInt = 1 + (bel v 9 : Int) := by
  have h : bel v 9 < 9 := bel_lt (by decide)
  rw [nI_toInt (by omega)]
  omega
/-- the beds and barges of the start -/
def SB (n : Nat) (B : Nat → Nat → Int32) : Prop := (∀ k, k < n → bOk B k) ∧ ∀ j k, 4 ≤ j → B j k = 0
def SG (nb : Nat) (G : Nat → Nat → Int32) : Prop := (∀ k, k < nb → gOk G k) ∧ ∀ j k, 2 ≤ j → G j k = 0
theorem SB.zero : SB 0 (fun _ _ => 0) := ⟨fun k hk => absurd hk (Nat.not_lt_zero _), fun _ _ _ => rfl⟩
theorem SG.zero : SG 0 (fun _ _ => 0) := ⟨fun k hk => absurd hk (Nat.not_lt_zero _), fun _ _ _ => rfl⟩
theorem SB.add {n : Nat} {B : Nat → Nat → Int32} (h : SB n B) (v1 v2 v3 : Int32) : SB (n + 1) (addB B n (nI (bel v1 31)) (nI (1 + bel v2 9)) (nI (bel v3 101))) := by
  have l1 : bel v1 31 < 31 := bel_lt (by decide)
  have l2 : bel v2 9 < 9 := bel_lt (by decide)
  have l3 : bel v3 101 < 101 := bel_lt (by decide)
  have t1 : (nI (bel v1 31)).toInt = (bel v1 31 : Int) := t_bel (by decide) (by decide)
  have t2 : (nI (1 + bel v2 9)).toInt = 1 + (bel v2 9 : Int) := t_bel1
  have t3 : (nI (bel v3 101)).toInt = (bel v3 101 : Int) := t_bel (by decide) (by decide)
  have c0 := t_n0
  have c3 : (3 : Int32).toInt = 3 := by decide
  generalize nI (bel v1 31) = p1 at *
  generalize nI (1 + bel v2 9) = p2 at *
  generalize nI (bel v3 101) = p3 at *
  have ne : ∀ i, i ≠ n → ∀ j, addB B n p1 p2 p3 j i = B j i := fun i hi j => by unfold addB; rw [st_ne hi, st_ne hi, st_ne hi, st_ne hi]
  have e0 : addB B n p1 p2 p3 0 n = p1 := by unfold addB; rw [st_col (by decide), st_col (by decide), st_col (by decide), st_eq, if_pos rfl]
  have e1 : addB B n p1 p2 p3 1 n = p2 := by unfold addB; rw [st_col (by decide), st_col (by decide), st_eq, if_pos rfl]
  have e2 : addB B n p1 p2 p3 2 n = 3 := by unfold addB; rw [st_col (by decide), st_eq, if_pos rfl]
  have e3 : addB B n p1 p2 p3 3 n = p3 := by unfold addB; rw [st_eq, if_pos rfl]
  have eo : ∀ j, 4 ≤ j → ∀ k, addB B n p1 p2 p3 j k = B j k := fun j hj k => by unfold addB; rw [st_col (by omega), st_col (by omega), st_col (by omega), st_col (by omega)]
  refine ⟨fun k hk => ?_, fun j k hj => ?_⟩
  · by_cases ek : k = n
    · rw [ek]
      show bO (addB B n p1 p2 p3 0 n) (addB B n p1 p2 p3 1 n) (addB B n p1 p2 p3 2 n) (addB B n p1 p2 p3 3 n) (addB B n p1 p2 p3 4 n) (addB B n p1 p2 p3 5 n) (addB B n p1 p2 p3 6 n) (addB B n p1 p2 p3 7 n)
      rw [e0, e1, e2, e3, eo 4 (by decide), eo 5 (by decide), eo 6 (by decide), eo 7 (by decide), h.2 4 n (by decide), h.2 5 n (by decide), h.2 6 n (by decide), h.2 7 n (by decide)]
      exact ⟨⟨by omega, by omega⟩, ⟨by omega, by omega⟩, ⟨by omega, by omega⟩, ⟨by omega, by omega⟩, by omega, by omega, by omega, by omega⟩
    · show bO (addB B n p1 p2 p3 0 k) (addB B n p1 p2 p3 1 k) (addB B n p1 p2 p3 2 k) (addB B n p1 p2 p3 3 k) (addB B n p1 p2 p3 4 k) (addB B n p1 p2 p3 5 k) (addB B n p1 p2 p3 6 k) (addB B n p1 p2 p3 7 k)
      rw [ne k ek 0, ne k ek 1, ne k ek 2, ne k ek 3, ne k ek 4, ne k ek 5, ne k ek 6, ne k ek 7]
      exact h.1 k (by omega)
  · rw [eo j hj]
    exact h.2 j k hj
theorem SG.add {nb : Nat} {G : Nat → Nat → Int32} (h : SG nb G) (v1 : Int32) : SG (nb + 1) (addG G nb (nI (bel v1 31))) := by
  have l1 : bel v1 31 < 31 := bel_lt (by decide)
  have t1 : (nI (bel v1 31)).toInt = (bel v1 31 : Int) := t_bel (by decide) (by decide)
  have c0 := t_n0
  generalize nI (bel v1 31) = p1 at *
  have ne : ∀ i, i ≠ nb → ∀ j, addG G nb p1 j i = G j i := fun i hi j => by unfold addG; rw [st_ne hi, st_ne hi]
  have e0 : addG G nb p1 0 nb = p1 := by unfold addG; rw [st_col (by decide), st_eq, if_pos rfl]
  have e1 : addG G nb p1 1 nb = -1 := by unfold addG; rw [st_eq, if_pos rfl]
  have eo : ∀ j, 2 ≤ j → ∀ k, addG G nb p1 j k = G j k := fun j hj k => by unfold addG; rw [st_col (by omega), st_col (by omega)]
  refine ⟨fun k hk => ?_, fun j k hj => ?_⟩
  · by_cases ek : k = nb
    · rw [ek]
      show gO (addG G nb p1 0 nb) (addG G nb p1 1 nb) (addG G nb p1 2 nb) (addG G nb p1 3 nb)
      rw [e0, e1, eo 2 (by decide), eo 3 (by decide), h.2 2 nb (by decide), h.2 3 nb (by decide)]
      exact ⟨⟨by omega, by omega⟩, Or.inl t_m1, by omega, by omega, by omega⟩
    · show gO (addG G nb p1 0 k) (addG G nb p1 1 k) (addG G nb p1 2 k) (addG G nb p1 3 k)
      rw [ne k ek 0, ne k ek 1, ne k ek 2, ne k ek 3]
      exact h.1 k (by omega)
  · rw [eo j hj]
    exact h.2 j k hj
/-- what holds as a turn begins -/
def GS (i : Nat) (cu co ti ro : Int32) (B G : Nat → Nat → Int32) (T : Nat → Int32) : Prop := PS cu.toInt ro B G T ∧ cu.toInt ≤ 162 * (i : Int) ∧ 0 ≤ ti.toInt ∧ co = 20 + G 4 0 + G 4 1
theorem GS.start {B G : Nat → Nat → Int32} {T : Nat → Int32} (hB : SB 4 B) (hG : SG 2 G) (hT : ∀ j, T j = 0) : GS 0 0 20 100 0 B G T := by
  have c0 := t_n0
  refine ⟨⟨hB.1, hG.1, fun j _ => by rw [hT j, c0]; exact Int.le_refl _, by rw [c0]; exact Int.le_refl _, ?_⟩, by rw [c0]; omega, by decide, ?_⟩
  · unfold tot bs ab
    rw [hB.2 4 0 (by decide), hB.2 4 1 (by decide), hB.2 4 2 (by decide), hB.2 4 3 (by decide), hB.2 5 0 (by decide), hB.2 5 1 (by decide), hB.2 5 2 (by decide), hB.2 5 3 (by decide), hB.2 6 0 (by decide), hB.2 6 1 (by decide), hB.2 6 2 (by decide), hB.2 6 3 (by decide), hB.2 7 0 (by decide), hB.2 7 1 (by decide), hB.2 7 2 (by decide), hB.2 7 3 (by decide), hG.2 2 0 (by decide), hG.2 2 1 (by decide), hG.2 3 0 (by decide), hG.2 3 1 (by decide), hT 0, hT 1, hT 2]
    omega
  · rw [hG.2 4 0 (by decide), hG.2 4 1 (by decide)]
    decide
section GSS
variable {i k j : Nat} {cu co ti ro dy : Int32} {B G : Nat → Nat → Int32} {T : Nat → Int32}
theorem GS.lim (h : GS i cu co ti ro B G T) (hi : i ≤ 16) : cu.toInt ≤ 2592 := by
  have := h.2.1
  omega
theorem GS.cut (h : GS i cu co ti ro B G T) (hi : i < 16) (hk : k < 4) : GS (i + 1) (cu + given B k) co ti ro (cutB B k) G T := by
  have hc := h.lim (by omega)
  have g := given_b (h.1.1 k hk)
  have h5 := h.1.le.2.2.2
  have h6 := h.1.2.2.2.1
  have e : (cu + given B k).toInt = cu.toInt + (given B k).toInt := t_add (by omega) (by omega)
  have h2 := h.2.1
  refine ⟨?_, ?_, h.2.2.1, h.2.2.2⟩
  · rw [e]; exact h.1.cut hc hk
  · rw [e]; omega
theorem GS.next (h : GS i cu co ti ro B G T) : GS (i + 1) cu co ti ro B G T := ⟨h.1, by have := h.2.1; omega, h.2.2⟩
theorem GS.tie (h : GS i cu co ti ro B G T) (hi : i < 16) (hk : k < 4) : GS (i + 1) cu co (ti - (tieS B k ti + tieR B k ti)) ro (tieB B k ti) G T := by
  obtain ⟨a, b⟩ := h.1.tie (h.lim (by omega)) hk h.2.2.1
  exact ⟨a, by have := h.2.1; omega, b, h.2.2.2⟩
theorem GS.days (h : GS i cu co ti ro B G T) (hi : i < 16) (d : Nat) : GS i cu co ti (daysS 4 2 d (dy, ro, B, G, T)).2.1 (daysS 4 2 d (dy, ro, B, G, T)).2.2.1 (daysS 4 2 d (dy, ro, B, G, T)).2.2.2.1 (daysS 4 2 d (dy, ro, B, G, T)).2.2.2.2 := by
  refine ⟨(PS.days (x := (dy, ro, B, G, T)) h.1 (h.lim (by omega)) d).1, h.2.1, h.2.2.1, ?_⟩
  rw [days_G 4 0 (by decide), days_G 4 1 (by decide)]
  exact h.2.2.2
theorem GS.send (h : GS i cu co ti ro B G T) (hk : k < 2) (hj : j < 4) : GS i cu co ti ro B (sendG G k (tellB B j 0)) T := by
  obtain ⟨⟨p0, p1⟩, -⟩ := h.1.1 j hj
  refine ⟨h.1.send hk p0 p1, h.2.1, h.2.2.1, ?_⟩
  have gc : ∀ i, sendG G k (tellB B j 0) 4 i = G 4 i := fun i => by unfold sendG; rw [st_col (by decide)]
  rw [gc 0, gc 1]
  exact h.2.2.2
theorem GS.load (h : GS i cu co ti ro B G T) (hi : i < 16) (hk : k < 2) (hj : j < 4) : GS (i + 1) cu co ti ro (ldB B G k j) (ldG B G k j) T := by
  refine ⟨(h.1.load (h.lim (by omega)) hk hj).1, by have := h.2.1; omega, h.2.2.1, ?_⟩
  have gc : ∀ i, ldG B G k j 4 i = G 4 i := fun i => by unfold ldG; rw [st_col (by decide), st_col (by decide)]
  rw [gc 0, gc 1]
  exact h.2.2.2
theorem GS.load0 (h : GS i cu co ti ro B G T) (hi : i < 16) (hk : k < 2) (hj : j < 4) : 0 ≤ ldS B G k j + ldR B G k j := t_le (by rw [t_n0]; exact (h.1.load (h.lim (by omega)) hk hj).2)
theorem GS.sell (h : GS i cu co ti ro B G T) (hi : i < 16) (hj : j < 3) : GS (i + 1) cu (co + earn G T 0 j) ti ro B (sellG G T 0 j) (sellT G T 0 j) := by
  refine ⟨h.1.sell (h.lim (by omega)) (by decide) hj, by have := h.2.1; omega, h.2.2.1, ?_⟩
  have e0 : sellG G T 0 j 4 0 = G 4 0 + earn G T 0 j := by unfold sellG; rw [st_eq, if_pos rfl]
  have e1 : sellG G T 0 j 4 1 = G 4 1 := by unfold sellG; rw [st_ne (by decide), st_ne (by decide), st_ne (by decide)]
  rw [e0, e1, h.2.2.2, Int32.add_assoc, Int32.add_assoc, Int32.add_assoc, Int32.add_comm (G 4 1) (earn G T 0 j), ← Int32.add_assoc (G 4 0), ← Int32.add_assoc]
theorem GS.rot0 (h : GS i cu co ti ro B G T) (hi : i < 16) (d : Nat) : ¬ (daysS 4 2 d (dy, ro, B, G, T)).2.1 - ro < 0 := by
  have hc := h.lim (by omega)
  obtain ⟨a, b⟩ := PS.days (x := (dy, ro, B, G, T)) h.1 hc d
  have b : ro.toInt ≤ (daysS 4 2 d (dy, ro, B, G, T)).2.1.toInt := b
  have r0 := h.1.2.2.2.1
  have r1 := Int32.toInt_lt (daysS 4 2 d (dy, ro, B, G, T)).2.1
  refine t_nlt ?_
  rw [t_n0, t_sub (by omega) (by omega)]
  omega
theorem GS.arr (h : GS i cu co ti ro B G T) (hi : i < 16) (hk : k < 2) (hj : j < 4) : tellG (daysS 4 2 7 (dy, ro, B, sendG G k (tellB B j 0), T)).2.2.2.1 k 0 = tellB (daysS 4 2 7 (dy, ro, B, sendG G k (tellB B j 0), T)).2.2.1 j 0 := by
  have hc := h.lim (by omega)
  obtain ⟨⟨p0, p1⟩, -⟩ := h.1.1 j hj
  have h1 := arrive (dy := dy) (p := tellB B j 0) h.1 hc hk p0 p1
  have h2 := place_days (x := (dy, ro, B, sendG G k (tellB B j 0), T)) (h.1.send hk p0 p1) hc hj 7
  exact h1.trans h2.symm
/-- what is foreseen -/
def fsee (dy ro : Int32) (B G : Nat → Nat → Int32) (T : Nat → Int32) : Int32 := sumF (untF (daysS 4 2 20 (dy, ro, B, G, T)).2.2.1) 4
def EqB (n : Nat) (B B' : Nat → Nat → Int32) : Prop := ∀ j k, j < 8 → k < n → B j k = B' j k
section EQB
variable {n k : Nat} {B B' : Nat → Nat → Int32}
theorem eqB_given (h : EqB n B B') {k : Nat} (hk : k < n) : given B k = given B' k := by
  unfold given
  rw [h 1 k (by omega) hk, h 2 k (by omega) hk]
theorem eqB_sgiv (h : EqB n B B') {k : Nat} (hk : k < n) : sgiv B k = sgiv B' k := by
  unfold sgiv
  rw [eqB_given h hk, h 3 k (by omega) hk]
theorem eqB_crp (h : EqB n B B') {k : Nat} (hk : k < n) : ∀ i, i ≤ n → crp B k i = crp B' k i := by
  intro i
  induction i with
  | zero => intro _; rfl
  | succ i ih =>
    intro hi
    show (crp B k i || crp1 B k i) = (crp B' k i || crp1 B' k i)
    rw [ih (by omega)]
    unfold crp1
    rw [h 0 i (by omega) (by omega), h 0 k (by omega) hk, h 3 k (by omega) hk, h 3 i (by omega) (by omega)]
theorem eqB_chF (h : EqB n B B') {k : Nat} (hk : k < n) : chF B n k = chF B' n k := by
  unfold chF
  rw [h 2 k (by omega) hk, eqB_crp h hk n (Nat.le_refl _)]
theorem eqB_cl (h : EqB n B B') {j k : Nat} (hj : j < 8) (hk : k < n) : cl_ B k j = cl_ B' k j := h j k hj hk
theorem eqB_year (h : EqB n B B') : EqB n (yearB n B) (yearB n B') := by
  intro j k hj hk
  unfold yearB
  rw [mapC_lt hk, mapC_lt hk]
  unfold yearC
  rw [eqB_cl h (show 2 < 8 by omega) hk, eqB_cl h (show 3 < 8 by omega) hk, eqB_cl h hj hk, eqB_chF h hk]
theorem eqB_rot (h : EqB n B B') : EqB n (rotB n B) (rotB n B') := by
  intro j k hj hk
  unfold rotB
  rw [mapC_lt hk, mapC_lt hk]
  unfold rotC
  rw [eqB_cl h (show 5 < 8 by omega) hk, eqB_cl h (show 4 < 8 by omega) hk, eqB_cl h hj hk]
theorem eqB_day (h : EqB n B B') (dy : Int32) : EqB n (dayB n dy B) (dayB n dy B') := by
  unfold dayB
  split
  · exact eqB_year (eqB_rot h)
  · exact eqB_rot h
theorem sumF_eq {f g : Nat → Int32} : ∀ n, (∀ k, k < n → f k = g k) → sumF f n = sumF g n := by
  intro n
  induction n with
  | zero => intro _; rfl
  | succ n ih =>
    intro h
    show sumF f n + f n = sumF g n + g n
    rw [ih (fun k hk => h k (by omega)), h n (by omega)]
end EQB
/-- the same days gone by -/
def EqD (n : Nat) (x x' : DS) : Prop := x.1 = x'.1 ∧ x.2.1 = x'.2.1 ∧ EqB n x.2.2.1 x'.2.2.1 ∧ ∀ j, j < 3 → x.2.2.2.2 j = x'.2.2.2.2 j
theorem eqD_day {n nb : Nat} {x x' : DS} (h : EqD n x x') : EqD n (dayS n nb x) (dayS n nb x') := by
  obtain ⟨h1, h2, h3, h4⟩ := h
  refine ⟨?_, ?_, ?_, fun j hj => ?_⟩
  · show x.1 + 1 = x'.1 + 1
    rw [h1]
  · show x.2.1 + sumF (rotF x.2.2.1) n = x'.2.1 + sumF (rotF x'.2.2.1) n
    rw [h2, sumF_eq n (fun k hk => show rotF x.2.2.1 k = rotF x'.2.2.1 k from by unfold rotF; rw [h3 4 k (by omega) hk, h3 5 k (by omega) hk])]
  · show EqB n (dayB n x.1 x.2.2.1) (dayB n x'.1 x'.2.2.1)
    rw [← h1]
    exact eqB_day h3 _
  · show thT x.2.2.2.2 j = thT x'.2.2.2.2 j
    rw [thT_at hj, thT_at hj, h4 j hj]
theorem eqD_days {n nb : Nat} {x x' : DS} (h : EqD n x x') : ∀ d, EqD n (daysS n nb d x) (daysS n nb d x') := by
  intro d
  induction d with
  | zero => exact h
  | succ d ih => exact eqD_day ih
theorem fore_eq {B2 G1 : Nat → Nat → Int32} {T2 : Nat → Int32} {w2 w3 w4 w5 : Int32} : tellW w2 w3 w4 w5 4 (daysS 4 2 20 (dy, ro, cpB 4 B B2, G1, cpT T T2)).2.2.1 2 (daysS 4 2 20 (dy, ro, cpB 4 B B2, G1, cpT T T2)).2.2.2.1 (daysS 4 2 20 (dy, ro, cpB 4 B B2, G1, cpT T T2)).2.2.2.2 5 = fsee dy ro B G T := by
  have h0 : EqD 4 (dy, ro, cpB 4 B B2, G1, cpT T T2) (dy, ro, B, G, T) := ⟨rfl, rfl, fun j k hj hk => cpB_at hk hj, fun j hj => cpT_at hj⟩
  obtain ⟨-, -, h3, -⟩ := eqD_days (nb := 2) h0 20
  show sumF (untF _) 4 = sumF (untF _) 4
  exact sumF_eq 4 (fun k hk => by unfold untF; rw [h3 4 k (by decide) hk, h3 5 k (by decide) hk])
/-- what asking answers -/
theorem best_in {n : Nat} : ∀ y, ∃ z : Nat, z ≤ y ∧ (bestS n B k y).2 = nI z := by
  intro y
  induction y with
  | zero => exact ⟨0, Nat.le_refl _, rfl⟩
  | succ y ih =>
    obtain ⟨z, h1, h2⟩ := ih
    by_cases c : sgiv (yearB n (yearsB n y B)) k ≤ (bestS n B k y).1
    · rw [best_le c]; exact ⟨z, by omega, h2⟩
    · rw [best_gt c]; exact ⟨y + 1, Nat.le_refl _, rfl⟩
theorem best_0 {n : Nat} : ¬ (bestS n B k 9).2 < 0 := by
  obtain ⟨z, h1, h2⟩ := best_in (n := n) (B := B) (k := k) 9
  rw [h2]
  exact nI_pos (by omega)
theorem best_9 {n : Nat} : ¬ 9 < (bestS n B k 9).2 := by
  obtain ⟨z, h1, h2⟩ := best_in (n := n) (B := B) (k := k) 9
  rw [h2]
  refine t_nlt ?_
  rw [t_n9, nI_toInt (by omega)]
  omega
theorem adv_in : advF G T k = 0 ∨ advF G T k = 1 ∨ advF G T k = 2 := by
  unfold advF
  split
  · split
    · exact Or.inl rfl
    · exact Or.inr (Or.inr rfl)
  · split
    · exact Or.inr (Or.inl rfl)
    · exact Or.inr (Or.inr rfl)
theorem adv_0 : ¬ advF G T k < 0 := by
  rcases adv_in (G := G) (T := T) (k := k) with h | h | h <;> (rw [h]; decide)
theorem adv_2 : advF G T k ≤ 2 := by
  rcases adv_in (G := G) (T := T) (k := k) with h | h | h <;> (rw [h]; decide)
theorem cmp_0 (d : Int64) : lg_cmp d d = 0 := by
  unfold lg_cmp
  rw [if_neg (Int64.lt_irrefl), if_pos rfl]
theorem bOk.a0 (h : bOk B k) : ¬ tellB B k 0 < 0 := t_nlt (by rw [t_n0]; exact h.1.1)
theorem bOk.a30 (h : bOk B k) : tellB B k 0 ≤ 30 := t_le (show (B 0 k).toInt ≤ (30 : Int32).toInt from h.1.2)
theorem bOk.a2 (h : bOk B k) : ¬ 9 < tellB B k 2 := t_nlt (show (B 2 k).toInt ≤ (9 : Int32).toInt from h.2.2.1.2)
theorem bOk.a3 (h : bOk B k) : ¬ tellB B k 3 < 0 := t_nlt (by rw [t_n0]; exact h.2.2.2.1.1)
theorem bOk.a100 (h : bOk B k) : ¬ 100 < tellB B k 3 := t_nlt (show (B 3 k).toInt ≤ (100 : Int32).toInt from h.2.2.2.1.2)
theorem bOk.a5 (h : bOk B k) : ¬ tellB B k 4 < tellB B k 5 := t_nlt (sgiv_b h).2
theorem bOk.a6 (h : bOk B k) : ¬ tellB B k 6 < 0 := t_nlt (by rw [t_n0]; exact h.2.2.2.2.1)
theorem bOk.a7 (h : bOk B k) : 0 ≤ tellB B k 7 := t_le (by rw [t_n0]; exact h.2.2.2.2.2.1)
theorem bOk.age (h : ¬ tellB B k 2 ≤ 0) : ¬ B 2 k = 0 := fun q => h (by show B 2 k ≤ 0; rw [q]; exact Int32.le_refl _)
theorem gOk.a150 (h : gOk G k) : ¬ 150 < tellG G k 2 + tellG G k 3 := by
  obtain ⟨-, -, a, b, c⟩ := h
  refine t_nlt ?_
  show (G 2 k + G 3 k).toInt ≤ _
  rw [t_add (by omega) (by omega), t_n150]
  exact c
theorem gOk.goal (h : gOk G k) : ¬ tellG G k 1 = tellG G k 0 := by
  obtain ⟨⟨a0, a1⟩, b, -⟩ := h
  intro q
  have q : G 1 k = G 0 k := q
  rw [q] at b
  rcases b with b | b
  · omega
  · exact b.2.2 rfl
theorem gOk.place (h : gOk G k) : ∃ p, p < 31 ∧ G 0 k = nI p := by
  obtain ⟨j, hj, e⟩ := t_nI (n := 30) h.1.1 h.1.2
  exact ⟨j, by omega, e⟩
theorem land_ix (h : ¬ tellG G k 4 < 0) : ∃ j, j < 3 ∧ landAt (G 0 k) = nI j := by
  have h : ¬ landAt (G 0 k) < 0 := h
  unfold landAt at h ⊢
  by_cases c1 : 2 = G 0 k
  · rw [if_pos c1]; exact ⟨0, by decide, rfl⟩
  rw [if_neg c1] at h ⊢
  by_cases c2 : 15 = G 0 k
  · rw [if_pos c2]; exact ⟨1, by decide, rfl⟩
  rw [if_neg c2] at h ⊢
  by_cases c3 : 28 = G 0 k
  · rw [if_pos c3]; exact ⟨2, by decide, rfl⟩
  rw [if_neg c3] at h
  exact absurd (by decide) h
theorem wo_in (j : Nat) : 1 ≤ (woF j).toInt ∧ (woF j).toInt ≤ 14 := by
  unfold woF
  split <;> decide
theorem GS.price (h : GS i cu co ti ro B G T) (hi : i ≤ 16) (hj : j < 3) : 1 ≤ (sPrice T j).toInt ∧ (sPrice T j).toInt ≤ (woF j).toInt := by
  have hc := h.lim hi
  have t0 := h.1.2.2.1 j hj
  have t1 := h.1.le.2.2.1 j hj
  obtain ⟨w0, w1⟩ := wo_in j
  have e1 : (T j / 25).toInt = (T j).toInt / 25 := t_div (c := 25) (by decide) (by decide) t0
  have e2 : (woF j - T j / 25).toInt = (woF j).toInt - (T j).toInt / 25 := by rw [t_sub (by omega) (by omega), e1]
  unfold sPrice
  rw [t_max, e2, t_n1]
  omega
theorem GS.p1 (h : GS i cu co ti ro B G T) (hi : i ≤ 16) (hj : j < 3) : ¬ tellL T j 2 < 1 := t_nlt (by rw [t_n1]; exact (h.price hi hj).1)
theorem GS.pW (h : GS i cu co ti ro B G T) (hi : i ≤ 16) (hj : j < 3) : ¬ woF j < tellL T j 2 := t_nlt (h.price hi hj).2
theorem GS.pR (_ : GS i cu co ti ro B G T) : ¬ tellL T j 3 < 1 := by
  refine t_nlt ?_
  show _ ≤ (imax 1 (sPrice T j / 2)).toInt
  rw [t_max]
  omega
theorem GS.st0 (h : GS i cu co ti ro B G T) (hj : j < 3) : 0 ≤ tellL T j 1 := t_le (by rw [t_n0]; exact h.1.2.2.1 j hj)
theorem GS.there (h : GS i cu co ti ro B G T) (hi : i ≤ 16) {w : Int32} : ¬ cu < tellW w co ti ro 4 B 2 G T 5 + tellW w co ti ro 4 B 2 G T 6 + tellW w co ti ro 4 B 2 G T 8 + tellW w co ti ro 4 B 2 G T 9 + tellW w co ti ro 4 B 2 G T 10 := by
  have hc := h.lim hi
  obtain ⟨q1, q2, q3, q4⟩ := h.1.le
  obtain ⟨h1, h2, h3, h4, h5⟩ := h.1
  have four : ∀ k, k < 4 → (untF B k).toInt = (B 4 k).toInt + (B 5 k).toInt ∧ (tiedF B k).toInt = (B 6 k).toInt + (B 7 k).toInt ∧ 0 ≤ (B 4 k).toInt + (B 5 k).toInt ∧ 0 ≤ (B 6 k).toInt + (B 7 k).toInt ∧ (B 4 k).toInt + (B 5 k).toInt + ((B 6 k).toInt + (B 7 k).toInt) ≤ 2592 := fun k hk => by
    obtain ⟨-, -, -, -, n4, n5, n6, n7⟩ := h1 k hk
    have q := q1 k hk
    unfold bs at q
    unfold untF tiedF
    rw [t_add (by omega) (by omega), t_add (by omega) (by omega)]
    omega
  have two : ∀ k, k < 2 → (abd G k).toInt = (G 2 k).toInt + (G 3 k).toInt ∧ 0 ≤ (G 2 k).toInt + (G 3 k).toInt ∧ (G 2 k).toInt + (G 3 k).toInt ≤ 150 := fun k hk => by
    obtain ⟨-, -, m2, m3, m4⟩ := h2 k hk
    unfold abd
    rw [t_add (by omega) (by omega)]
    omega
  have f0 := four 0 (by decide)
  have f1 := four 1 (by decide)
  have f2 := four 2 (by decide)
  have f3 := four 3 (by decide)
  have g0 := two 0 (by decide)
  have g1 := two 1 (by decide)
  have t0 := h3 0 (by decide)
  have t1 := h3 1 (by decide)
  have t2 := h3 2 (by decide)
  have u0 := q3 0 (by decide)
  have u1 := q3 1 (by decide)
  have u2 := q3 2 (by decide)
  have sU := t_sum4 (f := untF B) (fun k hk => by have := four k hk; omega)
  have sT := t_sum4 (f := tiedF B) (fun k hk => by have := four k hk; omega)
  have sA := t_sum2 (f := abd G) (fun k hk => by have := two k hk; omega)
  have sS := t_sum3 (f := T) (fun k hk => ⟨h3 k hk, by have := q3 k hk; omega⟩)
  refine t_nlt ?_
  show (sumF (untF B) 4 + sumF (tiedF B) 4 + sumF (abd G) 2 + sumF T 3 + ro).toInt ≤ cu.toInt
  have e1 : (sumF (untF B) 4 + sumF (tiedF B) 4).toInt = (sumF (untF B) 4).toInt + (sumF (tiedF B) 4).toInt := t_add (by omega) (by omega)
  have e2 : (sumF (untF B) 4 + sumF (tiedF B) 4 + sumF (abd G) 2).toInt = (sumF (untF B) 4).toInt + (sumF (tiedF B) 4).toInt + (sumF (abd G) 2).toInt := by rw [t_add (by omega) (by omega), e1]
  have e3 : (sumF (untF B) 4 + sumF (tiedF B) 4 + sumF (abd G) 2 + sumF T 3).toInt = (sumF (untF B) 4).toInt + (sumF (tiedF B) 4).toInt + (sumF (abd G) 2).toInt + (sumF T 3).toInt := by rw [t_add (by omega) (by omega), e2]
  rw [t_add (by omega) (by omega), e3]
  unfold tot bs ab at h5
  omega
end GSS
