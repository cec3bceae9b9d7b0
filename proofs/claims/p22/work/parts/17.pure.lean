/-! 17: what the property says, in numbers -/
theorem t_add {a b : Int32} (h1 : -2147483648 ≤ a.toInt + b.toInt) (h2 : a.toInt + b.toInt < 2147483648) : (a + b).toInt = a.toInt + b.toInt := by
  rw [Int32.toInt_add]
  exact Int.bmod_eq_of_le (m := 4294967296) (by omega) (by omega)
theorem t_sub {a b : Int32} (h1 : -2147483648 ≤ a.toInt - b.toInt) (h2 : a.toInt - b.toInt < 2147483648) : (a - b).toInt = a.toInt - b.toInt := by
  rw [Int32.toInt_sub]
  exact Int.bmod_eq_of_le (m := 4294967296) (by omega) (by omega)
theorem t_mul {a b : Int32} (h1 : -2147483648 ≤ a.toInt * b.toInt) (h2 : a.toInt * b.toInt < 2147483648) : (a * b).toInt = a.toInt * b.toInt := by
  rw [Int32.toInt_mul]
  exact Int.bmod_eq_of_le (m := 4294967296) (by omega) (by omega)
theorem t_div {a b : Int32} {c : Int} (hb : b.toInt = c) (hc : 0 < c) (ha : 0 ≤ a.toInt) : (a / b).toInt = a.toInt / c := by
  have hne : b ≠ -1 := by
    intro q
    rw [q] at hb
    have e : (-1 : Int32).toInt = -1 := by decide
    omega
  rw [Int32.toInt_div_of_ne_right a b hne, hb, Int.tdiv_eq_ediv_of_nonneg ha]
theorem t_min (a b : Int32) : (imin a b).toInt = min a.toInt b.toInt := by
  unfold imin
  by_cases h : b < a
  · rw [if_pos h]
    have := Int32.lt_iff_toInt_lt.mp h
    omega
  · rw [if_neg h]
    have := Int32.le_iff_toInt_le.mp (Int32.not_lt.mp h)
    omega
theorem t_max (a b : Int32) : (imax a b).toInt = max a.toInt b.toInt := by
  unfold imax
  by_cases h : a < b
  · rw [if_pos h]
    have := Int32.lt_iff_toInt_lt.mp h
    omega
  · rw [if_neg h]
    have := Int32.le_iff_toInt_le.mp (Int32.not_lt.mp h)
    omega
theorem t_n0 : (0 : Int32).toInt = 0 := by decide
theorem t_n1 : (1 : Int32).toInt = 1 := by decide
theorem t_m1 : (-1 : Int32).toInt = -1 := by decide
theorem t_n5 : (5 : Int32).toInt = 5 := by decide
theorem t_m5 : (-5 : Int32).toInt = -5 := by decide
theorem t_n9 : (9 : Int32).toInt = 9 := by decide
theorem t_n19 : (19 : Int32).toInt = 19 := by decide
theorem t_n100 : (100 : Int32).toInt = 100 := by decide
theorem t_n150 : (150 : Int32).toInt = 150 := by decide
theorem t_nlt {a b : Int32} (h : b.toInt ≤ a.toInt) : ¬ a < b := fun q => by
  have := Int32.lt_iff_toInt_lt.mp q
  omega
theorem t_le {a b : Int32} (h : a.toInt ≤ b.toInt) : a ≤ b := Int32.le_iff_toInt_le.mpr h
theorem t_nn {x : Int32} (h : ¬ x < 0) : 0 ≤ x.toInt := by
  have h1 := Int32.le_iff_toInt_le.mp (Int32.not_lt.mp h)
  rw [t_n0] at h1
  exact h1
theorem t_nI {x : Int32} {n : Nat} (h0 : 0 ≤ x.toInt) (h1 : x.toInt ≤ n) : ∃ j : Nat, j ≤ n ∧ x = nI j := by
  have hn : ¬ x < 0 := t_nlt (by rw [t_n0]; exact h0)
  obtain ⟨j, hj, e⟩ := nI_of hn
  refine ⟨j, ?_, e⟩
  rw [e, nI_toInt hj] at h1
  omega
theorem t_tenth {x : Int32} (h0 : 0 ≤ x.toInt) (h1 : x.toInt ≤ 1000000) : (tenth x).toInt = (x.toInt + 9) / 10 := by
  unfold tenth
  have c9 := t_n9
  have e : (x + 9).toInt = x.toInt + 9 := by rw [t_add (by omega) (by omega), c9]
  rw [t_div (c := 10) (by decide) (by decide) (by omega), e]
theorem t_twent {x : Int32} (h0 : 0 ≤ x.toInt) (h1 : x.toInt ≤ 1000000) : (twent x).toInt = (x.toInt + 19) / 20 := by
  unfold twent
  have c9 := t_n19
  have e : (x + 19).toInt = x.toInt + 19 := by rw [t_add (by omega) (by omega), c9]
  rw [t_div (c := 20) (by decide) (by decide) (by omega), e]
/-- a bed's figures, a barge's figures -/
def bO (x0 x1 x2 x3 x4 x5 x6 x7 : Int32) : Prop := (0 ≤ x0.toInt ∧ x0.toInt ≤ 30) ∧ (1 ≤ x1.toInt ∧ x1.toInt ≤ 9) ∧ (0 ≤ x2.toInt ∧ x2.toInt ≤ 9) ∧ (0 ≤ x3.toInt ∧ x3.toInt ≤ 100) ∧ 0 ≤ x4.toInt ∧ 0 ≤ x5.toInt ∧ 0 ≤ x6.toInt ∧ 0 ≤ x7.toInt
def gO (x0 x1 x2 x3 : Int32) : Prop := (0 ≤ x0.toInt ∧ x0.toInt ≤ 30) ∧ (x1.toInt = -1 ∨ (0 ≤ x1.toInt ∧ x1.toInt ≤ 30 ∧ x1.toInt ≠ x0.toInt)) ∧ 0 ≤ x2.toInt ∧ 0 ≤ x3.toInt ∧ x2.toInt + x3.toInt ≤ 150
def bOk (B : Nat → Nat → Int32) (k : Nat) : Prop := bO (B 0 k) (B 1 k) (B 2 k) (B 3 k) (B 4 k) (B 5 k) (B 6 k) (B 7 k)
def gOk (G : Nat → Nat → Int32) (k : Nat) : Prop := gO (G 0 k) (G 1 k) (G 2 k) (G 3 k)
def bs (B : Nat → Nat → Int32) (k : Nat) : Int := (B 4 k).toInt + (B 5 k).toInt + (B 6 k).toInt + (B 7 k).toInt
def ab (G : Nat → Nat → Int32) (k : Nat) : Int := (G 2 k).toInt + (G 3 k).toInt
def tot (B G : Nat → Nat → Int32) (T : Nat → Int32) (ro : Int32) : Int := (bs B 0 + bs B 1 + bs B 2 + bs B 3) + (ab G 0 + ab G 1) + ((T 0).toInt + (T 1).toInt + (T 2).toInt) + ro.toInt
/-- the bounds, and what there is of what was cut -/
def PS (cu : Int) (ro : Int32) (B G : Nat → Nat → Int32) (T : Nat → Int32) : Prop := (∀ k, k < 4 → bOk B k) ∧ (∀ k, k < 2 → gOk G k) ∧ (∀ j, j < 3 → 0 ≤ (T j).toInt) ∧ 0 ≤ ro.toInt ∧ tot B G T ro ≤ cu
theorem bOk.s {B : Nat → Nat → Int32} {k : Nat} (h : bOk B k) : 0 ≤ bs B k := by
  obtain ⟨-, -, -, -, a, b, c, d⟩ := h
  unfold bs
  omega
theorem gOk.s {G : Nat → Nat → Int32} {k : Nat} (h : gOk G k) : 0 ≤ ab G k := by
  obtain ⟨-, -, a, b, c⟩ := h
  unfold ab
  omega
theorem PS.le {cu : Int} {ro : Int32} {B G : Nat → Nat → Int32} {T : Nat → Int32} (h : PS cu ro B G T) : (∀ k, k < 4 → bs B k ≤ cu) ∧ (∀ k, k < 2 → ab G k ≤ cu) ∧ (∀ j, j < 3 → (T j).toInt ≤ cu) ∧ ro.toInt ≤ cu := by
  obtain ⟨h1, h2, h3, h4, h5⟩ := h
  have a0 := (h1 0 (by omega)).s
  have a1 := (h1 1 (by omega)).s
  have a2 := (h1 2 (by omega)).s
  have a3 := (h1 3 (by omega)).s
  have g0 := (h2 0 (by omega)).s
  have g1 := (h2 1 (by omega)).s
  have t0 := h3 0 (by omega)
  have t1 := h3 1 (by omega)
  have t2 := h3 2 (by omega)
  unfold tot at h5
  refine ⟨fun k hk => ?_, fun k hk => ?_, fun j hj => ?_, by omega⟩
  · rcases (show k = 0 ∨ k = 1 ∨ k = 2 ∨ k = 3 by omega) with rfl | rfl | rfl | rfl <;> omega
  · rcases (show k = 0 ∨ k = 1 by omega) with rfl | rfl <;> omega
  · rcases (show j = 0 ∨ j = 1 ∨ j = 2 by omega) with rfl | rfl | rfl <;> omega
theorem sum4 {f g : Nat → Int} {k : Nat} (hk : k < 4) (h : ∀ i, i ≠ k → f i = g i) : f 0 + f 1 + f 2 + f 3 = g 0 + g 1 + g 2 + g 3 + (f k - g k) := by
  rcases (show k = 0 ∨ k = 1 ∨ k = 2 ∨ k = 3 by omega) with rfl | rfl | rfl | rfl
  · rw [h 1 (by decide), h 2 (by decide), h 3 (by decide)]; omega
  · rw [h 0 (by decide), h 2 (by decide), h 3 (by decide)]; omega
  · rw [h 0 (by decide), h 1 (by decide), h 3 (by decide)]; omega
  · rw [h 0 (by decide), h 1 (by decide), h 2 (by decide)]; omega
theorem sum2 {f g : Nat → Int} {k : Nat} (hk : k < 2) (h : ∀ i, i ≠ k → f i = g i) : f 0 + f 1 = g 0 + g 1 + (f k - g k) := by
  rcases (show k = 0 ∨ k = 1 by omega) with rfl | rfl
  · rw [h 1 (by decide)]; omega
  · rw [h 0 (by decide)]; omega
theorem sum3 {f g : Nat → Int32} {k : Nat} (hk : k < 3) (h : ∀ i, i ≠ k → f i = g i) : (f 0).toInt + (f 1).toInt + (f 2).toInt = (g 0).toInt + (g 1).toInt + (g 2).toInt + ((f k).toInt - (g k).toInt) := by
  rcases (show k = 0 ∨ k = 1 ∨ k = 2 by omega) with rfl | rfl | rfl
  · rw [h 1 (by decide), h 2 (by decide)]; omega
  · rw [h 0 (by decide), h 2 (by decide)]; omega
  · rw [h 0 (by decide), h 1 (by decide)]; omega
/-- what a bed gives -/
theorem given_dec : ∀ s : Fin 10, ∀ a : Fin 10, 0 ≤ (3 * nI s.val * gro (nI a.val)).toInt ∧ (3 * nI s.val * gro (nI a.val)).toInt ≤ 162 := by decide +kernel
theorem given_b {B : Nat → Nat → Int32} {k : Nat} (h : bOk B k) : 0 ≤ (given B k).toInt ∧ (given B k).toInt ≤ 162 := by
  obtain ⟨-, h1, h2, -⟩ := h
  obtain ⟨s, hs, es⟩ := t_nI (n := 9) (x := B 1 k) (by omega) h1.2
  obtain ⟨a, ha, ea⟩ := t_nI (n := 9) (x := B 2 k) h2.1 h2.2
  unfold given
  rw [es, ea]
  exact given_dec ⟨s, by omega⟩ ⟨a, by omega⟩
theorem sgiv_b {B : Nat → Nat → Int32} {k : Nat} (h : bOk B k) : 0 ≤ (sgiv B k).toInt ∧ (sgiv B k).toInt ≤ (given B k).toInt := by
  obtain ⟨g0, g1⟩ := given_b h
  obtain ⟨-, -, -, ⟨y0, y1⟩, -⟩ := h
  have z0 : 0 ≤ (given B k).toInt * (B 3 k).toInt := Int.mul_nonneg g0 y0
  have z1 : (given B k).toInt * (B 3 k).toInt ≤ (given B k).toInt * 100 := Int.mul_le_mul_of_nonneg_left y1 g0
  have e : (given B k * B 3 k).toInt = (given B k).toInt * (B 3 k).toInt := t_mul (by omega) (by omega)
  unfold sgiv
  rw [t_div (c := 100) (by decide) (by decide) (by omega), e]
  omega
section STEPS
variable {cu : Int} {ro ti : Int32} {B G : Nat → Nat → Int32} {T : Nat → Int32} {k j : Nat}
theorem PS.cut (h : PS cu ro B G T) (hc : cu ≤ 2592) (hk : k < 4) : PS (cu + (given B k).toInt) ro (cutB B k) G T := by
  have hb := h.1 k hk
  obtain ⟨q1, q2, q3, q4⟩ := h.le
  have gb := given_b hb
  have sb := sgiv_b hb
  have ne : ∀ i, i ≠ k → ∀ j, cutB B k j i = B j i := fun i hi j => by unfold cutB; rw [st_ne hi, st_ne hi, st_ne hi]
  have e : ∀ j, j ≠ 2 → j ≠ 4 → j ≠ 5 → cutB B k j k = B j k := fun j h2 h4 h5 => by unfold cutB; rw [st_col h2, st_col h5, st_col h4]
  have e2 : cutB B k 2 k = 0 := by unfold cutB; rw [st_eq, if_pos rfl]
  have e4 : cutB B k 4 k = B 4 k + sgiv B k := by unfold cutB; rw [st_col (by decide), st_col (by decide), st_eq, if_pos rfl]
  have e5 : cutB B k 5 k = B 5 k + (given B k - sgiv B k) := by unfold cutB; rw [st_col (by decide), st_eq, if_pos rfl]
  obtain ⟨p0, p1, p2, p3, n4, n5, n6, n7⟩ := id hb
  have q := q1 k hk
  unfold bs at q
  have t4 : (B 4 k + sgiv B k).toInt = (B 4 k).toInt + (sgiv B k).toInt := t_add (by omega) (by omega)
  have t5a : (given B k - sgiv B k).toInt = (given B k).toInt - (sgiv B k).toInt := t_sub (by omega) (by omega)
  have t5 : (B 5 k + (given B k - sgiv B k)).toInt = (B 5 k).toInt + ((given B k).toInt - (sgiv B k).toInt) := by rw [t_add (by omega) (by omega), t5a]
  have c0 := t_n0
  have key : bOk (cutB B k) k := by
    show bO (cutB B k 0 k) (cutB B k 1 k) (cutB B k 2 k) (cutB B k 3 k) (cutB B k 4 k) (cutB B k 5 k) (cutB B k 6 k) (cutB B k 7 k)
    rw [e 0 (by decide) (by decide) (by decide), e 1 (by decide) (by decide) (by decide), e2, e 3 (by decide) (by decide) (by decide), e4, e5, e 6 (by decide) (by decide) (by decide), e 7 (by decide) (by decide) (by decide)]
    exact ⟨p0, p1, ⟨by omega, by omega⟩, p3, by omega, by omega, n6, n7⟩
  refine ⟨fun i hi => ?_, h.2.1, h.2.2.1, h.2.2.2.1, ?_⟩
  · by_cases ei : i = k
    · rw [ei]; exact key
    · show bO (cutB B k 0 i) (cutB B k 1 i) (cutB B k 2 i) (cutB B k 3 i) (cutB B k 4 i) (cutB B k 5 i) (cutB B k 6 i) (cutB B k 7 i)
      rw [ne i ei 0, ne i ei 1, ne i ei 2, ne i ei 3, ne i ei 4, ne i ei 5, ne i ei 6, ne i ei 7]
      exact h.1 i hi
  · have s4 := sum4 (f := bs (cutB B k)) (g := bs B) hk (fun i hi => by unfold bs; rw [ne i hi 4, ne i hi 5, ne i hi 6, ne i hi 7])
    have bk : bs (cutB B k) k = bs B k + (given B k).toInt := by
      unfold bs
      rw [e4, e5, e 6 (by decide) (by decide) (by decide), e 7 (by decide) (by decide) (by decide), t4, t5]
      omega
    have h5 := h.2.2.2.2
    unfold tot at h5 ⊢
    omega
theorem PS.tie (h : PS cu ro B G T) (hc : cu ≤ 2592) (hk : k < 4) (ht : 0 ≤ ti.toInt) : PS cu ro (tieB B k ti) G T ∧ 0 ≤ (ti - (tieS B k ti + tieR B k ti)).toInt := by
  have hb := h.1 k hk
  obtain ⟨q1, q2, q3, q4⟩ := h.le
  have ne : ∀ i, i ≠ k → ∀ j, tieB B k ti j i = B j i := fun i hi j => by unfold tieB; rw [st_ne hi, st_ne hi, st_ne hi, st_ne hi]
  have e : ∀ j, j < 4 → tieB B k ti j k = B j k := fun j h4 => by unfold tieB; rw [st_col (by omega), st_col (by omega), st_col (by omega), st_col (by omega)]
  have e4 : tieB B k ti 4 k = B 4 k - tieS B k ti := by unfold tieB; rw [st_col (by decide), st_col (by decide), st_col (by decide), st_eq, if_pos rfl]
  have e5 : tieB B k ti 5 k = B 5 k - tieR B k ti := by unfold tieB; rw [st_col (by decide), st_col (by decide), st_eq, if_pos rfl]
  have e6 : tieB B k ti 6 k = B 6 k + tieS B k ti := by unfold tieB; rw [st_col (by decide), st_eq, if_pos rfl]
  have e7 : tieB B k ti 7 k = B 7 k + tieR B k ti := by unfold tieB; rw [st_eq, if_pos rfl]
  obtain ⟨p0, p1, p2, p3, n4, n5, n6, n7⟩ := id hb
  have q := q1 k hk
  unfold bs at q
  have hti := Int32.toInt_lt ti
  have tS : (tieS B k ti).toInt = min (B 4 k).toInt ti.toInt := t_min _ _
  have tS1 : (ti - tieS B k ti).toInt = ti.toInt - (tieS B k ti).toInt := t_sub (by omega) (by omega)
  have tR : (tieR B k ti).toInt = min (B 5 k).toInt (ti - tieS B k ti).toInt := t_min _ _
  have t4 : (B 4 k - tieS B k ti).toInt = (B 4 k).toInt - (tieS B k ti).toInt := t_sub (by omega) (by omega)
  have t5 : (B 5 k - tieR B k ti).toInt = (B 5 k).toInt - (tieR B k ti).toInt := t_sub (by omega) (by omega)
  have t6 : (B 6 k + tieS B k ti).toInt = (B 6 k).toInt + (tieS B k ti).toInt := t_add (by omega) (by omega)
  have t7 : (B 7 k + tieR B k ti).toInt = (B 7 k).toInt + (tieR B k ti).toInt := t_add (by omega) (by omega)
  have key : bOk (tieB B k ti) k := by
    show bO (tieB B k ti 0 k) (tieB B k ti 1 k) (tieB B k ti 2 k) (tieB B k ti 3 k) (tieB B k ti 4 k) (tieB B k ti 5 k) (tieB B k ti 6 k) (tieB B k ti 7 k)
    rw [e 0 (by decide), e 1 (by decide), e 2 (by decide), e 3 (by decide), e4, e5, e6, e7]
    exact ⟨p0, p1, p2, p3, by omega, by omega, by omega, by omega⟩
  refine ⟨⟨fun i hi => ?_, h.2.1, h.2.2.1, h.2.2.2.1, ?_⟩, ?_⟩
  · by_cases ei : i = k
    · rw [ei]; exact key
    · show bO (tieB B k ti 0 i) (tieB B k ti 1 i) (tieB B k ti 2 i) (tieB B k ti 3 i) (tieB B k ti 4 i) (tieB B k ti 5 i) (tieB B k ti 6 i) (tieB B k ti 7 i)
      rw [ne i ei 0, ne i ei 1, ne i ei 2, ne i ei 3, ne i ei 4, ne i ei 5, ne i ei 6, ne i ei 7]
      exact h.1 i hi
  · have s4 := sum4 (f := bs (tieB B k ti)) (g := bs B) hk (fun i hi => by unfold bs; rw [ne i hi 4, ne i hi 5, ne i hi 6, ne i hi 7])
    have bk : bs (tieB B k ti) k = bs B k := by
      unfold bs
      rw [e4, e5, e6, e7, t4, t5, t6, t7]
      omega
    have h5 := h.2.2.2.2
    unfold tot at h5 ⊢
    omega
  · have tSR : (tieS B k ti + tieR B k ti).toInt = (tieS B k ti).toInt + (tieR B k ti).toInt := t_add (by omega) (by omega)
    rw [t_sub (by omega) (by omega)]
    omega
theorem PS.load (h : PS cu ro B G T) (hc : cu ≤ 2592) (hk : k < 2) (hj : j < 4) : PS cu ro (ldB B G k j) (ldG B G k j) T ∧ 0 ≤ (ldS B G k j + ldR B G k j).toInt := by
  have hb := h.1 j hj
  have hg := h.2.1 k hk
  obtain ⟨q1, q2, q3, q4⟩ := h.le
  have ne : ∀ i, i ≠ j → ∀ c, ldB B G k j c i = B c i := fun i hi c => by unfold ldB; rw [st_ne hi, st_ne hi]
  have e : ∀ c, c < 6 → ldB B G k j c j = B c j := fun c h4 => by unfold ldB; rw [st_col (by omega), st_col (by omega)]
  have e6 : ldB B G k j 6 j = B 6 j - ldS B G k j := by unfold ldB; rw [st_col (by decide), st_eq, if_pos rfl]
  have e7 : ldB B G k j 7 j = B 7 j - ldR B G k j := by unfold ldB; rw [st_eq, if_pos rfl]
  have gne : ∀ i, i ≠ k → ∀ c, ldG B G k j c i = G c i := fun i hi c => by unfold ldG; rw [st_ne hi, st_ne hi]
  have ge : ∀ c, c < 2 → ldG B G k j c k = G c k := fun c h4 => by unfold ldG; rw [st_col (by omega), st_col (by omega)]
  have g2 : ldG B G k j 2 k = G 2 k + ldS B G k j := by unfold ldG; rw [st_col (by decide), st_eq, if_pos rfl]
  have g3 : ldG B G k j 3 k = G 3 k + ldR B G k j := by unfold ldG; rw [st_eq, if_pos rfl]
  obtain ⟨p0, p1, p2, p3, n4, n5, n6, n7⟩ := id hb
  obtain ⟨r0, r1, m2, m3, m4⟩ := id hg
  have q := q1 j hj
  unfold bs at q
  have c150 := t_n150
  have tA : (abd G k).toInt = (G 2 k).toInt + (G 3 k).toInt := t_add (by omega) (by omega)
  have tF : (150 - abd G k).toInt = 150 - ((G 2 k).toInt + (G 3 k).toInt) := by rw [t_sub (by omega) (by omega), c150, tA]
  have tS : (ldS B G k j).toInt = min (B 6 j).toInt (150 - abd G k).toInt := t_min _ _
  have tF2 : (150 - abd G k - ldS B G k j).toInt = (150 - abd G k).toInt - (ldS B G k j).toInt := t_sub (by omega) (by omega)
  have tR : (ldR B G k j).toInt = min (B 7 j).toInt (150 - abd G k - ldS B G k j).toInt := t_min _ _
  have t6 : (B 6 j - ldS B G k j).toInt = (B 6 j).toInt - (ldS B G k j).toInt := t_sub (by omega) (by omega)
  have t7 : (B 7 j - ldR B G k j).toInt = (B 7 j).toInt - (ldR B G k j).toInt := t_sub (by omega) (by omega)
  have t2 : (G 2 k + ldS B G k j).toInt = (G 2 k).toInt + (ldS B G k j).toInt := t_add (by omega) (by omega)
  have t3 : (G 3 k + ldR B G k j).toInt = (G 3 k).toInt + (ldR B G k j).toInt := t_add (by omega) (by omega)
  have key : bOk (ldB B G k j) j := by
    show bO (ldB B G k j 0 j) (ldB B G k j 1 j) (ldB B G k j 2 j) (ldB B G k j 3 j) (ldB B G k j 4 j) (ldB B G k j 5 j) (ldB B G k j 6 j) (ldB B G k j 7 j)
    rw [e 0 (by decide), e 1 (by decide), e 2 (by decide), e 3 (by decide), e 4 (by decide), e 5 (by decide), e6, e7]
    exact ⟨p0, p1, p2, p3, n4, n5, by omega, by omega⟩
  have gkey : gOk (ldG B G k j) k := by
    show gO (ldG B G k j 0 k) (ldG B G k j 1 k) (ldG B G k j 2 k) (ldG B G k j 3 k)
    rw [ge 0 (by decide), ge 1 (by decide), g2, g3]
    exact ⟨r0, r1, by omega, by omega, by omega⟩
  refine ⟨⟨fun i hi => ?_, fun i hi => ?_, h.2.2.1, h.2.2.2.1, ?_⟩, ?_⟩
  · by_cases ei : i = j
    · rw [ei]; exact key
    · show bO (ldB B G k j 0 i) (ldB B G k j 1 i) (ldB B G k j 2 i) (ldB B G k j 3 i) (ldB B G k j 4 i) (ldB B G k j 5 i) (ldB B G k j 6 i) (ldB B G k j 7 i)
      rw [ne i ei 0, ne i ei 1, ne i ei 2, ne i ei 3, ne i ei 4, ne i ei 5, ne i ei 6, ne i ei 7]
      exact h.1 i hi
  · by_cases ei : i = k
    · rw [ei]; exact gkey
    · show gO (ldG B G k j 0 i) (ldG B G k j 1 i) (ldG B G k j 2 i) (ldG B G k j 3 i)
      rw [gne i ei 0, gne i ei 1, gne i ei 2, gne i ei 3]
      exact h.2.1 i hi
  · have s4 := sum4 (f := bs (ldB B G k j)) (g := bs B) hj (fun i hi => by unfold bs; rw [ne i hi 4, ne i hi 5, ne i hi 6, ne i hi 7])
    have bk : bs (ldB B G k j) j = bs B j - ((ldS B G k j).toInt + (ldR B G k j).toInt) := by
      unfold bs
      rw [e 4 (by decide), e 5 (by decide), e6, e7, t6, t7]
      omega
    have s2 := sum2 (f := ab (ldG B G k j)) (g := ab G) hk (fun i hi => by unfold ab; rw [gne i hi 2, gne i hi 3])
    have gk : ab (ldG B G k j) k = ab G k + ((ldS B G k j).toInt + (ldR B G k j).toInt) := by
      unfold ab
      rw [g2, g3, t2, t3]
      omega
    have h5 := h.2.2.2.2
    unfold tot at h5 ⊢
    omega
  · rw [t_add (by omega) (by omega)]
    omega
theorem PS.sell (h : PS cu ro B G T) (hc : cu ≤ 2592) (hk : k < 2) (hj : j < 3) : PS cu ro B (sellG G T k j) (sellT G T k j) := by
  have hg := h.2.1 k hk
  obtain ⟨q1, q2, q3, q4⟩ := h.le
  have gne : ∀ i, i ≠ k → ∀ c, sellG G T k j c i = G c i := fun i hi c => by unfold sellG; rw [st_ne hi, st_ne hi, st_ne hi]
  have ge : ∀ c, c < 2 → sellG G T k j c k = G c k := fun c h4 => by unfold sellG; rw [st_col (by omega), st_col (by omega), st_col (by omega)]
  have g2 : sellG G T k j 2 k = 0 := by unfold sellG; rw [st_col (by decide), st_col (by decide), st_eq, if_pos rfl]
  have g3 : sellG G T k j 3 k = 0 := by unfold sellG; rw [st_col (by decide), st_eq, if_pos rfl]
  have tne : ∀ i, i ≠ j → sellT G T k j i = T i := fun i hi => if_neg hi
  have te : sellT G T k j j = T j + abd G k := if_pos rfl
  obtain ⟨r0, r1, m2, m3, m4⟩ := id hg
  have tj := q3 j hj
  have tj0 := h.2.2.1 j hj
  have c0 := t_n0
  have tA : (abd G k).toInt = (G 2 k).toInt + (G 3 k).toInt := t_add (by omega) (by omega)
  have tT : (T j + abd G k).toInt = (T j).toInt + ((G 2 k).toInt + (G 3 k).toInt) := by rw [t_add (by omega) (by omega), tA]
  have gkey : gOk (sellG G T k j) k := by
    show gO (sellG G T k j 0 k) (sellG G T k j 1 k) (sellG G T k j 2 k) (sellG G T k j 3 k)
    rw [ge 0 (by decide), ge 1 (by decide), g2, g3]
    exact ⟨r0, r1, by omega, by omega, by omega⟩
  refine ⟨h.1, fun i hi => ?_, fun i hi => ?_, h.2.2.2.1, ?_⟩
  · by_cases ei : i = k
    · rw [ei]; exact gkey
    · show gO (sellG G T k j 0 i) (sellG G T k j 1 i) (sellG G T k j 2 i) (sellG G T k j 3 i)
      rw [gne i ei 0, gne i ei 1, gne i ei 2, gne i ei 3]
      exact h.2.1 i hi
  · by_cases ei : i = j
    · rw [ei, te, tT]; omega
    · rw [tne i ei]; exact h.2.2.1 i hi
  · have s2 := sum2 (f := ab (sellG G T k j)) (g := ab G) hk (fun i hi => by unfold ab; rw [gne i hi 2, gne i hi 3])
    have gk : ab (sellG G T k j) k = 0 := by
      unfold ab
      rw [g2, g3]
      omega
    have ak : ab G k = (G 2 k).toInt + (G 3 k).toInt := rfl
    have s3 := sum3 (f := sellT G T k j) (g := T) hj tne
    rw [te, tT] at s3
    have h5 := h.2.2.2.2
    unfold tot at h5 ⊢
    omega
theorem PS.send (h : PS cu ro B G T) (hk : k < 2) {p : Int32} (p0 : 0 ≤ p.toInt) (p1 : p.toInt ≤ 30) : PS cu ro B (sendG G k p) T := by
  have hg := h.2.1 k hk
  have gne : ∀ i, i ≠ k → ∀ c, sendG G k p c i = G c i := fun i hi c => by unfold sendG; rw [st_ne hi]
  have gc : ∀ c, c ≠ 1 → ∀ i, sendG G k p c i = G c i := fun c hc i => by unfold sendG; rw [st_col hc]
  have g1 : sendG G k p 1 k = if sendW G k p = 0 then -1 else p := by unfold sendG; rw [st_eq, if_pos rfl]
  obtain ⟨r0, r1, m2, m3, m4⟩ := id hg
  have c0 := t_n0
  have gkey : gOk (sendG G k p) k := by
    show gO (sendG G k p 0 k) (sendG G k p 1 k) (sendG G k p 2 k) (sendG G k p 3 k)
    rw [gc 0 (by decide), g1, gc 2 (by decide), gc 3 (by decide)]
    refine ⟨r0, ?_, m2, m3, m4⟩
    by_cases e : sendW G k p = 0
    · rw [if_pos e]; exact Or.inl t_m1
    · rw [if_neg e]
      refine Or.inr ⟨p0, p1, fun q => e ?_⟩
      have q2 : p = G 0 k := Int32.toInt_inj.mp q
      unfold sendW
      rw [q2, Int32.sub_self]
      decide
  refine ⟨h.1, fun i hi => ?_, h.2.2.1, h.2.2.2.1, ?_⟩
  · by_cases ei : i = k
    · rw [ei]; exact gkey
    · show gO (sendG G k p 0 i) (sendG G k p 1 i) (sendG G k p 2 i) (sendG G k p 3 i)
      rw [gne i ei 0, gne i ei 1, gne i ei 2, gne i ei 3]
      exact h.2.1 i hi
  · have h5 := h.2.2.2.2
    have a0 : ab (sendG G k p) 0 = ab G 0 := by unfold ab; rw [gc 2 (by decide), gc 3 (by decide)]
    have a1 : ab (sendG G k p) 1 = ab G 1 := by unfold ab; rw [gc 2 (by decide), gc 3 (by decide)]
    unfold tot at h5 ⊢
    rw [a0, a1]
    exact h5
/-- a day: the barges -/
theorem sailC_no {c : Nat → Int32} (h : c 1 = -1) (j : Nat) : sailC k c j = c j := if_pos h
theorem sailC_1 {c : Nat → Int32} (h : ¬ c 1 = -1) : sailC k c 1 = if goTo c = c 1 then -1 else c 1 := (if_neg h).trans (if_pos rfl)
theorem sailC_0 {c : Nat → Int32} (h : ¬ c 1 = -1) : sailC k c 0 = goTo c := (if_neg h).trans ((if_neg (by decide)).trans (if_pos rfl))
theorem sailC_o {c : Nat → Int32} (h1 : j ≠ 1) (h0 : j ≠ 0) : sailC k c j = c j := by
  by_cases h : c 1 = -1
  · exact sailC_no h j
  · exact (if_neg h).trans ((if_neg h1).trans (if_neg h0))
theorem t_goTo {c : Nat → Int32} (a0 : 0 ≤ (c 0).toInt) (a1 : (c 0).toInt ≤ 30) (b0 : 0 ≤ (c 1).toInt) (b1 : (c 1).toInt ≤ 30) : (goTo c).toInt = (c 0).toInt + max (-5) (min 5 ((c 1).toInt - (c 0).toInt)) := by
  have e1 : (c 1 - c 0).toInt = (c 1).toInt - (c 0).toInt := t_sub (by omega) (by omega)
  have e2 : (imin 5 (c 1 - c 0)).toInt = min 5 ((c 1).toInt - (c 0).toInt) := by rw [t_min, e1, t_n5]
  have e3 : (imax (-5) (imin 5 (c 1 - c 0))).toInt = max (-5) (min 5 ((c 1).toInt - (c 0).toInt)) := by rw [t_max, e2, t_m5]
  unfold goTo
  rw [t_add (by omega) (by omega), e3]
theorem sailG_at (hk : k < 2) : sailG 2 G j k = sailC k (cl_ G k) j := mapC_lt hk
theorem goal_in {c : Nat → Int32} (hc : gO (c 0) (c 1) (c 2) (c 3)) (h : ¬ c 1 = -1) : 0 ≤ (c 1).toInt ∧ (c 1).toInt ≤ 30 := by
  rcases hc.2.1 with q | q
  · exact absurd (Int32.toInt_inj.mp (q.trans t_m1.symm)) h
  · exact ⟨q.1, q.2.1⟩
theorem sail_ok {c : Nat → Int32} (hc : gO (c 0) (c 1) (c 2) (c 3)) : gO (sailC k c 0) (sailC k c 1) (sailC k c 2) (sailC k c 3) := by
  rw [sailC_o (j := 2) (by decide) (by decide), sailC_o (j := 3) (by decide) (by decide)]
  by_cases h : c 1 = -1
  · rw [sailC_no h, sailC_no h]; exact hc
  · obtain ⟨b0, b1⟩ := goal_in hc h
    obtain ⟨⟨a0, a1⟩, -, m2, m3, m4⟩ := hc
    have tg := t_goTo a0 a1 b0 b1
    rw [sailC_0 h, sailC_1 h]
    refine ⟨⟨by omega, by omega⟩, ?_, m2, m3, m4⟩
    by_cases e : goTo c = c 1
    · rw [if_pos e]; exact Or.inl t_m1
    · rw [if_neg e]
      exact Or.inr ⟨b0, b1, fun q => e (Int32.toInt_inj.mp q.symm)⟩
/-- a day: the beds -/
theorem rotC_5 {c : Nat → Int32} : rotC k c 5 = c 5 - tenth (c 5) := if_pos rfl
theorem rotC_4 {c : Nat → Int32} : rotC k c 4 = c 4 - tenth (c 4) := (if_neg (by decide)).trans (if_pos rfl)
theorem rotC_o {c : Nat → Int32} (h5 : j ≠ 5) (h4 : j ≠ 4) : rotC k c j = c j := (if_neg h5).trans (if_neg h4)
theorem yearC_2 {f : Nat → Int32} {c : Nat → Int32} : yearC f k c 2 = imin 9 (c 2 + 1) := if_pos rfl
theorem yearC_3 {f : Nat → Int32} {c : Nat → Int32} : yearC f k c 3 = imax 0 (imin 100 (c 3 + f k)) := (if_neg (by decide)).trans (if_pos rfl)
theorem yearC_o {f : Nat → Int32} {c : Nat → Int32} (h2 : j ≠ 2) (h3 : j ≠ 3) : yearC f k c j = c j := (if_neg h2).trans (if_neg h3)
theorem day_col (hk : k < 4) (dy : Int32) : (∀ j, dayB 4 dy B j k = rotC k (cl_ B k) j) ∨ ∃ f, ∀ j, dayB 4 dy B j k = yearC f k (fun j => rotC k (cl_ B k) j) j := by
  unfold dayB
  split
  · refine Or.inr ⟨chF (rotB 4 B) 4, fun j => ?_⟩
    have e : cl_ (rotB 4 B) k = fun j => rotC k (cl_ B k) j := funext fun j => mapC_lt hk
    have h : yearB 4 (rotB 4 B) j k = yearC (chF (rotB 4 B) 4) k (cl_ (rotB 4 B) k) j := mapC_lt hk
    rw [h, e]
  · exact Or.inl fun j => mapC_lt hk
theorem day_bed (hk : k < 4) (dy : Int32) (hb : bOk B k) (h4 : (B 4 k).toInt ≤ 2592) (h5 : (B 5 k).toInt ≤ 2592) :
    bOk (dayB 4 dy B) k ∧ (dayB 4 dy B 4 k).toInt = (B 4 k).toInt - ((B 4 k).toInt + 9) / 10 ∧ (dayB 4 dy B 5 k).toInt = (B 5 k).toInt - ((B 5 k).toInt + 9) / 10 ∧ dayB 4 dy B 6 k = B 6 k ∧ dayB 4 dy B 7 k = B 7 k ∧ dayB 4 dy B 0 k = B 0 k := by
  obtain ⟨p0, p1, p2, p3, n4, n5, n6, n7⟩ := id hb
  have a4 := t_tenth n4 (by omega)
  have a5 := t_tenth n5 (by omega)
  have e4 : (B 4 k - tenth (B 4 k)).toInt = (B 4 k).toInt - ((B 4 k).toInt + 9) / 10 := by rw [t_sub (by omega) (by omega), a4]
  have e5 : (B 5 k - tenth (B 5 k)).toInt = (B 5 k).toInt - ((B 5 k).toInt + 9) / 10 := by rw [t_sub (by omega) (by omega), a5]
  have r4 : rotC k (cl_ B k) 4 = B 4 k - tenth (B 4 k) := rotC_4
  have r5 : rotC k (cl_ B k) 5 = B 5 k - tenth (B 5 k) := rotC_5
  have ro : ∀ j, j ≠ 5 → j ≠ 4 → rotC k (cl_ B k) j = B j k := fun j h5 h4 => rotC_o h5 h4
  rcases day_col (B := B) hk dy with h | ⟨f, h⟩
  · have hd : bOk (dayB 4 dy B) k := by
      show bO (dayB 4 dy B 0 k) (dayB 4 dy B 1 k) (dayB 4 dy B 2 k) (dayB 4 dy B 3 k) (dayB 4 dy B 4 k) (dayB 4 dy B 5 k) (dayB 4 dy B 6 k) (dayB 4 dy B 7 k)
      rw [h 0, h 1, h 2, h 3, h 4, h 5, h 6, h 7, r4, r5, ro 0 (by decide) (by decide), ro 1 (by decide) (by decide), ro 2 (by decide) (by decide), ro 3 (by decide) (by decide), ro 6 (by decide) (by decide), ro 7 (by decide) (by decide)]
      exact ⟨p0, p1, p2, p3, by omega, by omega, n6, n7⟩
    refine ⟨hd, ?_, ?_, ?_, ?_, ?_⟩
    · rw [h 4, r4, e4]
    · rw [h 5, r5, e5]
    · rw [h 6]; exact ro 6 (by decide) (by decide)
    · rw [h 7]; exact ro 7 (by decide) (by decide)
    · rw [h 0]; exact ro 0 (by decide) (by decide)
  · have y2 : yearC f k (fun j => rotC k (cl_ B k) j) 2 = imin 9 (B 2 k + 1) := by rw [yearC_2, ro 2 (by decide) (by decide)]
    have y3 : yearC f k (fun j => rotC k (cl_ B k) j) 3 = imax 0 (imin 100 (B 3 k + f k)) := by rw [yearC_3, ro 3 (by decide) (by decide)]
    have yo : ∀ j, j ≠ 2 → j ≠ 3 → yearC f k (fun j => rotC k (cl_ B k) j) j = rotC k (cl_ B k) j := fun j h2 h3 => yearC_o h2 h3
    have c9 := t_n9
    have c0 := t_n0
    have c1 := t_n1
    have c100 := t_n100
    have u1 : (B 2 k + 1).toInt = (B 2 k).toInt + 1 := by rw [t_add (by omega) (by omega), c1]
    have u2 : (imin 9 (B 2 k + 1)).toInt = min 9 ((B 2 k).toInt + 1) := by rw [t_min, u1, c9]
    have u3 : (imax 0 (imin 100 (B 3 k + f k))).toInt = max 0 (min 100 (B 3 k + f k).toInt) := by rw [t_max, t_min, c0, c100]
    have hd : bOk (dayB 4 dy B) k := by
      show bO (dayB 4 dy B 0 k) (dayB 4 dy B 1 k) (dayB 4 dy B 2 k) (dayB 4 dy B 3 k) (dayB 4 dy B 4 k) (dayB 4 dy B 5 k) (dayB 4 dy B 6 k) (dayB 4 dy B 7 k)
      rw [h 0, h 1, h 2, h 3, h 4, h 5, h 6, h 7, y2, y3, yo 0 (by decide) (by decide), yo 1 (by decide) (by decide), yo 4 (by decide) (by decide), yo 5 (by decide) (by decide), yo 6 (by decide) (by decide), yo 7 (by decide) (by decide), r4, r5, ro 0 (by decide) (by decide), ro 1 (by decide) (by decide), ro 6 (by decide) (by decide), ro 7 (by decide) (by decide)]
      exact ⟨p0, p1, ⟨by omega, by omega⟩, ⟨by omega, by omega⟩, by omega, by omega, n6, n7⟩
    refine ⟨hd, ?_, ?_, ?_, ?_, ?_⟩
    · rw [h 4, yo 4 (by decide) (by decide), r4, e4]
    · rw [h 5, yo 5 (by decide) (by decide), r5, e5]
    · rw [h 6, yo 6 (by decide) (by decide)]; exact ro 6 (by decide) (by decide)
    · rw [h 7, yo 7 (by decide) (by decide)]; exact ro 7 (by decide) (by decide)
    · rw [h 0, yo 0 (by decide) (by decide)]; exact ro 0 (by decide) (by decide)
theorem t_sum4 {f : Nat → Int32} (h : ∀ k, k < 4 → 0 ≤ (f k).toInt ∧ (f k).toInt ≤ 10000) : (sumF f 4).toInt = (f 0).toInt + (f 1).toInt + (f 2).toInt + (f 3).toInt := by
  have h0 := h 0 (by omega)
  have h1 := h 1 (by omega)
  have h2 := h 2 (by omega)
  have h3 := h 3 (by omega)
  have c0 := t_n0
  have e0 : ((0 : Int32) + f 0).toInt = (f 0).toInt := by rw [t_add (by omega) (by omega)]; omega
  have e1 : ((0 : Int32) + f 0 + f 1).toInt = (f 0).toInt + (f 1).toInt := by rw [t_add (by omega) (by omega), e0]
  have e2 : ((0 : Int32) + f 0 + f 1 + f 2).toInt = (f 0).toInt + (f 1).toInt + (f 2).toInt := by rw [t_add (by omega) (by omega), e1]
  show ((0 : Int32) + f 0 + f 1 + f 2 + f 3).toInt = _
  rw [t_add (by omega) (by omega), e2]
theorem t_sum3 {f : Nat → Int32} (h : ∀ k, k < 3 → 0 ≤ (f k).toInt ∧ (f k).toInt ≤ 10000) : (sumF f 3).toInt = (f 0).toInt + (f 1).toInt + (f 2).toInt := by
  have h0 := h 0 (by omega)
  have h1 := h 1 (by omega)
  have h2 := h 2 (by omega)
  have c0 := t_n0
  have e0 : ((0 : Int32) + f 0).toInt = (f 0).toInt := by rw [t_add (by omega) (by omega)]; omega
  have e1 : ((0 : Int32) + f 0 + f 1).toInt = (f 0).toInt + (f 1).toInt := by rw [t_add (by omega) (by omega), e0]
  show ((0 : Int32) + f 0 + f 1 + f 2).toInt = _
  rw [t_add (by omega) (by omega), e1]
theorem t_sum2 {f : Nat → Int32} (h : ∀ k, k < 2 → 0 ≤ (f k).toInt ∧ (f k).toInt ≤ 10000) : (sumF f 2).toInt = (f 0).toInt + (f 1).toInt := by
  have h0 := h 0 (by omega)
  have h1 := h 1 (by omega)
  have c0 := t_n0
  have e0 : ((0 : Int32) + f 0).toInt = (f 0).toInt := by rw [t_add (by omega) (by omega)]; omega
  show ((0 : Int32) + f 0 + f 1).toInt = _
  rw [t_add (by omega) (by omega), e0]
/-- a day goes by -/
theorem PS.day (h : PS cu ro B G T) (hc : cu ≤ 2592) (dy : Int32) : PS cu (ro + sumF (rotF B) 4) (dayB 4 dy B) (sailG 2 G) (thT T) ∧ ro.toInt ≤ (ro + sumF (rotF B) 4).toInt := by
  obtain ⟨q1, q2, q3, q4⟩ := h.le
  have four : ∀ k, k < 4 → 0 ≤ (B 4 k).toInt ∧ 0 ≤ (B 5 k).toInt ∧ (B 4 k).toInt ≤ 2592 ∧ (B 5 k).toInt ≤ 2592 := fun k hk => by
    obtain ⟨-, -, -, -, n4, n5, n6, n7⟩ := h.1 k hk
    have q := q1 k hk
    unfold bs at q
    exact ⟨n4, n5, by omega, by omega⟩
  have hr : ∀ k, k < 4 → (rotF B k).toInt = ((B 4 k).toInt + 9) / 10 + ((B 5 k).toInt + 9) / 10 := fun k hk => by
    obtain ⟨a, b, c, d⟩ := four k hk
    have a4 := t_tenth a (by omega)
    have a5 := t_tenth b (by omega)
    unfold rotF
    rw [t_add (by omega) (by omega), a4, a5]
  have hbk : ∀ k, k < 4 → bs (dayB 4 dy B) k = bs B k - (rotF B k).toInt := fun k hk => by
    obtain ⟨a, b, c, d⟩ := four k hk
    obtain ⟨-, d4, d5, d6, d7, -⟩ := day_bed hk dy (h.1 k hk) c d
    rw [hr k hk]
    unfold bs
    rw [d4, d5, d6, d7]
    omega
  have hs : (sumF (rotF B) 4).toInt = (rotF B 0).toInt + (rotF B 1).toInt + (rotF B 2).toInt + (rotF B 3).toInt := t_sum4 fun k hk => by
    obtain ⟨a, b, c, d⟩ := four k hk
    rw [hr k hk]
    omega
  have b0 := hbk 0 (by omega)
  have b1 := hbk 1 (by omega)
  have b2 := hbk 2 (by omega)
  have b3 := hbk 3 (by omega)
  have r0 : 0 ≤ (rotF B 0).toInt := by have := four 0 (by omega); rw [hr 0 (by omega)]; omega
  have r1 : 0 ≤ (rotF B 1).toInt := by have := four 1 (by omega); rw [hr 1 (by omega)]; omega
  have r2 : 0 ≤ (rotF B 2).toInt := by have := four 2 (by omega); rw [hr 2 (by omega)]; omega
  have r3 : 0 ≤ (rotF B 3).toInt := by have := four 3 (by omega); rw [hr 3 (by omega)]; omega
  have u : ∀ k, k < 4 → (rotF B k).toInt ≤ 1000 := fun k hk => by have := four k hk; rw [hr k hk]; omega
  have u0 := u 0 (by omega)
  have u1 := u 1 (by omega)
  have u2 := u 2 (by omega)
  have u3 := u 3 (by omega)
  have hro : (ro + sumF (rotF B) 4).toInt = ro.toInt + ((rotF B 0).toInt + (rotF B 1).toInt + (rotF B 2).toInt + (rotF B 3).toInt) := by
    have := h.2.2.2.1
    rw [t_add (by omega) (by omega), hs]
  have hT : ∀ j, j < 3 → (thT T j).toInt = (T j).toInt - ((T j).toInt + 19) / 20 := fun j hj => by
    have t0 := h.2.2.1 j hj
    have t1 := q3 j hj
    have tw := t_twent t0 (by omega)
    rw [thT_at hj]
    unfold lft
    rw [t_sub (by omega) (by omega), tw]
  have t0 := hT 0 (by omega)
  have t1 := hT 1 (by omega)
  have t2 := hT 2 (by omega)
  have w0 := h.2.2.1 0 (by omega)
  have w1 := h.2.2.1 1 (by omega)
  have w2 := h.2.2.1 2 (by omega)
  have a : ∀ k, k < 2 → ab (sailG 2 G) k = ab G k := fun k hk => by
    unfold ab
    rw [sailG_at hk, sailG_at hk, sailC_o (by decide) (by decide), sailC_o (by decide) (by decide)]
    rfl
  refine ⟨⟨fun k hk => (day_bed hk dy (h.1 k hk) (four k hk).2.2.1 (four k hk).2.2.2).1, fun k hk => ?_, fun j hj => ?_, ?_, ?_⟩, ?_⟩
  · show gO (sailG 2 G 0 k) (sailG 2 G 1 k) (sailG 2 G 2 k) (sailG 2 G 3 k)
    rw [sailG_at hk, sailG_at hk, sailG_at hk, sailG_at hk]
    exact sail_ok (c := cl_ G k) (h.2.1 k hk)
  · have := h.2.2.1 j hj
    rw [hT j hj]
    omega
  · have := h.2.2.2.1
    rw [hro]
    omega
  · have h5 := h.2.2.2.2
    unfold tot at h5 ⊢
    rw [b0, b1, b2, b3, a 0 (by omega), a 1 (by omega), t0, t1, t2, hro]
    omega
  · rw [hro]
    omega
theorem PS.days {x : DS} (h : PS cu x.2.1 x.2.2.1 x.2.2.2.1 x.2.2.2.2) (hc : cu ≤ 2592) : ∀ d, PS cu (daysS 4 2 d x).2.1 (daysS 4 2 d x).2.2.1 (daysS 4 2 d x).2.2.2.1 (daysS 4 2 d x).2.2.2.2 ∧ x.2.1.toInt ≤ (daysS 4 2 d x).2.1.toInt := by
  intro d
  induction d with
  | zero => exact ⟨h, Int.le_refl _⟩
  | succ d ih =>
    obtain ⟨h1, h2⟩ := ih
    obtain ⟨h3, h4⟩ := h1.day hc (daysS 4 2 d x).1
    exact ⟨h3, Int.le_trans h2 h4⟩
theorem place_days {x : DS} (h : PS cu x.2.1 x.2.2.1 x.2.2.2.1 x.2.2.2.2) (hc : cu ≤ 2592) (hk : k < 4) : ∀ d, (daysS 4 2 d x).2.2.1 0 k = x.2.2.1 0 k := by
  intro d
  induction d with
  | zero => rfl
  | succ d ih =>
    have h1 := (h.days hc d).1
    have q := h1.le.1 k hk
    obtain ⟨-, -, -, -, n4, n5, n6, n7⟩ := h1.1 k hk
    unfold bs at q
    have e := (day_bed hk (daysS 4 2 d x).1 (h1.1 k hk) (by omega) (by omega)).2.2.2.2.2
    exact e.trans ih
/-- it comes nearer, day by day -/
def near (p : Int32) (r : Int) (c : Nat → Int32) : Prop := (c 0 = p ∧ c 1 = -1) ∨ (c 1 = p ∧ p.toInt - (c 0).toInt ≤ r ∧ (c 0).toInt - p.toInt ≤ r)
theorem near_step {p : Int32} {r : Int} {c : Nat → Int32} (p0 : 0 ≤ p.toInt) (p1 : p.toInt ≤ 30) (a0 : 0 ≤ (c 0).toInt) (a1 : (c 0).toInt ≤ 30) (h : near p r c) : near p (r - 5) (sailC k c) := by
  rcases h with ⟨h0, h1⟩ | ⟨h1, h2, h3⟩
  · refine Or.inl ⟨?_, ?_⟩
    · rw [sailC_no h1]; exact h0
    · rw [sailC_no h1]; exact h1
  · have hn : ¬ c 1 = -1 := fun q => by
      have m1 := t_m1
      rw [← q, h1] at m1
      omega
    have tg := t_goTo (c := c) a0 a1 (by rw [h1]; exact p0) (by rw [h1]; exact p1)
    rw [h1] at tg
    by_cases e : goTo c = c 1
    · refine Or.inl ⟨?_, ?_⟩
      · rw [sailC_0 hn, e, h1]
      · rw [sailC_1 hn, if_pos e]
    · refine Or.inr ⟨?_, ?_⟩
      · rw [sailC_1 hn, if_neg e, h1]
      · have e2 : (goTo c).toInt ≠ p.toInt := fun q => e ((Int32.toInt_inj.mp q).trans h1.symm)
        rw [sailC_0 hn]
        omega
theorem near_days {x : DS} {p : Int32} (h : PS cu x.2.1 x.2.2.1 x.2.2.2.1 x.2.2.2.2) (hc : cu ≤ 2592) (hk : k < 2) (p0 : 0 ≤ p.toInt) (p1 : p.toInt ≤ 30) (hn : near p 30 (cl_ x.2.2.2.1 k)) : ∀ d : Nat, near p (30 - 5 * d) (cl_ (daysS 4 2 d x).2.2.2.1 k) := by
  intro d
  induction d with
  | zero => exact hn
  | succ d ih =>
    obtain ⟨a, -⟩ := (h.days hc d).1.2.1 k hk
    have e : cl_ (daysS 4 2 (d + 1) x).2.2.2.1 k = fun j => sailC k (cl_ (daysS 4 2 d x).2.2.2.1 k) j := funext fun j => sailG_at hk
    have h1 := near_step (k := k) (c := cl_ (daysS 4 2 d x).2.2.2.1 k) p0 p1 a.1 a.2 ih
    rw [e]
    have e2 : (30 - 5 * ((d + 1 : Nat) : Int)) = 30 - 5 * (d : Int) - 5 := by omega
    rw [e2]
    exact h1
theorem arrive {dy p : Int32} (h : PS cu ro B G T) (hc : cu ≤ 2592) (hk : k < 2) (p0 : 0 ≤ p.toInt) (p1 : p.toInt ≤ 30) : (daysS 4 2 7 (dy, ro, B, sendG G k p, T)).2.2.2.1 0 k = p := by
  have h1 : PS cu ro B (sendG G k p) T := h.send hk p0 p1
  obtain ⟨⟨a0, a1⟩, -⟩ := h.2.1 k hk
  have g0 : sendG G k p 0 k = G 0 k := by unfold sendG; rw [st_col (by decide)]
  have g1 : sendG G k p 1 k = if sendW G k p = 0 then -1 else p := by unfold sendG; rw [st_eq, if_pos rfl]
  have hn : near p 30 (cl_ (sendG G k p) k) := by
    by_cases e : sendW G k p = 0
    · refine Or.inl ⟨?_, ?_⟩
      · show sendG G k p 0 k = p
        rw [g0]
        unfold sendW iabs at e
        have c0 := t_n0
        have es : (p - G 0 k).toInt = p.toInt - (G 0 k).toInt := t_sub (by omega) (by omega)
        refine Int32.toInt_inj.mp ?_
        by_cases c : (0 : Int32) ≤ p - G 0 k
        · rw [if_pos c] at e
          rw [e] at es
          omega
        · rw [if_neg c] at e
          have e2 : (0 - (p - G 0 k)).toInt = (0 : Int32).toInt - (p - G 0 k).toInt := t_sub (by omega) (by omega)
          rw [e] at e2
          omega
      · show sendG G k p 1 k = -1
        rw [g1, if_pos e]
    · refine Or.inr ⟨?_, ?_⟩
      · show sendG G k p 1 k = p
        rw [g1, if_neg e]
      · show p.toInt - (sendG G k p 0 k).toInt ≤ 30 ∧ (sendG G k p 0 k).toInt - p.toInt ≤ 30
        rw [g0]
        omega
  have h7 := near_days (x := (dy, ro, B, sendG G k p, T)) h1 hc hk p0 p1 hn 7
  rcases h7 with ⟨q, -⟩ | ⟨-, q1, q2⟩
  · exact q
  · exfalso
    omega
end STEPS
