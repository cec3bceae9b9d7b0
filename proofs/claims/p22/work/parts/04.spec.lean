/-! 04: what the objects are, and what they do, in numbers -/
abbrev wBeds (cA : ClassId) (h : Nat) (u : Nat → Nat) (n : Nat) (B : Nat → Nat → Int32) (ch : Nat → Int32) : va_W := [(h, .inr (1, [.int (nI n), .ref (u 0), .ref (u 1), .ref (u 2), .ref (u 3), .ref (u 4), .ref (u 5), .ref (u 6), .ref (u 7), .ref (u 8)])), (u 0, I_ cA 8 (B 0)), (u 1, I_ cA 8 (B 1)), (u 2, I_ cA 8 (B 2)), (u 3, I_ cA 8 (B 3)), (u 4, I_ cA 8 (B 4)), (u 5, I_ cA 8 (B 5)), (u 6, I_ cA 8 (B 6)), (u 7, I_ cA 8 (B 7)), (u 8, I_ cA 8 ch)]
abbrev wBars (cA : ClassId) (h : Nat) (v : Nat → Nat) (nb : Nat) (G : Nat → Nat → Int32) : va_W := [(h, .inr (0, [.int (nI nb), .ref (v 0), .ref (v 1), .ref (v 2), .ref (v 3), .ref (v 4)])), (v 0, I_ cA 3 (G 0)), (v 1, I_ cA 3 (G 1)), (v 2, I_ cA 3 (G 2)), (v 3, I_ cA 3 (G 3)), (v 4, I_ cA 3 (G 4))]
abbrev wLand (cA : ClassId) (h : Nat) (w : Nat) (T : Nat → Int32) : va_W := [(h, .inr (2, [.ref w])), (w, I_ cA 3 T)]
abbrev oWay (a : Nat → Nat) (dy co ti ro : Int32) : Nat × va_E := (a 0, .inr (3, [.int dy, .int co, .int ti, .int ro, .ref (a 1), .ref (a 2), .ref (a 3)]))
abbrev wWay (cA : ClassId) (a : Nat → Nat) (dy co ti ro : Int32) (u : Nat → Nat) (n : Nat) (B : Nat → Nat → Int32) (ch : Nat → Int32) (v : Nat → Nat) (nb : Nat) (G : Nat → Nat → Int32) (w : Nat) (T : Nat → Int32) : va_W := oWay a dy co ti ro :: (wBeds cA (a 1) u n B ch ++ (wBars cA (a 2) v nb G ++ wLand cA (a 3) w T))
abbrev oX (hx : Nat) (a a2 : Nat → Nat) : Nat × va_E := (hx, .inr (4, [.ref (a 0), .ref (a2 0)]))
abbrev wX (cA : ClassId) (hx : Nat) (a : Nat → Nat) (dy co ti ro : Int32) (u : Nat → Nat) (n : Nat) (B : Nat → Nat → Int32) (ch : Nat → Int32) (v : Nat → Nat) (nb : Nat) (G : Nat → Nat → Int32) (w : Nat) (T : Nat → Int32) (a2 : Nat → Nat) (dy2 co2 ti2 ro2 : Int32) (u2 : Nat → Nat) (n2 : Nat) (B2 : Nat → Nat → Int32) (ch2 : Nat → Int32) (v2 : Nat → Nat) (nb2 : Nat) (G2 : Nat → Nat → Int32) (w2 : Nat) (T2 : Nat → Int32) : va_W := oX hx a a2 :: (wWay cA a dy co ti ro u n B ch v nb G w T ++ wWay cA a2 dy2 co2 ti2 ro2 u2 n2 B2 ch2 v2 nb2 G2 w2 T2)
def st (B : Nat → Nat → Int32) (j k : Nat) (x : Int32) : Nat → Nat → Int32 := va_up B j (upd (B j) k x)
theorem st_ne {B : Nat → Nat → Int32} {j0 i : Nat} {x : Int32} {j k : Nat} (h : k ≠ i) : st B j0 i x j k = B j k := by
  unfold st va_up upd
  by_cases hj : j = j0 <;> simp [hj, h]
theorem st_eq {B : Nat → Nat → Int32} {j0 i : Nat} {x : Int32} {j : Nat} : st B j0 i x j i = if j = j0 then x else B j i := by
  unfold st va_up upd
  by_cases hj : j = j0 <;> simp [hj]
theorem st_col {B : Nat → Nat → Int32} {j0 i : Nat} {x : Int32} {j k : Nat} (h : j ≠ j0) : st B j0 i x j k = B j k := by
  unfold st va_up
  simp [h]
theorem st_colE {B B' : Nat → Nat → Int32} {j0 i : Nat} {x : Int32} {j k : Nat} (e : st B j0 i x = B') (h : j ≠ j0) : B' j k = B j k := by
  rw [← e]; exact st_col h
/-- a map over the columns of the first n beds (barges) -/
def cl_ (B : Nat → Nat → Int32) (k : Nat) : Nat → Int32 := fun j => B j k
def mapC (f : Nat → (Nat → Int32) → Nat → Int32) (n : Nat) (B : Nat → Nat → Int32) : Nat → Nat → Int32 := fun j k => if k < n then f k (cl_ B k) j else B j k
theorem mapC_0 {f : Nat → (Nat → Int32) → Nat → Int32} {B : Nat → Nat → Int32} : mapC f 0 B = B := by
  funext j k
  unfold mapC
  simp
theorem mapC_ge {f : Nat → (Nat → Int32) → Nat → Int32} {B : Nat → Nat → Int32} {n j k : Nat} (h : n ≤ k) : mapC f n B j k = B j k := by
  unfold mapC
  rw [if_neg (by omega)]
theorem mapC_lt {f : Nat → (Nat → Int32) → Nat → Int32} {B : Nat → Nat → Int32} {n j k : Nat} (h : k < n) : mapC f n B j k = f k (cl_ B k) j := by
  unfold mapC
  rw [if_pos h]
theorem mapC_step {f : Nat → (Nat → Int32) → Nat → Int32} {B B' : Nat → Nat → Int32} {i : Nat} (h1 : ∀ j k, k ≠ i → B' j k = mapC f i B j k) (h2 : ∀ j, B' j i = f i (cl_ B i) j) : B' = mapC f (i + 1) B := by
  funext j k
  by_cases hk : k = i
  · subst hk
    rw [h2, mapC_lt (Nat.lt_succ_self _)]
  · rw [h1 j k hk]
    by_cases hl : k < i
    · rw [mapC_lt hl, mapC_lt (by omega)]
    · rw [mapC_ge (by omega), mapC_ge (by omega)]
def sumF (f : Nat → Int32) : Nat → Int32
  | 0 => 0
  | i + 1 => sumF f i + f i
def tenth (x : Int32) : Int32 := (x + 9) / 10
def twent (x : Int32) : Int32 := (x + 19) / 20
def gro (a : Int32) : Int32 := growF a.toNatClampNeg
def given (B : Nat → Nat → Int32) (k : Nat) : Int32 := 3 * B 1 k * gro (B 2 k)
def sgiv (B : Nat → Nat → Int32) (k : Nat) : Int32 := given B k * B 3 k / 100
def landAt (x : Int32) : Int32 := if 2 = x then 0 else if 15 = x then 1 else if 28 = x then 2 else -1
def sPrice (T : Nat → Int32) (k : Nat) : Int32 := imax 1 (woF k - T k / 25)
def rPrice (T : Nat → Int32) (k : Nat) : Int32 := imax 1 (sPrice T k / 2)
def chgA (a : Int32) : Int32 := if 6 ≤ a then -6 else if 1 ≤ a then 2 else 0
def crp1 (B : Nat → Nat → Int32) (k i : Nat) : Bool := decide (iabs (B 0 i - B 0 k) ≤ 4) && decide (30 ≤ B 3 k - B 3 i)
def crp (B : Nat → Nat → Int32) (k : Nat) : Nat → Bool
  | 0 => false
  | i + 1 => crp B k i || crp1 B k i
def chF (B : Nat → Nat → Int32) (n k : Nat) : Int32 := chgA (B 2 k) - (if crp B k n then 3 else 0)
def yearC (f : Nat → Int32) (k : Nat) (c : Nat → Int32) (j : Nat) : Int32 := if j = 2 then imin 9 (c 2 + 1) else if j = 3 then imax 0 (imin 100 (c 3 + f k)) else c j
def yearB (n : Nat) (B : Nat → Nat → Int32) : Nat → Nat → Int32 := mapC (yearC (chF B n)) n B
def rotC (_ : Nat) (c : Nat → Int32) (j : Nat) : Int32 := if j = 5 then c 5 - tenth (c 5) else if j = 4 then c 4 - tenth (c 4) else c j
def rotB (n : Nat) (B : Nat → Nat → Int32) : Nat → Nat → Int32 := mapC rotC n B
def rotF (B : Nat → Nat → Int32) (k : Nat) : Int32 := tenth (B 4 k) + tenth (B 5 k)
def goTo (c : Nat → Int32) : Int32 := c 0 + imax (-5) (imin 5 (c 1 - c 0))
def sailC (_ : Nat) (c : Nat → Int32) (j : Nat) : Int32 := if c 1 = -1 then c j else if j = 1 then (if goTo c = c 1 then -1 else c 1) else if j = 0 then goTo c else c j
def sailG (nb : Nat) (G : Nat → Nat → Int32) : Nat → Nat → Int32 := mapC sailC nb G
def cpC (W : Nat) (S : Nat → Nat → Int32) (k : Nat) (c : Nat → Int32) (j : Nat) : Int32 := if j < W then S j k else c j
def cpB (n : Nat) (B B2 : Nat → Nat → Int32) : Nat → Nat → Int32 := mapC (cpC 8 B) n B2
def cpG (nb : Nat) (G G2 : Nat → Nat → Int32) : Nat → Nat → Int32 := mapC (cpC 5 G) nb G2
def th1 (T : Nat → Int32) : Nat → Int32 := upd T 0 (T 0 - twent (T 0))
def th2 (T : Nat → Int32) : Nat → Int32 := upd (th1 T) 1 (th1 T 1 - twent (th1 T 1))
def thT (T : Nat → Int32) : Nat → Int32 := upd (th2 T) 2 (th2 T 2 - twent (th2 T 2))
def cutB (B : Nat → Nat → Int32) (k : Nat) : Nat → Nat → Int32 := st (st (st B 4 k (B 4 k + sgiv B k)) 5 k (B 5 k + (given B k - sgiv B k))) 2 k 0
def tieS (B : Nat → Nat → Int32) (k : Nat) (ti : Int32) : Int32 := imin (B 4 k) ti
def tieR (B : Nat → Nat → Int32) (k : Nat) (ti : Int32) : Int32 := imin (B 5 k) (ti - tieS B k ti)
def tieB (B : Nat → Nat → Int32) (k : Nat) (ti : Int32) : Nat → Nat → Int32 := st (st (st (st B 4 k (B 4 k - tieS B k ti)) 5 k (B 5 k - tieR B k ti)) 6 k (B 6 k + tieS B k ti)) 7 k (B 7 k + tieR B k ti)
def addB (B : Nat → Nat → Int32) (n : Nat) (p s g : Int32) : Nat → Nat → Int32 := st (st (st (st B 0 n p) 1 n s) 2 n 3) 3 n g
def addG (G : Nat → Nat → Int32) (nb : Nat) (p : Int32) : Nat → Nat → Int32 := st (st G 0 nb p) 1 nb (-1)
def sendW (G : Nat → Nat → Int32) (k : Nat) (p : Int32) : Int32 := iabs (p - G 0 k)
def sendG (G : Nat → Nat → Int32) (k : Nat) (p : Int32) : Nat → Nat → Int32 := st G 1 k (if sendW G k p = 0 then -1 else p)
def sendD (G : Nat → Nat → Int32) (k : Nat) (p : Int32) : Int32 := (sendW G k p + 5 - 1) / 5
def tellB (B : Nat → Nat → Int32) (k w : Nat) : Int32 := match w with
  | 0 => B 0 k
  | 1 => B 1 k
  | 2 => B 2 k
  | 3 => B 3 k
  | 4 => given B k
  | 5 => sgiv B k
  | 6 => B 4 k
  | 7 => B 5 k
  | 8 => B 6 k
  | _ => B 7 k
def tellG (G : Nat → Nat → Int32) (k w : Nat) : Int32 := match w with
  | 0 => G 0 k
  | 1 => G 1 k
  | 2 => G 2 k
  | 3 => G 3 k
  | 4 => landAt (G 0 k)
  | _ => G 4 k
def tellL (T : Nat → Int32) (k w : Nat) : Int32 := match w with
  | 0 => plF k
  | 1 => T k
  | 2 => sPrice T k
  | _ => rPrice T k
def bI (b : Bool) : Int32 := if b then 1 else 0
theorem bI0 {b : Bool} (h : bI b = 0) : b = false := by cases b with
  | false => rfl
  | true => exact absurd h (by decide)
theorem bI1 {b : Bool} (h : ¬ bI b = 0) : b = true := by cases b with
  | false => exact absurd rfl h
  | true => rfl
theorem crp_no {B : Nat → Nat → Int32} {k i : Nat} (h : crp B k i = false) (h1 : 4 < iabs (B 0 i - B 0 k) ∨ B 3 k - B 3 i < 30) : crp B k (i + 1) = false := by
  show (crp B k i || crp1 B k i) = false
  rw [h, Bool.false_or]
  unfold crp1
  rcases h1 with h1 | h1
  · rw [decide_eq_false (Int32.not_le.mpr h1), Bool.false_and]
  · rw [decide_eq_false (p := 30 ≤ _) (Int32.not_le.mpr h1), Bool.and_false]
theorem crp_mono {B : Nat → Nat → Int32} {k i : Nat} (h : crp1 B k i = true) : ∀ n, i < n → crp B k n = true := by
  intro n
  induction n with
  | zero => intro h2; exact absurd h2 (Nat.not_lt_zero _)
  | succ n ih =>
    intro h2
    show (crp B k n || crp1 B k n) = true
    by_cases e : i = n
    · subst e; rw [h, Bool.or_true]
    · rw [ih (by omega), Bool.true_or]
theorem crp_yes {B : Nat → Nat → Int32} {k i n : Nat} (h : i < n) (h1 : ¬ 4 < iabs (B 0 i - B 0 k)) (h2 : ¬ B 3 k - B 3 i < 30) : crp B k n = true := by
  refine crp_mono ?_ n h
  unfold crp1
  rw [decide_eq_true (Int32.not_lt.mp h1), decide_eq_true (Int32.not_lt.mp h2)]
  rfl
theorem gro_in {a : Int32} {k : Nat} (h : a = nI k) (hk : k < 2 ^ 31) : gro a = growF k := by
  subst h
  unfold gro
  rw [nI_clamp hk]
theorem tab_ix {x : Int32} {N : Nat} {M : Int32} (hM : M = nI N) (hN : N < 2 ^ 31) (h0 : ¬ x < 0) (h1 : ¬ M ≤ x) : ∃ j : Nat, j < N ∧ x = nI j := by
  obtain ⟨j, hj, e⟩ := nI_of h0
  refine ⟨j, ?_, e⟩
  subst hM
  subst e
  exact Nat.lt_of_not_le (fun q => h1 ((nI_leI hN hj).mpr q))
theorem gro_hi {x : Int32} (h1 : 10 ≤ x) : gro x = 0 := by
  unfold gro
  have h0 : ¬ x < 0 := fun q => absurd (Int32.lt_of_le_of_lt h1 q) (by decide)
  obtain ⟨j, hj, e⟩ := nI_of h0
  subst e
  rw [nI_clamp hj]
  have h2 : 10 ≤ j := (nI_leI (by decide) hj).mp h1
  unfold growF
  split <;> first | rfl | omega
theorem gro_lo {x : Int32} (h1 : x < 0) : gro x = 0 := by
  unfold gro
  have h2 : x.toNatClampNeg = 0 := by
    unfold Int32.toNatClampNeg
    have h3 : x.toInt < (0 : Int32).toInt := Int32.lt_iff_toInt_lt.mp h1
    have h4 : (0 : Int32).toInt = 0 := by decide
    omega
  rw [h2]
  rfl
theorem ch_step {f g : Nat → Int32} {i : Nat} {x : Int32} (h : ∀ j, j < i → f j = g j) (hx : x = g i) : ∀ j, j < i + 1 → upd f i x j = g j := by
  intro j hj
  unfold upd
  by_cases e : j = i
  · subst e; simp [hx]
  · simp only [e, if_false]; exact h j (by omega)
def untF (B : Nat → Nat → Int32) (k : Nat) : Int32 := B 4 k + B 5 k
def tiedF (B : Nat → Nat → Int32) (k : Nat) : Int32 := B 6 k + B 7 k
def abd (G : Nat → Nat → Int32) (k : Nat) : Int32 := G 2 k + G 3 k
def cpT (T2 T : Nat → Int32) : Nat → Int32 := upd (upd (upd T 0 (T2 0)) 1 (T2 1)) 2 (T2 2)
theorem cp8 {B B2 : Nat → Nat → Int32} {i j : Nat} : (if j = 7 then B2 7 i else if j = 6 then B2 6 i else if j = 5 then B2 5 i else if j = 4 then B2 4 i else if j = 3 then B2 3 i else if j = 2 then B2 2 i else if j = 1 then B2 1 i else if j = 0 then B2 0 i else B j i) = cpC 8 B2 i (cl_ B i) j := by
  unfold cpC cl_
  by_cases h : j < 8
  · rcases (show j = 0 ∨ j = 1 ∨ j = 2 ∨ j = 3 ∨ j = 4 ∨ j = 5 ∨ j = 6 ∨ j = 7 by omega) with rfl | rfl | rfl | rfl | rfl | rfl | rfl | rfl <;> rfl
  · rw [if_neg (by omega), if_neg (by omega), if_neg (by omega), if_neg (by omega), if_neg (by omega), if_neg (by omega), if_neg (by omega), if_neg (by omega), if_neg h]
theorem cp5 {B B2 : Nat → Nat → Int32} {i j : Nat} : (if j = 4 then B2 4 i else if j = 3 then B2 3 i else if j = 2 then B2 2 i else if j = 1 then B2 1 i else if j = 0 then B2 0 i else B j i) = cpC 5 B2 i (cl_ B i) j := by
  unfold cpC cl_
  by_cases h : j < 5
  · rcases (show j = 0 ∨ j = 1 ∨ j = 2 ∨ j = 3 ∨ j = 4 by omega) with rfl | rfl | rfl | rfl | rfl <;> rfl
  · rw [if_neg (by omega), if_neg (by omega), if_neg (by omega), if_neg (by omega), if_neg (by omega), if_neg h]
/-- a barge's day: it lies still, it comes nearer, it is there -/
theorem sail_0 {G : Nat → Nat → Int32} {i : Nat} (h : mapC sailC i G 1 i = -1) : mapC sailC i G = mapC sailC (i + 1) G := by
  rw [mapC_ge (Nat.le_refl i)] at h
  refine mapC_step (fun j k hk => rfl) (fun j => ?_)
  rw [mapC_ge (Nat.le_refl i)]
  exact (if_pos h).symm
theorem sail_1 {G : Nat → Nat → Int32} {i : Nat} (h : ¬ mapC sailC i G 1 i = -1) (h2 : ¬ st (mapC sailC i G) 0 i (mapC sailC i G 0 i + imax (-5) (imin 5 (mapC sailC i G 1 i - mapC sailC i G 0 i))) 0 i = mapC sailC i G 1 i) : st (mapC sailC i G) 0 i (mapC sailC i G 0 i + imax (-5) (imin 5 (mapC sailC i G 1 i - mapC sailC i G 0 i))) = mapC sailC (i + 1) G := by
  rw [st_eq, if_pos rfl] at h2
  simp only [mapC_ge (Nat.le_refl i)] at h h2 ⊢
  refine mapC_step (fun j k hk => by simp only [st_ne hk]) (fun j => ?_)
  simp only [st_eq, mapC_ge (Nat.le_refl i)]
  refine ((if_neg h).trans ?_).symm
  by_cases h1 : j = 1
  · subst h1
    refine (if_pos rfl).trans ((if_neg h2).trans ?_)
    rfl
  · refine (if_neg h1).trans ?_
    by_cases h0 : j = 0
    · subst h0; rfl
    · rw [if_neg h0, if_neg h0]; rfl
theorem sail_2 {G : Nat → Nat → Int32} {i : Nat} (h : ¬ mapC sailC i G 1 i = -1) (h2 : st (mapC sailC i G) 0 i (mapC sailC i G 0 i + imax (-5) (imin 5 (mapC sailC i G 1 i - mapC sailC i G 0 i))) 0 i = mapC sailC i G 1 i) : st (st (mapC sailC i G) 0 i (mapC sailC i G 0 i + imax (-5) (imin 5 (mapC sailC i G 1 i - mapC sailC i G 0 i)))) 1 i (-1) = mapC sailC (i + 1) G := by
  rw [st_eq, if_pos rfl] at h2
  simp only [mapC_ge (Nat.le_refl i)] at h h2 ⊢
  refine mapC_step (fun j k hk => by simp only [st_ne hk]) (fun j => ?_)
  simp only [st_eq, mapC_ge (Nat.le_refl i)]
  refine ((if_neg h).trans ?_).symm
  by_cases h1 : j = 1
  · subst h1
    refine (if_pos rfl).trans ((if_pos h2).trans ?_)
    rfl
  · rw [if_neg h1, if_neg h1]
    by_cases h0 : j = 0
    · subst h0; rfl
    · rw [if_neg h0, if_neg h0]; rfl
def ldS (B G : Nat → Nat → Int32) (k j : Nat) : Int32 := imin (B 6 j) (150 - abd G k)
def ldR (B G : Nat → Nat → Int32) (k j : Nat) : Int32 := imin (B 7 j) (150 - abd G k - ldS B G k j)
def ldB (B G : Nat → Nat → Int32) (k j : Nat) : Nat → Nat → Int32 := st (st B 6 j (B 6 j - ldS B G k j)) 7 j (B 7 j - ldR B G k j)
def ldG (B G : Nat → Nat → Int32) (k j : Nat) : Nat → Nat → Int32 := st (st G 2 k (G 2 k + ldS B G k j)) 3 k (G 3 k + ldR B G k j)
def earn (G : Nat → Nat → Int32) (T : Nat → Int32) (k j : Nat) : Int32 := G 2 k * sPrice T j + G 3 k * rPrice T j
def sellG (G : Nat → Nat → Int32) (T : Nat → Int32) (k j : Nat) : Nat → Nat → Int32 := st (st (st G 2 k 0) 3 k 0) 4 k (G 4 k + earn G T k j)
def sellT (G : Nat → Nat → Int32) (T : Nat → Int32) (k j : Nat) : Nat → Int32 := upd T j (T j + abd G k)
def dayB (n : Nat) (dy : Int32) (B : Nat → Nat → Int32) : Nat → Nat → Int32 := if irem dy 100 = 99 then yearB n (rotB n B) else rotB n B
/-- what a day changes: the day, what rotted, beds, barges, stores -/
abbrev DS : Type := Int32 × Int32 × (Nat → Nat → Int32) × (Nat → Nat → Int32) × (Nat → Int32)
def dayS (n nb : Nat) (x : DS) : DS := (x.1 + 1, x.2.1 + sumF (rotF x.2.2.1) n, dayB n x.1 x.2.2.1, sailG nb x.2.2.2.1, thT x.2.2.2.2)
def daysS (n nb : Nat) : Nat → DS → DS
  | 0, x => x
  | i + 1, x => dayS n nb (daysS n nb i x)
def tellW (dy co ti ro : Int32) (n : Nat) (B : Nat → Nat → Int32) (nb : Nat) (G : Nat → Nat → Int32) (T : Nat → Int32) (w : Nat) : Int32 := match w with
  | 0 => dy
  | 1 => co
  | 2 => ti
  | 3 => nI n
  | 4 => sumF (given B) n
  | 5 => sumF (untF B) n
  | 6 => sumF (tiedF B) n
  | 7 => nI nb
  | 8 => sumF (abd G) nb
  | 9 => sumF T 3
  | _ => ro
def lft (x : Int32) : Int32 := x - twent x
def lftN : Nat → Int32 → Int32
  | 0, x => x
  | i + 1, x => lft (lftN i x)
def prA (j : Nat) (s : Int32) : Int32 := imax 1 (woF j - s / 25)
def prB (j : Nat) (s : Int32) : Int32 := imax 1 (prA j s / 2)
def ddF (G : Nat → Nat → Int32) (k j : Nat) : Nat := (sendD G k (plF j)).toNatClampNeg
def wouldV (G : Nat → Nat → Int32) (T : Nat → Int32) (k j : Nat) : Int32 := G 2 k * prA j (lftN (ddF G k j) (T j)) + G 3 k * prB j (lftN (ddF G k j) (T j))
theorem dd_dec : ∀ p : Fin 31, ∀ j : Fin 3, (iabs (plF j.val - nI p.val) + 5 - 1) / 5 = nI ((iabs (plF j.val - nI p.val) + 5 - 1) / 5).toNatClampNeg ∧ ((iabs (plF j.val - nI p.val) + 5 - 1) / 5).toNatClampNeg < 10 := by decide +kernel
theorem dd_ok {G : Nat → Nat → Int32} {k j : Nat} (hp : ∃ p, p < 31 ∧ G 0 k = nI p) (hj : j < 3) : sendD G k (plF j) = nI (ddF G k j) ∧ ddF G k j < 10 := by
  obtain ⟨p, h1, h2⟩ := hp
  unfold ddF sendD sendW
  rw [h2]
  exact dd_dec ⟨p, h1⟩ ⟨j, hj⟩
theorem sendD_cp {G G2 : Nat → Nat → Int32} {n k : Nat} {x : Int32} (h : k < n) : sendD (cpG n G G2) k x = sendD G k x := by
  unfold sendD sendW cpG
  rw [mapC_lt h]
  rfl
theorem days_G {n nb : Nat} (j k : Nat) (hj : 2 ≤ j) (x : DS) : ∀ d, (daysS n nb d x).2.2.2.1 j k = x.2.2.2.1 j k := by
  intro d
  induction d with
  | zero => rfl
  | succ d ih =>
    show sailG nb (daysS n nb d x).2.2.2.1 j k = _
    rw [← ih]
    unfold sailG
    by_cases h : k < nb
    · rw [mapC_lt h]
      unfold sailC
      rw [if_neg (show ¬ j = 1 by omega), if_neg (show ¬ j = 0 by omega)]
      split <;> rfl
    · rw [mapC_ge (by omega)]
theorem thT_at {T : Nat → Int32} {j : Nat} (hj : j < 3) : thT T j = lft (T j) := by
  rcases (show j = 0 ∨ j = 1 ∨ j = 2 by omega) with rfl | rfl | rfl <;> rfl
theorem days_T {n nb : Nat} {j : Nat} (hj : j < 3) (x : DS) : ∀ d, (daysS n nb d x).2.2.2.2 j = lftN d (x.2.2.2.2 j) := by
  intro d
  induction d with
  | zero => rfl
  | succ d ih =>
    show thT (daysS n nb d x).2.2.2.2 j = _
    rw [thT_at hj, ih]
    rfl
theorem cpT_at {T2 T : Nat → Int32} {j : Nat} (hj : j < 3) : cpT T2 T j = T2 j := by
  rcases (show j = 0 ∨ j = 1 ∨ j = 2 by omega) with rfl | rfl | rfl <;> rfl
theorem cpG_at {G G2 : Nat → Nat → Int32} {n j k : Nat} (h : k < n) (hj : j < 5) : cpG n G G2 j k = G j k := by
  unfold cpG
  rw [mapC_lt h]
  exact if_pos hj
theorem cpB_at {B B2 : Nat → Nat → Int32} {n j k : Nat} (h : k < n) (hj : j < 8) : cpB n B B2 j k = B j k := by
  unfold cpB
  rw [mapC_lt h]
  exact if_pos hj
/-- what a lot would bring, seen on the copy -/
theorem would_eq {n nb : Nat} {G G2 : Nat → Nat → Int32} {T T2 : Nat → Int32} {k j d : Nat} {p : Int32} {y1 y2 : Int32} {B : Nat → Nat → Int32} (hk : k < nb) (hj : j < 3) (hd : d = ddF G k j) : earn (daysS n nb d (y1, y2, B, sendG (cpG nb G G2) k p, cpT T T2)).2.2.2.1 (daysS n nb d (y1, y2, B, sendG (cpG nb G G2) k p, cpT T T2)).2.2.2.2 k j = wouldV G T k j := by
  subst hd
  unfold earn wouldV rPrice sPrice
  rw [days_G 2 k (by omega), days_G 3 k (by omega), days_T hj]
  have e2 : sendG (cpG nb G G2) k p 2 k = G 2 k := by
    unfold sendG
    rw [st_col (by omega), cpG_at hk (by omega)]
  have e3 : sendG (cpG nb G G2) k p 3 k = G 3 k := by
    unfold sendG
    rw [st_col (by omega), cpG_at hk (by omega)]
  show (sendG (cpG nb G G2) k p 2 k) * _ + (sendG (cpG nb G G2) k p 3 k) * _ = _
  rw [e2, e3]
  show _ * imax 1 (woF j - lftN _ (cpT T T2 j) / 25) + _ * imax 1 (imax 1 (woF j - lftN _ (cpT T T2 j) / 25) / 2) = _
  rw [cpT_at hj]
  rfl
def advF (G : Nat → Nat → Int32) (T : Nat → Int32) (k : Nat) : Int32 := if wouldV G T k 1 ≤ wouldV G T k 0 then (if wouldV G T k 2 ≤ wouldV G T k 0 then 0 else 2) else (if wouldV G T k 2 ≤ wouldV G T k 1 then 1 else 2)
def yearsB (n : Nat) : Nat → (Nat → Nat → Int32) → (Nat → Nat → Int32)
  | 0, B => B
  | i + 1, B => yearB n (yearsB n i B)
def bestS (n : Nat) (B : Nat → Nat → Int32) (k : Nat) : Nat → Int32 × Int32
  | 0 => (sgiv B k, 0)
  | i + 1 => if sgiv (yearsB n (i + 1) B) k ≤ (bestS n B k i).1 then bestS n B k i else (sgiv (yearsB n (i + 1) B) k, nI (i + 1))
theorem best_le {n : Nat} {B : Nat → Nat → Int32} {k y : Nat} (h : sgiv (yearB n (yearsB n y B)) k ≤ (bestS n B k y).1) : bestS n B k (y + 1) = bestS n B k y := if_pos h
theorem best_gt {n : Nat} {B : Nat → Nat → Int32} {k y : Nat} (h : ¬ sgiv (yearB n (yearsB n y B)) k ≤ (bestS n B k y).1) : bestS n B k (y + 1) = (sgiv (yearsB n (y + 1) B) k, nI (y + 1)) := if_neg h
def dg (f : Nat → Int32) : Nat → Int64 → Int64
  | 0, d => d
  | i + 1, d => dg f i d * 31 + (f i).toInt64
def dgB (B : Nat → Nat → Int32) : Nat → Int64 → Int64
  | 0, d => d
  | i + 1, d => dg (tellB B i) 10 (dgB B i d)
def dgG (G : Nat → Nat → Int32) : Nat → Int64 → Int64
  | 0, d => d
  | i + 1, d => dg (tellG G i) 6 (dgG G i d)
def dgL (T : Nat → Int32) : Nat → Int64 → Int64
  | 0, d => d
  | i + 1, d => dg (tellL T i) 4 (dgL T i d)
def digF (dy co ti ro : Int32) (n : Nat) (B : Nat → Nat → Int32) (nb : Nat) (G : Nat → Nat → Int32) (T : Nat → Int32) : Int64 := dgL T 3 (dgG G nb (dgB B n (dg (tellW dy co ti ro n B nb G T) 11 1277)))
def meanF (n : Nat) (B : Nat → Nat → Int32) : UInt64 := if n = 0 then FP.dconst0 else FP.ddiv (FP.i2d (sumF (B 3) n)) (FP.i2d (nI n))
theorem nI_nm1 {j : Nat} (h : j < 2 ^ 31) : ¬ nI j = -1 := fun q => absurd (show nI j < 0 by rw [q]; decide) (nI_pos h)
