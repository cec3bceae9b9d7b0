/-! 09b: the reference's side of the numbers -/
section MROWS
variable {p : Program} {l : Launch} {e : Env} {R : Room} {s : State} {m : MethodId} {args : Array Value} {below : List Frame} {meth : Method} {c : Code} {H : Heap} {locs : List Loc} {cells slots : Nat} {Q : State → Prop} {cc : ByteArray} {rest : List Value} {pc : Nat} {ls : Array Slot}
theorem rn_sub {a b c1 : Nat} (h : c1 + b = a) (hexec : p.tables.exec = Jvm.exec) (hb : c.code = cc) (hdg : decode cc pc = .ok (.isub, 1)) (k : W p l e R s m args below meth c H locs cells slots Q (F0 m (pc + 1) ls (.int (nI c1) :: rest))) : W p l e R s m args below meth c H locs cells slots Q (F0 m pc ls (.int (nI b) :: .int (nI a) :: rest)) := by
  subst h
  refine lv_isub hexec hb hdg ?_
  rw [pk_sub (Nat.le_add_left _ _), Nat.add_sub_cancel]
  exact k
theorem rz_le {off : Int} {tgt a : Nat} (hexec : p.tables.exec = Jvm.exec) (hb : c.code = cc) (ha : a < 2 ^ 31) (hdg : decode cc pc = .ok (.ifCond .le off, 3)) (ht : (pc : Int) + off = (tgt : Int)) (kt : a = 0 → W p l e R s m args below meth c H locs cells slots Q (F0 m tgt ls rest)) (kf : ∀ b, a = b + 1 → W p l e R s m args below meth c H locs cells slots Q (F0 m (pc + 3) ls rest)) : W p l e R s m args below meth c H locs cells slots Q (F0 m pc ls (.int (nI a) :: rest)) := by
  rcases Nat.eq_zero_or_pos a with h | h
  · subst h
    exact lv_if_le hexec hb hdg ht (fun _ => kt rfl) (fun q => absurd (show nI 0 ≤ 0 by decide) q)
  · obtain ⟨b, rfl⟩ : ∃ b, a = b + 1 := ⟨a - 1, by omega⟩
    exact lv_if_le hexec hb hdg ht (fun q => absurd q (nI_nle h ha)) (fun _ => kf b rfl)
end MROWS
theorem idec1 (n : Nat) : nI (n + 1) + Int32.ofInt (-1) = nI n := by
  rw [show Int32.ofInt (-1) = (-1 : Int32) from by decide]; exact pk_m1 n
def isInB (v lo hi : Int32) : Bool := decide (lo ≤ v) && decide (v ≤ hi)
theorem isIn_yes {v lo hi : Int32} (h0 : ¬ v < lo) (h1 : v ≤ hi) : isInB v lo hi = true := by
  unfold isInB
  rw [decide_eq_true (Int32.not_lt.mp h0), decide_eq_true h1]; rfl
theorem isIn_no {v lo hi : Int32} (h : v < lo ∨ ¬ v ≤ hi) : isInB v lo hi = false := by
  unfold isInB
  rcases h with h | h
  · rw [decide_eq_false (Int32.not_le.mpr h)]; rfl
  · rw [decide_eq_false h, Bool.and_false]
theorem isIn_N {q m : Nat} (h : q ≤ m) (hm : m < 2 ^ 31) : isInB (nI q) 0 (nI m) = true := isIn_yes (nI_pos (by omega)) (nI_le h hm)
theorem isBed_yes {k n : Nat} (h : k < n) (hn : n < 1000) : isInB (nI k) 0 (nI n - 1) = true := by
  obtain ⟨m, rfl⟩ : ∃ m, n = m + 1 := ⟨n - 1, by omega⟩
  rw [nI_pred]
  exact isIn_N (by omega) (by omega)
theorem lt_pred {x : Int32} {n : Nat} (hn : n < 1000) (h0 : ¬ x < 0) (h : x ≤ nI n - 1) : x < nI n := by
  obtain ⟨j, hj, e⟩ := nI_of h0
  subst e
  cases n with
  | zero =>
    have h1 : nI j ≤ -1 := by
      have h2 : nI 0 - 1 = (-1 : Int32) := by decide
      rw [h2] at h; exact h
    exact absurd (Int32.lt_of_le_of_lt h1 (show (-1 : Int32) < 0 by decide)) (nI_pos hj)
  | succ m =>
    rw [nI_pred] at h
    have h2 : j ≤ m := (nI_leI hj (by omega)).mp h
    exact nI_lt (by omega) (by omega)
theorem isBed_no {x : Int32} {n : Nat} (h : x < 0 ∨ ¬ x < nI n) (hn : n < 1000) : isInB x 0 (nI n - 1) = false := by
  by_cases h0 : x < 0
  · exact isIn_no (Or.inl h0)
  · refine isIn_no (Or.inr fun q => ?_)
    rcases h with h | h
    · exact h0 h
    · exact h (lt_pred hn h0 q)
theorem lt_le {x : Int32} {a b : Int32} (hab : a < b) (h : x < 0 ∨ ¬ x < b) : x < 0 ∨ ¬ x ≤ a := h.imp id (fun h q => h (Int32.lt_of_le_of_lt q hab))
/-- what holds of every state that calls can reach -/
def Inv (n nb : Nat) (B G : Nat → Nat → Int32) : Prop := (∀ k, k < n → (∃ p, p < 31 ∧ B 0 k = nI p) ∧ (∃ j, j < 10 ∧ B 2 k = nI j) ∧ (∃ j, j < 101 ∧ B 3 k = nI j)) ∧ (∀ k, k < nb → (∃ p, p < 31 ∧ G 0 k = nI p) ∧ (G 1 k = -1 ∨ ∃ p, p < 31 ∧ G 1 k = nI p))
theorem imin_comm (a b : Int32) : imin a b = imin b a := by
  unfold imin
  by_cases h : b < a
  · rw [if_pos h, if_neg (Int32.not_lt.mpr (Int32.le_of_lt h))]
  · rw [if_neg h]
    by_cases h2 : a < b
    · rw [if_pos h2]
    · rw [if_neg h2]
      exact Int32.le_antisymm (Int32.not_lt.mp h) (Int32.not_lt.mp h2)
theorem i_ss (a b c : Int32) : a - b - c = a - (b + c) := by
  apply Int32.toBitVec_inj.mp
  simp only [Int32.toBitVec_sub, Int32.toBitVec_add]
  apply BitVec.eq_of_toNat_eq
  simp only [BitVec.toNat_sub, BitVec.toNat_add]
  omega
theorem i_as (a r b : Int32) : a - r + b = a + b - r := by
  apply Int32.toBitVec_inj.mp
  simp only [Int32.toBitVec_sub, Int32.toBitVec_add]
  apply BitVec.eq_of_toNat_eq
  simp only [BitVec.toNat_sub, BitVec.toNat_add]
  omega
theorem i_back (r a : Int32) : r + (a - r) = a := by
  apply Int32.toBitVec_inj.mp
  simp only [Int32.toBitVec_sub, Int32.toBitVec_add]
  apply BitVec.eq_of_toNat_eq
  simp only [BitVec.toNat_sub, BitVec.toNat_add]
  omega
theorem i_l1 (a S b : Int32) : 150 - ((a + S) + b) = 150 - (a + b) - S := by
  apply Int32.toBitVec_inj.mp
  simp only [Int32.toBitVec_sub, Int32.toBitVec_add]
  apply BitVec.eq_of_toNat_eq
  simp only [BitVec.toNat_sub, BitVec.toNat_add]
  omega
theorem i_51 (a : Int32) : (a + 5 - 1) / 5 = (a + 4) / 5 := by
  have h : a + 5 - 1 = a + 4 := by
    apply Int32.toBitVec_inj.mp
    simp only [Int32.toBitVec_sub, Int32.toBitVec_add]
    apply BitVec.eq_of_toNat_eq
    simp only [BitVec.toNat_sub, BitVec.toNat_add]
    have e5 : (5 : Int32).toBitVec.toNat = 5 := by decide
    have e4 : (4 : Int32).toBitVec.toNat = 4 := by decide
    have e1 : (1 : Int32).toBitVec.toNat = 1 := by decide
    rw [e5, e4, e1]
    omega
  rw [h]
theorem st_comm {B : Nat → Nat → Int32} {j j' k : Nat} {x y : Int32} (h : j ≠ j') : st (st B j k x) j' k y = st (st B j' k y) j k x := by
  funext i m
  by_cases hm : m = k
  · subst hm
    simp only [st_eq]
    by_cases h1 : i = j
    · subst h1; simp [h]
    · by_cases h2 : i = j'
      · subst h2; simp [h1]
      · simp [h1, h2]
  · simp only [st_ne hm]
/-- the barge's distance, seen from either end -/
theorem days_dec : ∀ p : Fin 31, ∀ q : Fin 31, iabs (nI p.val - nI q.val) = iabs (nI q.val - nI p.val) ∧ (iabs (nI q.val - nI p.val) = 0 ↔ nI p.val = nI q.val) := by decide +kernel
theorem days_sym {G : Nat → Nat → Int32} {k : Nat} {x : Int32} (hp : ∃ p, p < 31 ∧ G 0 k = nI p) (hq : ∃ q, q < 31 ∧ x = nI q) : (iabs (G 0 k - x) + 4) / 5 = sendD G k x ∧ (sendW G k x = 0 ↔ G 0 k = x) := by
  obtain ⟨p, h1, h2⟩ := hp
  obtain ⟨q, h3, h4⟩ := hq
  unfold sendD sendW
  rw [h2, h4, i_51]
  have := days_dec ⟨p, h1⟩ ⟨q, h3⟩
  exact ⟨by rw [this.1], this.2⟩
def sailK (G : Nat → Nat → Int32) (k : Nat) : Nat → Nat → Int32 := fun j m => if m = k then sailC k (cl_ G k) j else G j m
theorem sailK_ne {G : Nat → Nat → Int32} {k j m : Nat} (h : m ≠ k) : sailK G k j m = G j m := if_neg h
theorem sailK_eq {G : Nat → Nat → Int32} {k j : Nat} : sailK G k j k = sailC k (cl_ G k) j := if_pos rfl
theorem sailK_step {G : Nat → Nat → Int32} {i : Nat} : sailK (mapC sailC i G) i = mapC sailC (i + 1) G := by
  refine mapC_step (fun j k hk => sailK_ne hk) (fun j => ?_)
  rw [sailK_eq]
  have e : cl_ (mapC sailC i G) i = cl_ G i := by
    funext j
    exact mapC_ge (Nat.le_refl i)
  rw [e]
theorem col_ext {F F' : Nat → Nat → Int32} {k : Nat} (h1 : ∀ j m, m ≠ k → F j m = F' j m) (h2 : ∀ j, F j k = F' j k) : F = F' := by
  funext j m
  by_cases h : m = k
  · subst h; exact h2 j
  · exact h1 j m h
theorem sK_0 {G : Nat → Nat → Int32} {k : Nat} (h : G 1 k = -1) : sailK G k = G := by
  refine col_ext (fun j m hm => sailK_ne hm) (fun j => ?_)
  rw [sailK_eq]
  exact if_pos h
theorem sK_1 {G : Nat → Nat → Int32} {k : Nat} {z : Int32} (h : ¬ G 1 k = -1) (hz : z = G 0 k + imax (-5) (imin 5 (G 1 k - G 0 k))) (h2 : ¬ z = G 1 k) : sailK G k = st G 0 k z := by
  refine col_ext (fun j m hm => by rw [sailK_ne hm, st_ne hm]) (fun j => ?_)
  rw [sailK_eq, st_eq]
  refine (if_neg h).trans ?_
  have hg : goTo (cl_ G k) = z := hz.symm
  rw [hg]
  by_cases h1 : j = 1
  · subst h1
    exact (if_pos rfl).trans (if_neg h2)
  · refine (if_neg h1).trans ?_
    rfl
theorem sK_2 {G : Nat → Nat → Int32} {k : Nat} {z : Int32} (h : ¬ G 1 k = -1) (hz : z = G 0 k + imax (-5) (imin 5 (G 1 k - G 0 k))) (h2 : z = G 1 k) : sailK G k = st (st G 0 k z) 1 k (-1) := by
  refine col_ext (fun j m hm => by rw [sailK_ne hm, st_ne hm, st_ne hm]) (fun j => ?_)
  rw [sailK_eq, st_eq, st_eq]
  refine (if_neg h).trans ?_
  have hg : goTo (cl_ G k) = z := hz.symm
  rw [hg]
  by_cases h1 : j = 1
  · subst h1
    exact (if_pos rfl).trans (if_pos h2)
  · rw [if_neg h1, if_neg h1]
    rfl
theorem crp1_self {B : Nat → Nat → Int32} {k : Nat} : crp1 B k k = false := by
  unfold crp1
  rw [Int32.sub_self (a := B 3 k), decide_eq_false (p := (30 : Int32) ≤ 0) (by decide), Bool.and_false]
theorem sedge_rel {x y : Int32} (hx : ∃ j, j < 101 ∧ x = nI j) (hy : ∃ j, j < 101 ∧ y = nI j) : (x - 30 < y ↔ ¬ 30 ≤ x - y) := by
  obtain ⟨a, ha, rfl⟩ := hx
  obtain ⟨b, hb, rfl⟩ := hy
  have e30 : (30 : Int32) = nI 30 := rfl
  rw [Int32.lt_iff_toInt_lt, Int32.le_iff_toInt_le, e30, pk_sub_toInt (by omega) (by omega), pk_sub_toInt (by omega) (by omega), nI_toInt (by omega), nI_toInt (by omega)]
  omega
theorem bI_or0 {b b2 : Bool} (h : b2 = false) : bI b ||| 0 = bI (b || b2) := by subst h; cases b <;> decide
theorem bI_or1 {b b2 : Bool} (h : b2 = true) : bI b ||| 1 = bI (b || b2) := by subst h; cases b <;> decide
def cpN (N : Nat) (B BA : Nat → Nat → Int32) : Nat → Nat → Int32 := fun j k => if k < N then B j k else BA j k
def cpT3 (T TA : Nat → Int32) : Nat → Int32 := fun k => if k < 3 then T k else TA k
theorem cpy_B {B BA : Nat → Nat → Int32} : va_cpy (pkB B) (pkB BA) (0 : Int32).toNatClampNeg (0 : Int32).toNatClampNeg (64 : Int32).toNatClampNeg = pkB (cpN 8 B BA) := by
  have e0 : (0 : Int32).toNatClampNeg = 0 := by decide
  have e64 : (64 : Int32).toNatClampNeg = 64 := by decide
  rw [e0, e64]
  funext i
  unfold va_cpy pkB cpN
  by_cases h : i < 64
  · rw [if_pos ⟨Nat.zero_le _, by omega⟩, if_pos (by omega), Nat.zero_add, Nat.sub_zero]
  · rw [if_neg (by omega), if_neg (by omega)]
theorem cpy_G {G GA : Nat → Nat → Int32} : va_cpy (pkG G) (pkG GA) (0 : Int32).toNatClampNeg (0 : Int32).toNatClampNeg (15 : Int32).toNatClampNeg = pkG (cpN 3 G GA) := by
  have e0 : (0 : Int32).toNatClampNeg = 0 := by decide
  have e15 : (15 : Int32).toNatClampNeg = 15 := by decide
  rw [e0, e15]
  funext i
  unfold va_cpy pkG cpN
  by_cases h : i < 15
  · rw [if_pos ⟨Nat.zero_le _, by omega⟩, if_pos (by omega), Nat.zero_add, Nat.sub_zero]
  · rw [if_neg (by omega), if_neg (by omega)]
theorem cpy_T {T TA : Nat → Int32} : va_cpy T TA (0 : Int32).toNatClampNeg (0 : Int32).toNatClampNeg (3 : Int32).toNatClampNeg = cpT3 T TA := by
  have e0 : (0 : Int32).toNatClampNeg = 0 := by decide
  have e3 : (3 : Int32).toNatClampNeg = 3 := by decide
  rw [e0, e3]
  funext i
  unfold va_cpy cpT3
  by_cases h : i < 3
  · rw [if_pos ⟨Nat.zero_le _, by omega⟩, if_pos h, Nat.zero_add, Nat.sub_zero]
  · rw [if_neg (by omega), if_neg h]
theorem dg_flat {m : Nat} (hm : 0 < m) (F : Nat → Nat → Int32) (f : Nat → Int64 → Int64) (h0 : ∀ d, f 0 d = d) (hs : ∀ i d, f (i + 1) d = dg (F i) m (f i d)) : ∀ n d, dg (fun i => F (i / m) (i % m)) (m * n) d = f n d := by
  intro n
  induction n with
  | zero => intro d; rw [h0]; rfl
  | succ n ih =>
    intro d
    rw [hs]
    have key : ∀ r, r ≤ m → dg (fun i => F (i / m) (i % m)) (m * n + r) d = dg (F n) r (f n d) := by
      intro r
      induction r with
      | zero => intro _; exact ih d
      | succ r ihr =>
        intro hr
        show dg _ (m * n + r) d * 31 + (F ((m * n + r) / m) ((m * n + r) % m)).toInt64 = dg (F n) r (f n d) * 31 + (F n r).toInt64
        rw [ihr (by omega), Nat.mul_add_div hm, Nat.div_eq_of_lt (by omega), Nat.mul_add_mod, Nat.mod_eq_of_lt (by omega), Nat.add_zero]
    rw [Nat.mul_succ]
    exact key m (Nat.le_refl m)
theorem i_thr1 (d a : Int32) : d + a + 1 = d + (a + 1) := by
  apply Int32.toBitVec_inj.mp
  simp only [Int32.toBitVec_add]
  exact BitVec.add_assoc _ _ _
theorem nar_bI (b : Bool) : narrow .boolean (.int (bI b)) = .int (bI b) := by cases b <;> rfl
theorem st_col2 {B : Nat → Nat → Int32} {a b i : Nat} {x y : Int32} {j k : Nat} (h1 : j ≠ a) (h2 : j ≠ b) : st (st B a i x) b i y j k = B j k := by rw [st_col h2, st_col h1]
theorem tie_r {B : Nat → Nat → Int32} {k : Nat} {ti x y : Int32} : imin ti (B 4 k) + imin (ti - imin ti (B 4 k)) (st (st B 4 k x) 6 k y 5 k) = tieS B k ti + tieR B k ti := by
  rw [st_col2 (by decide) (by decide)]
  unfold tieR tieS
  rw [imin_comm ti (B 4 k), imin_comm (B 5 k)]
theorem tie_t {B : Nat → Nat → Int32} {k : Nat} {ti x y : Int32} : ti - (tieS B k ti + tieR B k ti) = ti - imin ti (B 4 k) - imin (ti - imin ti (B 4 k)) (st (st B 4 k x) 6 k y 5 k) := by
  rw [← tie_r (x := x) (y := y), i_ss]
theorem tie_B {B : Nat → Nat → Int32} {k : Nat} {ti : Int32} : tieB B k ti = st (st (st (st B 4 k (B 4 k - imin ti (B 4 k))) 6 k (B 6 k + imin ti (B 4 k))) 5 k (st (st B 4 k (B 4 k - imin ti (B 4 k))) 6 k (B 6 k + imin ti (B 4 k)) 5 k - imin (ti - imin ti (B 4 k)) (st (st B 4 k (B 4 k - imin ti (B 4 k))) 6 k (B 6 k + imin ti (B 4 k)) 5 k))) 7 k (st (st B 4 k (B 4 k - imin ti (B 4 k))) 6 k (B 6 k + imin ti (B 4 k)) 7 k + imin (ti - imin ti (B 4 k)) (st (st B 4 k (B 4 k - imin ti (B 4 k))) 6 k (B 6 k + imin ti (B 4 k)) 5 k)) := by
  rw [st_col2 (j := 5) (by decide) (by decide), st_col2 (j := 7) (by decide) (by decide)]
  have eS : imin ti (B 4 k) = tieS B k ti := imin_comm _ _
  have eR : imin (ti - tieS B k ti) (B 5 k) = tieR B k ti := imin_comm _ _
  rw [eS, eR]
  unfold tieB
  rw [st_comm (j := 6) (j' := 5) (by decide)]
theorem load_r {B G : Nat → Nat → Int32} {k j : Nat} {x : Int32} : imin (150 - abd G k) (B 6 j) + imin (150 - abd (st G 2 k (G 2 k + imin (150 - abd G k) (B 6 j))) k) (st B 6 j x 7 j) = ldS B G k j + ldR B G k j := by
  have eS : imin (150 - abd G k) (B 6 j) = ldS B G k j := imin_comm _ _
  rw [eS, st_col (by decide)]
  have e2 : 150 - abd (st G 2 k (G 2 k + ldS B G k j)) k = 150 - abd G k - ldS B G k j := by
    show 150 - (st G 2 k (G 2 k + ldS B G k j) 2 k + st G 2 k (G 2 k + ldS B G k j) 3 k) = _
    rw [st_col (j := 3) (by decide), st_eq, if_pos rfl]
    exact i_l1 _ _ _
  rw [e2, imin_comm (150 - abd G k - ldS B G k j)]
  rfl
theorem load_S {B G : Nat → Nat → Int32} {k j : Nat} : imin (150 - abd G k) (B 6 j) = ldS B G k j := imin_comm _ _
theorem load_R {B G : Nat → Nat → Int32} {k j : Nat} {x : Int32} : imin (150 - abd (st G 2 k (G 2 k + ldS B G k j)) k) (st B 6 j x 7 j) = ldR B G k j := by
  rw [st_col (by decide)]
  have e2 : 150 - abd (st G 2 k (G 2 k + ldS B G k j)) k = 150 - abd G k - ldS B G k j := by
    show 150 - (st G 2 k (G 2 k + ldS B G k j) 2 k + st G 2 k (G 2 k + ldS B G k j) 3 k) = _
    rw [st_col (j := 3) (by decide), st_eq, if_pos rfl]
    exact i_l1 _ _ _
  rw [e2, imin_comm (150 - abd G k - ldS B G k j)]
  rfl
theorem load_B {B G : Nat → Nat → Int32} {k j : Nat} : ldB B G k j = st (st B 6 j (B 6 j - imin (150 - abd G k) (B 6 j))) 7 j (st B 6 j (B 6 j - imin (150 - abd G k) (B 6 j)) 7 j - imin (150 - abd (st G 2 k (G 2 k + imin (150 - abd G k) (B 6 j))) k) (st B 6 j (B 6 j - imin (150 - abd G k) (B 6 j)) 7 j)) := by
  rw [load_S, load_R, st_col (j := 7) (by decide)]
  rfl
theorem load_G {B G : Nat → Nat → Int32} {k j : Nat} : ldG B G k j = st (st G 2 k (G 2 k + imin (150 - abd G k) (B 6 j))) 3 k (st G 2 k (G 2 k + imin (150 - abd G k) (B 6 j)) 3 k + imin (150 - abd (st G 2 k (G 2 k + imin (150 - abd G k) (B 6 j))) k) (st B 6 j (B 6 j - imin (150 - abd G k) (B 6 j)) 7 j)) := by
  rw [load_S, load_R, st_col (j := 3) (by decide)]
  rfl
def tellS (B : Nat → Nat → Int32) (n : Nat) (T : Nat → Int32) (ro : Int32) (w : Nat) : Int32 := match w with
  | 4 => sumF (given B) n
  | 5 => sumF (untF B) n
  | 9 => sumF T 3
  | _ => ro
theorem i_add4 (a b c d : Int32) : a + b + (c + d) = a + c + (b + d) := by
  apply Int32.toBitVec_inj.mp
  simp only [Int32.toBitVec_add]
  apply BitVec.eq_of_toNat_eq
  simp only [BitVec.toNat_add]
  omega
theorem sum_two (f g : Nat → Int32) : ∀ n, sumF f n + sumF g n = sumF (fun k => f k + g k) n := by
  intro n
  induction n with
  | zero => show (0 : Int32) + 0 = 0; decide
  | succ n ih =>
    show sumF f n + f n + (sumF g n + g n) = sumF (fun k => f k + g k) n + (f n + g n)
    rw [← ih, i_add4]
theorem sum_3 (T : Nat → Int32) : T 0 + T 1 + T 2 = sumF T 3 := by
  show T 0 + T 1 + T 2 = 0 + T 0 + T 1 + T 2
  rw [Int32.zero_add]
/-- what holds stays: a year, a day's rot, the copy -/
def BInv (n : Nat) (B : Nat → Nat → Int32) : Prop := ∀ k, k < n → (∃ p, p < 31 ∧ B 0 k = nI p) ∧ (∃ j, j < 10 ∧ B 2 k = nI j) ∧ (∃ j, j < 101 ∧ B 3 k = nI j)
theorem clamp_dec (x : Int32) : ∃ j, j < 101 ∧ imax 0 (imin 100 x) = nI j := by
  unfold imax imin
  by_cases h : x < 100
  · rw [if_pos h]
    by_cases h0 : 0 < x
    · rw [if_pos h0]
      obtain ⟨j, hj, e⟩ := nI_of2 (M := 100) (n := 100) (by decide) (x := x) (Int32.not_lt.mpr (Int32.le_of_lt h0)) (Int32.le_of_lt h)
      exact ⟨j, by omega, e⟩
    · rw [if_neg h0]; exact ⟨0, by omega, rfl⟩
  · rw [if_neg h, if_pos (by decide)]; exact ⟨100, by omega, rfl⟩
theorem age_dec : ∀ j : Fin 10, ∃ i : Fin 10, imin 9 (nI j.val + 1) = nI i.val := by decide +kernel
theorem year_inv {n : Nat} {B : Nat → Nat → Int32} (h : BInv n B) : BInv n (yearB n B) := by
  intro k hk
  obtain ⟨h1, ⟨j, hj, e⟩, h3⟩ := h k hk
  unfold yearB
  rw [mapC_lt hk, mapC_lt hk, mapC_lt hk]
  refine ⟨h1, ?_, clamp_dec _⟩
  obtain ⟨i, hi⟩ := age_dec ⟨j, hj⟩
  refine ⟨i.val, i.isLt, ?_⟩
  show imin 9 (B 2 k + 1) = _
  rw [e]; exact hi
theorem years_inv {n : Nat} {B : Nat → Nat → Int32} (h : BInv n B) : ∀ y, BInv n (yearsB n y B) := by
  intro y
  induction y with
  | zero => exact h
  | succ y ih => exact year_inv ih
theorem rot_inv {n : Nat} {B : Nat → Nat → Int32} (h : BInv n B) : BInv n (rotB n B) := by
  intro k hk
  unfold rotB
  rw [mapC_lt hk, mapC_lt hk, mapC_lt hk]
  exact h k hk
theorem day_inv {n : Nat} {dy : Int32} {B : Nat → Nat → Int32} (h : BInv n B) : BInv n (dayB n dy B) := by
  unfold dayB
  split
  · exact year_inv (rot_inv h)
  · exact rot_inv h
theorem cpN_inv {n : Nat} (hn : n ≤ 8) {B BA : Nat → Nat → Int32} (h : BInv n B) : BInv n (cpN 8 B BA) := by
  intro k hk
  unfold cpN
  rw [if_pos (by omega), if_pos (by omega), if_pos (by omega)]
  exact h k hk
def GInv (nb : Nat) (G : Nat → Nat → Int32) : Prop := ∀ k, k < nb → (∃ p, p < 31 ∧ G 0 k = nI p) ∧ (G 1 k = -1 ∨ ∃ p, p < 31 ∧ G 1 k = nI p)
theorem cpN_ginv {nb : Nat} (hn : nb ≤ 3) {G GA : Nat → Nat → Int32} (h : GInv nb G) : GInv nb (cpN 3 G GA) := by
  intro k hk
  unfold cpN
  rw [if_pos (by omega), if_pos (by omega)]
  exact h k hk
theorem sail_dec : ∀ p : Fin 31, ∀ q : Fin 31, ∃ r : Fin 31, nI p.val + imax (-5) (imin 5 (nI q.val - nI p.val)) = nI r.val := by decide +kernel
theorem sailC_inv {G : Nat → Nat → Int32} {k : Nat} (h : (∃ p, p < 31 ∧ G 0 k = nI p) ∧ (G 1 k = -1 ∨ ∃ p, p < 31 ∧ G 1 k = nI p)) : (∃ p, p < 31 ∧ sailC k (cl_ G k) 0 = nI p) ∧ (sailC k (cl_ G k) 1 = -1 ∨ ∃ p, p < 31 ∧ sailC k (cl_ G k) 1 = nI p) := by
  obtain ⟨⟨p, hp, e⟩, h2⟩ := h
  by_cases hm : G 1 k = -1
  · have e0 : sailC k (cl_ G k) 0 = G 0 k := if_pos hm
    have e1 : sailC k (cl_ G k) 1 = G 1 k := if_pos hm
    rw [e0, e1]
    exact ⟨⟨p, hp, e⟩, Or.inl hm⟩
  · rcases h2 with h2 | ⟨q, hq, e2⟩
    · exact absurd h2 hm
    · have e0 : sailC k (cl_ G k) 0 = goTo (cl_ G k) := (if_neg hm).trans rfl
      have e1 : sailC k (cl_ G k) 1 = if goTo (cl_ G k) = G 1 k then -1 else G 1 k := (if_neg hm).trans rfl
      rw [e0, e1]
      refine ⟨?_, ?_⟩
      · obtain ⟨r, hr⟩ := sail_dec ⟨p, hp⟩ ⟨q, hq⟩
        refine ⟨r.val, r.isLt, ?_⟩
        show G 0 k + imax (-5) (imin 5 (G 1 k - G 0 k)) = _
        rw [e, e2]; exact hr
      · split
        · exact Or.inl rfl
        · exact Or.inr ⟨q, hq, e2⟩
theorem sailG_inv {nb : Nat} {G : Nat → Nat → Int32} (h : GInv nb G) : GInv nb (sailG nb G) := by
  intro k hk
  unfold sailG
  rw [mapC_lt hk, mapC_lt hk]
  exact sailC_inv (h k hk)
theorem days_inv {n nb : Nat} {x : DS} (hB : BInv n x.2.2.1) (hG : GInv nb x.2.2.2.1) : ∀ d, BInv n (daysS n nb d x).2.2.1 ∧ GInv nb (daysS n nb d x).2.2.2.1 := by
  intro d
  induction d with
  | zero => exact ⟨hB, hG⟩
  | succ d ih => exact ⟨day_inv ih.1, sailG_inv ih.2⟩
theorem mapG_1 {i : Nat} {G : Nat → Nat → Int32} {f : Nat → (Nat → Int32) → Nat → Int32} {j : Nat} : mapC f i G j i = G j i := mapC_ge (Nat.le_refl i)
theorem tie_B' {B Bq : Nat → Nat → Int32} {k : Nat} {ti tq : Int32} (hB : st (st B 4 k (B 4 k - imin ti (B 4 k))) 6 k (B 6 k + imin ti (B 4 k)) = Bq) (ht : ti - imin ti (B 4 k) = tq) : tieB B k ti = st (st Bq 5 k (Bq 5 k - imin tq (Bq 5 k))) 7 k (Bq 7 k + imin tq (Bq 5 k)) := by
  subst hB; subst ht; exact tie_B
theorem tie_r' {B Bq : Nat → Nat → Int32} {k : Nat} {ti tq x y : Int32} (hB : st (st B 4 k x) 6 k y = Bq) (ht : ti - imin ti (B 4 k) = tq) : imin ti (B 4 k) + imin tq (Bq 5 k) = tieS B k ti + tieR B k ti := by
  subst hB; subst ht; exact tie_r
theorem tie_t' {B Bq : Nat → Nat → Int32} {k : Nat} {ti tq x y : Int32} (hB : st (st B 4 k x) 6 k y = Bq) (ht : ti - imin ti (B 4 k) = tq) : ti - (tieS B k ti + tieR B k ti) = tq - imin tq (Bq 5 k) := by
  subst hB; subst ht; exact tie_t
theorem load_B' {B G Bq Gq : Nat → Nat → Int32} {k j : Nat} (hB : st B 6 j (B 6 j - imin (150 - abd G k) (B 6 j)) = Bq) (hG : st G 2 k (G 2 k + imin (150 - abd G k) (B 6 j)) = Gq) : ldB B G k j = st Bq 7 j (Bq 7 j - imin (150 - abd Gq k) (Bq 7 j)) := by
  subst hB; subst hG; exact load_B
theorem load_G' {B G Bq Gq : Nat → Nat → Int32} {k j : Nat} (hB : st B 6 j (B 6 j - imin (150 - abd G k) (B 6 j)) = Bq) (hG : st G 2 k (G 2 k + imin (150 - abd G k) (B 6 j)) = Gq) : ldG B G k j = st Gq 3 k (Gq 3 k + imin (150 - abd Gq k) (Bq 7 j)) := by
  subst hB; subst hG; exact load_G
theorem load_r' {B G Bq Gq : Nat → Nat → Int32} {k j : Nat} {x : Int32} (hB : st B 6 j x = Bq) (hG : st G 2 k (G 2 k + imin (150 - abd G k) (B 6 j)) = Gq) : imin (150 - abd G k) (B 6 j) + imin (150 - abd Gq k) (Bq 7 j) = ldS B G k j + ldR B G k j := by
  subst hB; subst hG; exact load_r
theorem sail_c0 {G Gq : Nat → Nat → Int32} {k : Nat} {z : Int32} (h : st G 0 k z = Gq) : Gq 0 k = z := by
  rw [← h, st_eq, if_pos rfl]
theorem sailM_0 {G : Nat → Nat → Int32} {k : Nat} (h : G 1 k = -1 ∨ ∃ p, p < 31 ∧ G 1 k = nI p) (c : ¬ 0 ≤ G 1 k) : sailK G k = G := by
  rcases h with h | ⟨p, hp, e⟩
  · exact sK_0 h
  · exact absurd (by rw [e]; exact nI_pos' (by omega)) c
theorem sailM_n {G : Nat → Nat → Int32} {k : Nat} (c : 0 ≤ G 1 k) : ¬ G 1 k = -1 := fun q => absurd (q ▸ c) (by decide)
theorem reed_far {B : Nat → Nat → Int32} {k i : Nat} (h : 4 < iabs (B 0 i - B 0 k)) : crp1 B k i = false := by
  unfold crp1
  rw [decide_eq_false (Int32.not_le.mpr h), Bool.false_and]
theorem reed_low {n : Nat} {B : Nat → Nat → Int32} {k i : Nat} (hB : BInv n B) (hk : k < n) (hi : i < n) (h : B 3 k - 30 < B 3 i) : crp1 B k i = false := by
  unfold crp1
  rw [decide_eq_false ((sedge_rel (hB k hk).2.2 (hB i hi).2.2).mp h), Bool.and_false]
theorem reed_yes {n : Nat} {B : Nat → Nat → Int32} {k i : Nat} (hB : BInv n B) (hk : k < n) (hi : i < n) (h1 : ¬ 4 < iabs (B 0 i - B 0 k)) (h : ¬ B 3 k - 30 < B 3 i) : crp1 B k i = true := by
  unfold crp1
  rw [decide_eq_true (Int32.not_lt.mp h1), decide_eq_true (Decidable.byContradiction (fun q => h ((sedge_rel (hB k hk).2.2 (hB i hi).2.2).mpr q)))]
  rfl
theorem earn_eq {G : Nat → Nat → Int32} {T : Nat → Int32} {k j : Nat} : earn G T k j = G 2 k * prA j (T j) + G 3 k * prB j (T j) := by
  unfold earn rPrice sPrice prB prA
  rfl
