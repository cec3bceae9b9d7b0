/-! 09b: the reference's side of the numbers -/
section MROWS
variable {p : Program} {l : Launch} {e : Env} {R : Room} {s : State} {m : MethodId} {args : Array Value} {below : List Frame} {meth : Method} {c : Code} {H : Heap} {locs : List Loc} {cells slots : Nat} {Q : State → Prop} {cc : ByteArray} {rest : List Value} {pc : Nat} {ls : Array Slot}
theorem rn_sub {a b c1 : Nat} (h : c1 + b = a) (hexec : p.tables.exec = Jvm.exec) (hb : c.code = cc) (hdg : decode cc pc = .ok (.isub, 1)) (k : W p l e R s m args below meth c H locs cells slots Q (F0 m (pc + 1) ls (.int (nI c1) :: rest))) : W p l e R s m args below meth c H locs cells slots Q (F0 m pc ls (.int (nI b) :: .int (nI a) :: rest)) := by
  subst h
  refine lv_isub hexec hb hdg ?_
  rw [pk_sub (Nat.le_add_left _ _), Nat.add_sub_cancel]
  exact k
theorem rz_le {off : Int} {tgt a : Nat} (hexec : p.tables.exec = Jvm.exec) (hb : c.code = cc) (ha : a < 2 ^ 31) (hdg : decode cc pc = .ok (.ifCond .le off, 3)) (ht : (pc : Int) + off = (tgt : Int)) (kt : a = 0 → W p l e R s m args below meth c H locs cells slots Q (F0 m tgt ls rest)) (kf : ∀ b, a = b + 1 → W p l e R s m args below meth c H locs cells slots Q (F0 m (pc + 3) ls rest)) : W p l e R s m args below meth c H locs cells slots Q (F0 m pc ls (.int (nI a) :: rest)) := by
  rcases Nat.eq_zero_or_pos a with h | h
  · subst h
    exact lv_if_le hexec hb hdg ht (fun _ => kt rfl) (fun q => absurd (show nI 0 ≤ 0 by decide) q)
  · obtain ⟨b, rfl⟩ : ∃ b, a = b + 1 := ⟨a - 1, by omega⟩
    exact lv_if_le hexec hb hdg ht (fun q => absurd q (nI_nle h ha)) (fun _ => kf b rfl)
end MROWS
theorem idec1 (n : Nat) : nI (n + 1) + Int32.ofInt (-1) = nI n := by
  rw [show Int32.ofInt (-1) = (-1 : Int32) from by decide]; exact pk_m1 n
def isInB (v lo hi : Int32) : Bool := decide (lo ≤ v) && decide (v ≤ hi)
theorem isIn_yes {v lo hi : Int32} (h0 : ¬ v < lo) (h1 : v ≤ hi) : isInB v lo hi = true := by
  unfold isInB
  rw [decide_eq_true (Int32.not_lt.mp h0), decide_eq_true h1]; rfl
theorem isIn_no {v lo hi : Int32} (h : v < lo ∨ ¬ v ≤ hi) : isInB v lo hi = false := by
  unfold isInB
  rcases h with h | h
  · rw [decide_eq_false (Int32.not_le.mpr h)]; rfl
  · rw [decide_eq_false h, Bool.and_false]
theorem isIn_N {q m : Nat} (h : q ≤ m) (hm : m < 2 ^ 31) : isInB (nI q) 0 (nI m) = true := isIn_yes (nI_pos (by omega)) (nI_le h hm)
theorem isBed_yes {k n : Nat} (h : k < n) (hn : n < 1000) : isInB (nI k) 0 (nI n - 1) = true := by
  obtain ⟨m, rfl⟩ : ∃ m, n = m + 1 := ⟨n - 1, by omega⟩
  rw [nI_pred]
  exact isIn_N (by omega) (by omega)
theorem lt_pred {x : Int32} {n : Nat} (hn : n < 1000) (h0 : ¬ x < 0) (h : x ≤ nI n - 1) : x < nI n := by
  obtain ⟨j, hj, e⟩ := nI_of h0
  subst e
  cases n with
  | zero =>
    have h1 : nI j ≤ -1 := by
      have h2 : nI 0 - 1 = (-1 : Int32) := by decide
      rw [h2] at h; exact h
    exact absurd (Int32.lt_of_le_of_lt h1 (show (-1 : Int32) < 0 by decide)) (nI_pos hj)
  | succ m =>
    rw [nI_pred] at h
    have h2 : j ≤ m := (nI_leI hj (by omega)).mp h
    exact nI_lt (by omega) (by omega)
theorem isBed_no {x : Int32} {n : Nat} (h : x < 0 ∨ ¬ x < nI n) (hn : n < 1000) : isInB x 0 (nI n - 1) = false := by
  by_cases h0 : x < 0
  · exact isIn_no (Or.inl h0)
  · refine isIn_no (Or.inr fun q => ?_)
    rcases h with h | h
    · exact h0 h
    · exact h (lt_pred hn h0 q)
theorem lt_le {x : Int32} {a b : Int32} (hab : a < b) (h : x < 0 ∨ ¬ x < b) : x < 0 ∨ ¬ x ≤ a := h.imp id (fun h q => h (Int32.lt_of_le_of_lt q hab))
/-- what holds of every state that calls can reach -/
def Inv (n nb : Nat) (B G : Nat → Nat → Int32) : Prop := (∀ k, k < n → (∃ p, p < 31 ∧ B 0 k = nI p) ∧ (∃ j, j < 10 ∧ B 2 k = nI j) ∧ (∃ j, j < 101 ∧ B 3 k = nI j)) ∧ (∀ k, k < nb → (∃ p, p < 31 ∧ G 0 k = nI p) ∧ (G 1 k = -1 ∨ ∃ p, p < 31 ∧ G 1 k = nI p))
theorem imin_comm (a b : Int32) : imin a b = imin b a := by
  unfold imin
  by_cases h : b < a
  · rw [if_pos h, if_neg (Int32.not_lt.mpr (Int32.le_of_lt h))]
  · rw [if_neg h]
    by_cases h2 : a < b
    · rw [if_pos h2]
    · rw [if_neg h2]
      exact Int32.le_antisymm (Int32.not_lt.mp h) (Int32.not_lt.mp h2)
theorem i_ss (a b c : Int32) : a - b - c = a - (b + c) := by
  apply Int32.eq_of_toBitVec_eq
  simp only [Int32.toBitVec_sub, Int32.toBitVec_add]
  apply BitVec.eq_of_toNat_eq
  simp only [BitVec.toNat_sub, BitVec.toNat_add]
  omega
theorem i_as (a r b : Int32) : a - r + b = a + b - r := by
  apply Int32.eq_of_toBitVec_eq
  simp only [Int32.toBitVec_sub, Int32.toBitVec_add]
  apply BitVec.eq_of_toNat_eq
  simp only [BitVec.toNat_sub, BitVec.toNat_add]
  omega
theorem i_back (r a : Int32) : r + (a - r) = a := by
  apply Int32.eq_of_toBitVec_eq
  simp only [Int32.toBitVec_sub, Int32.toBitVec_add]
  apply BitVec.eq_of_toNat_eq
  simp only [BitVec.toNat_sub, BitVec.toNat_add]
  omega
theorem i_l1 (a S b : Int32) : 150 - ((a + S) + b) = 150 - (a + b) - S := by
  apply Int32.eq_of_toBitVec_eq
  simp only [Int32.toBitVec_sub, Int32.toBitVec_add]
  apply BitVec.eq_of_toNat_eq
  simp only [BitVec.toNat_sub, BitVec.toNat_add]
  omega
theorem i_51 (a : Int32) : (a + 5 - 1) / 5 = (a + 4) / 5 := by
  have h : a + 5 - 1 = a + 4 := by
    apply Int32.eq_of_toBitVec_eq
    simp only [Int32.toBitVec_sub, Int32.toBitVec_add]
    apply BitVec.eq_of_toNat_eq
    simp only [BitVec.toNat_sub, BitVec.toNat_add]
    have e5 : (5 : Int32).toBitVec.toNat = 5 := by decide
    have e4 : (4 : Int32).toBitVec.toNat = 4 := by decide
    have e1 : (1 : Int32).toBitVec.toNat = 1 := by decide
    rw [e5, e4, e1]
    omega
  rw [h]
theorem st_comm {B : Nat → Nat → Int32} {j j' k : Nat} {x y : Int32} (h : j ≠ j') : st (st B j k x) j' k y = st (st B j' k y) j k x := by
  funext i m
  by_cases hm : m = k
  · subst hm
    simp only [st_eq]
    by_cases h1 : i = j
    · subst h1; simp [h]
    · by_cases h2 : i = j' <;> simp [h1, h2]
  · simp only [st_ne hm]
/-- the barge's distance, seen from either end -/
theorem days_dec : ∀ p : Fin 31, ∀ q : Fin 31, iabs (nI p.val - nI q.val) = iabs (nI q.val - nI p.val) ∧ (iabs (nI q.val - nI p.val) = 0 ↔ nI p.val = nI q.val) := by decide +kernel
theorem days_sym {G : Nat → Nat → Int32} {k : Nat} {x : Int32} (hp : ∃ p, p < 31 ∧ G 0 k = nI p) (hq : ∃ q, q < 31 ∧ x = nI q) : (iabs (G 0 k - x) + 4) / 5 = sendD G k x ∧ (sendW G k x = 0 ↔ G 0 k = x) := by
  obtain ⟨p, h1, h2⟩ := hp
  obtain ⟨q, h3, h4⟩ := hq
  unfold sendD sendW
  rw [h2, h4, i_51]
  have := days_dec ⟨p, h1⟩ ⟨q, h3⟩
  exact ⟨by rw [this.1], this.2⟩
def sailK (G : Nat → Nat → Int32) (k : Nat) : Nat → Nat → Int32 := fun j m => if m = k then sailC k (cl_ G k) j else G j m
theorem sailK_ne {G : Nat → Nat → Int32} {k j m : Nat} (h : m ≠ k) : sailK G k j m = G j m := if_neg h
theorem sailK_eq {G : Nat → Nat → Int32} {k j : Nat} : sailK G k j k = sailC k (cl_ G k) j := if_pos rfl
theorem sailK_step {G : Nat → Nat → Int32} {i : Nat} : sailK (mapC sailC i G) i = mapC sailC (i + 1) G := by
  refine mapC_step (fun j k hk => sailK_ne hk) (fun j => ?_)
  rw [sailK_eq]
  have e : cl_ (mapC sailC i G) i = cl_ G i := by
    funext j
    exact mapC_ge (Nat.le_refl i)
  rw [e]
theorem col_ext {F F' : Nat → Nat → Int32} {k : Nat} (h1 : ∀ j m, m ≠ k → F j m = F' j m) (h2 : ∀ j, F j k = F' j k) : F = F' := by
  funext j m
  by_cases h : m = k
  · subst h; exact h2 j
  · exact h1 j m h
theorem sK_0 {G : Nat → Nat → Int32} {k : Nat} (h : G 1 k = -1) : sailK G k = G := by
  refine col_ext (fun j m hm => sailK_ne hm) (fun j => ?_)
  rw [sailK_eq]
  exact if_pos h
theorem sK_1 {G : Nat → Nat → Int32} {k : Nat} {z : Int32} (h : ¬ G 1 k = -1) (hz : z = G 0 k + imax (-5) (imin 5 (G 1 k - G 0 k))) (h2 : ¬ z = G 1 k) : sailK G k = st G 0 k z := by
  refine col_ext (fun j m hm => by rw [sailK_ne hm, st_ne hm]) (fun j => ?_)
  rw [sailK_eq, st_eq]
  refine (if_neg h).trans ?_
  have hg : goTo (cl_ G k) = z := hz.symm
  rw [hg]
  by_cases h1 : j = 1
  · subst h1
    exact (if_pos rfl).trans (if_neg h2)
  · refine (if_neg h1).trans ?_
    rfl
theorem sK_2 {G : Nat → Nat → Int32} {k : Nat} {z : Int32} (h : ¬ G 1 k = -1) (hz : z = G 0 k + imax (-5) (imin 5 (G 1 k - G 0 k))) (h2 : z = G 1 k) : sailK G k = st (st G 0 k z) 1 k (-1) := by
  refine col_ext (fun j m hm => by rw [sailK_ne hm, st_ne hm, st_ne hm]) (fun j => ?_)
  rw [sailK_eq, st_eq, st_eq]
  refine (if_neg h).trans ?_
  have hg : goTo (cl_ G k) = z := hz.symm
  rw [hg]
  by_cases h1 : j = 1
  · subst h1
    exact (if_pos rfl).trans (if_pos h2)
  · rw [if_neg h1, if_neg h1]
    rfl
theorem crp1_self {B : Nat → Nat → Int32} {k : Nat} : crp1 B k k = false := by
  unfold crp1
  rw [Int32.sub_self (a := B 3 k), decide_eq_false (p := (30 : Int32) ≤ 0) (by decide), Bool.and_false]
theorem sedge_rel {x y : Int32} (hx : ∃ j, j < 101 ∧ x = nI j) (hy : ∃ j, j < 101 ∧ y = nI j) : (x - 30 < y ↔ ¬ 30 ≤ x - y) := by
  obtain ⟨a, ha, rfl⟩ := hx
  obtain ⟨b, hb, rfl⟩ := hy
  have e30 : (30 : Int32) = nI 30 := rfl
  rw [Int32.lt_iff_toInt_lt, Int32.le_iff_toInt_le, e30, pk_sub_toInt (by omega) (by omega), pk_sub_toInt (by omega) (by omega), nI_toInt (by omega), nI_toInt (by omega)]
  omega
theorem bI_or0 {b b2 : Bool} (h : b2 = false) : bI b ||| 0 = bI (b || b2) := by subst h; cases b <;> decide
theorem bI_or1 {b b2 : Bool} (h : b2 = true) : bI b ||| 1 = bI (b || b2) := by subst h; cases b <;> decide
def cpN (N : Nat) (B BA : Nat → Nat → Int32) : Nat → Nat → Int32 := fun j k => if k < N then B j k else BA j k
def cpT3 (T TA : Nat → Int32) : Nat → Int32 := fun k => if k < 3 then T k else TA k
theorem cpy_B {B BA : Nat → Nat → Int32} : va_cpy (pkB B) (pkB BA) (0 : Int32).toNatClampNeg (0 : Int32).toNatClampNeg (64 : Int32).toNatClampNeg = pkB (cpN 8 B BA) := by
  have e0 : (0 : Int32).toNatClampNeg = 0 := by decide
  have e64 : (64 : Int32).toNatClampNeg = 64 := by decide
  rw [e0, e64]
  funext i
  unfold va_cpy pkB cpN
  by_cases h : i < 64
  · rw [if_pos ⟨Nat.zero_le _, by omega⟩, if_pos (by omega), Nat.zero_add, Nat.sub_zero]
  · rw [if_neg (by omega), if_neg (by omega)]
theorem cpy_G {G GA : Nat → Nat → Int32} : va_cpy (pkG G) (pkG GA) (0 : Int32).toNatClampNeg (0 : Int32).toNatClampNeg (15 : Int32).toNatClampNeg = pkG (cpN 3 G GA) := by
  have e0 : (0 : Int32).toNatClampNeg = 0 := by decide
  have e15 : (15 : Int32).toNatClampNeg = 15 := by decide
  rw [e0, e15]
  funext i
  unfold va_cpy pkG cpN
  by_cases h : i < 15
  · rw [if_pos ⟨Nat.zero_le _, by omega⟩, if_pos (by omega), Nat.zero_add, Nat.sub_zero]
  · rw [if_neg (by omega), if_neg (by omega)]
theorem cpy_T {T TA : Nat → Int32} : va_cpy T TA (0 : Int32).toNatClampNeg (0 : Int32).toNatClampNeg (3 : Int32).toNatClampNeg = cpT3 T TA := by
  have e0 : (0 : Int32).toNatClampNeg = 0 := by decide
  have e3 : (3 : Int32).toNatClampNeg = 3 := by decide
  rw [e0, e3]
  funext i
  unfold va_cpy cpT3
  by_cases h : i < 3
  · rw [if_pos ⟨Nat.zero_le _, by omega⟩, if_pos h, Nat.zero_add, Nat.sub_zero]
  · rw [if_neg (by omega), if_neg h]
theorem dg_flat {m : Nat} (hm : 0 < m) (F : Nat → Nat → Int32) (f : Nat → Int64 → Int64) (h0 : ∀ d, f 0 d = d) (hs : ∀ i d, f (i + 1) d = dg (F i) m (f i d)) : ∀ n d, dg (fun i => F (i / m) (i % m)) (m * n) d = f n d := by
  intro n
  induction n with
  | zero => intro d; rw [h0]; rfl
  | succ n ih =>
    intro d
    rw [hs]
    have key : ∀ r, r ≤ m → dg (fun i => F (i / m) (i % m)) (m * n + r) d = dg (F n) r (f n d) := by
      intro r
      induction r with
      | zero => intro _; exact ih d
      | succ r ihr =>
        intro hr
        show dg _ (m * n + r) d * 31 + (F ((m * n + r) / m) ((m * n + r) % m)).toInt64 = dg (F n) r (f n d) * 31 + (F n r).toInt64
        rw [ihr (by omega), Nat.mul_add_div hm, Nat.div_eq_of_lt (by omega), Nat.mul_add_mod, Nat.mod_eq_of_lt (by omega), Nat.add_zero]
    rw [Nat.mul_succ]
    exact key m (Nat.le_refl m)
theorem i_thr1 (d a : Int32) : d + a + 1 = d + (a + 1) := by
  apply Int32.eq_of_toBitVec_eq
  simp only [Int32.toBitVec_add]
  exact BitVec.add_assoc _ _ _
