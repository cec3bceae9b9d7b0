/-! 02: the environment of every call, the contracts' forms, the call rules -/
abbrev I_ (cA : ClassId) (n : Nat) (f : Nat → Int32) : va_E := .inl (cA, (n, .inl f))
def growF (j : Nat) : Int32 := match j with
  | 1 => 1
  | 2 => 2
  | 3 => 4
  | 4 => 6
  | 5 => 6
  | 6 => 5
  | 7 => 4
  | 8 => 3
  | 9 => 2
  | _ => 0
def plF (j : Nat) : Int32 := match j with
  | 0 => 2
  | 1 => 15
  | _ => 28
def woF (j : Nat) : Int32 := match j with
  | 0 => 12
  | 1 => 9
  | _ => 14
/-- a table of whole numbers in a static field -/
def Tab (C n : String) (N : Nat) (f : Nat → Int32) (t : Nat) (A : Nat → Prop) (U : State) (H : Heap) : Prop := va_Z C n "[I" (.ref t) A U H ∧ va_T .int t N (fun j => .int (f j)) A U H
theorem Tab.go {C n : String} {N : Nat} {f : Nat → Int32} {t : Nat} {A A' : Nat → Prop} {s U : State} {H H' : Heap} (h : Tab C n N f t A s H) (hk : ∀ a : Nat, a < H.size → ¬ A a → H'[a]? = H[a]?) (hA : ∀ q, A' q → A q) (hvm : s.vm.Alike U.vm) : Tab C n N f t A' U H' := ⟨va_Z.moved hvm ((h.1.kept hk).narrow hA), va_T.moved hvm ((h.2.kept hk).narrow hA)⟩
def nF : List (String × Nat × String × String × String × String) := [
  ("SedgeBarges", 116, "SedgeBarges$Barges", "place", "[I", "SedgeBarges"),
  ("SedgeBarges", 119, "SedgeBarges$Beds", "place", "[I", "SedgeBarges"),
  ("SedgeBarges", 137, "SedgeBarges$Waterway", "landings", "LSedgeBarges$Landings;", "SedgeBarges"),
  ("SedgeBarges", 166, "SedgeBarges$Beds", "number", "I", "SedgeBarges"),
  ("SedgeBarges", 177, "SedgeBarges$Barges", "number", "I", "SedgeBarges"),
  ("SedgeBarges", 32, "SedgeBarges$Waterway", "beds", "LSedgeBarges$Beds;", "SedgeBarges"),
  ("SedgeBarges", 54, "SedgeBarges$Beds", "age", "[I", "SedgeBarges"),
  ("SedgeBarges", 64, "SedgeBarges$Waterway", "ties", "I", "SedgeBarges"),
  ("SedgeBarges", 99, "SedgeBarges$Waterway", "barges", "LSedgeBarges$Barges;", "SedgeBarges"),
  ("SedgeBarges$Beds", 43, "SedgeBarges", "GROWTH", "[I", "SedgeBarges"),
  ("SedgeBarges$Landings", 15, "SedgeBarges", "LANDING_WORTH", "[I", "SedgeBarges"),
  ("SedgeBarges$Landings", 31, "SedgeBarges", "LANDING_PLACE", "[I", "SedgeBarges"),
  ("SedgeBarges$Waterway", 106, "SedgeBarges$Beds", "number", "I", "SedgeBarges"),
  ("SedgeBarges$Waterway", 118, "SedgeBarges$Barges", "number", "I", "SedgeBarges"),
  ("SedgeBarges$Waterway", 59, "SedgeBarges$Beds", "tiedSedge", "[I", "SedgeBarges"),
  ("SedgeBarges$Waterway", 69, "SedgeBarges$Beds", "tiedReed", "[I", "SedgeBarges"),
  ("SedgeBarges$Waterway", 72, "SedgeBarges$Barges", "sedge", "[I", "SedgeBarges"),
  ("SedgeBarges$Waterway", 75, "SedgeBarges$Barges", "reed", "[I", "SedgeBarges"),
  ("SedgeBarges$Waterway", 84, "SedgeBarges$Barges", "brought", "[I", "SedgeBarges"),
  ("SedgeBarges$Waterway", 87, "SedgeBarges$Landings", "store", "[I", "SedgeBarges")]
def nM : List (String × Nat × MethodName × String) := [
  ("SedgeBarges", 9, ⟨"SedgeBarges$Waterway", "<init>", "()V"⟩, "SedgeBarges"),
  ("SedgeBarges$Barges", 44, ⟨"SedgeBarges", "landingAt", "(I)I"⟩, "SedgeBarges"),
  ("SedgeBarges$Beds", 59, ⟨"SedgeBarges", "tenthRoundedUp", "(I)I"⟩, "SedgeBarges"),
  ("SedgeBarges$Landings", 28, ⟨"SedgeBarges", "twentiethRoundedUp", "(I)I"⟩, "SedgeBarges"),
  ("SedgeBarges$Waterway", 20, ⟨"SedgeBarges$Beds", "<init>", "()V"⟩, "SedgeBarges"),
  ("SedgeBarges$Waterway", 27, ⟨"SedgeBarges$Barges", "<init>", "()V"⟩, "SedgeBarges"),
  ("SedgeBarges$Waterway", 34, ⟨"SedgeBarges$Landings", "<init>", "()V"⟩, "SedgeBarges")]
/-- what every call stands on: the classes, the links within the nest, the tables, the script -/
def En (sa : Nat × Nat × (Nat → Int32)) (tb : Nat → Nat) (D : va_G) (cA cL : ClassId) (A : Nat → Prop) (U : State) (H : Heap) : Prop :=
  va_K D vwCl [(cA, .int)] U ∧ (∀ q ∈ nF, va_Nw (.fieldLinkNest q.1 q.2.1 q.2.2.1 q.2.2.2.1 q.2.2.2.2.1 q.2.2.2.2.2) U) ∧ (∀ q ∈ nM, va_Nw (.methodLinkNest q.1 q.2.1 q.2.2.1 q.2.2.2) U) ∧
  (Tab "SedgeBarges" "GROWTH" 10 growF (tb 0) A U H ∧ Tab "SedgeBarges" "LANDING_PLACE" 3 plF (tb 1) A U H ∧ Tab "SedgeBarges" "LANDING_WORTH" 3 woF (tb 2) A U H ∧
  Tab "SedgeBargesLaw" "WORTH" 3 woF (tb 3) A U H) ∧ (va_T .int sa.1 sa.2.1 (fun j => .int (sa.2.2 j)) A U H ∧ sa.2.1 ≤ 260)
section LAY0
variable {sa : Nat × Nat × (Nat → Int32)} {tb : Nat → Nat} {D : va_G} {cA cL : ClassId} {A A' : Nat → Prop} {s U : State} {H H' : Heap}
theorem En.go (h : En sa tb D cA cL A s H) (hk : ∀ a : Nat, a < H.size → ¬ A a → H'[a]? = H[a]?) (hA : ∀ q, A' q → A q) (hW : s.WarmedH U.vm) : En sa tb D cA cL A' U H' := by
  obtain ⟨h1, h2, h3, ⟨t0, t1, t2, t3⟩, h9, h10⟩ := h
  have hv := hW.alike
  exact ⟨va_K.moved hv h1, fun q hq => va_Nw.warmF hW (h2 q hq), fun q hq => va_Nw.warmM hW (h3 q hq), ⟨t0.go hk hA hv, t1.go hk hA hv, t2.go hk hA hv, t3.go hk hA hv⟩, va_T.moved hv ((h9.kept hk).narrow hA), h10⟩
theorem nf_0 (h : En sa tb D cA cL A s H) {args : Array Value} : (Cond.fieldLinkNest RX4 116 "SedgeBarges$Barges" "place" "[I" "SedgeBarges").before args s = true := va_Nw.use rfl (h.2.1 ("SedgeBarges", 116, "SedgeBarges$Barges", "place", "[I", "SedgeBarges") (List.mem_of_getElem? (i := 0) rfl))
theorem nf_1 (h : En sa tb D cA cL A s H) {args : Array Value} : (Cond.fieldLinkNest RX4 119 "SedgeBarges$Beds" "place" "[I" "SedgeBarges").before args s = true := va_Nw.use rfl (h.2.1 ("SedgeBarges", 119, "SedgeBarges$Beds", "place", "[I", "SedgeBarges") (List.mem_of_getElem? (i := 1) rfl))
theorem nf_2 (h : En sa tb D cA cL A s H) {args : Array Value} : (Cond.fieldLinkNest RX4 137 "SedgeBarges$Waterway" "landings" "LSedgeBarges$Landings;" "SedgeBarges").before args s = true := va_Nw.use rfl (h.2.1 ("SedgeBarges", 137, "SedgeBarges$Waterway", "landings", "LSedgeBarges$Landings;", "SedgeBarges") (List.mem_of_getElem? (i := 2) rfl))
theorem nf_3 (h : En sa tb D cA cL A s H) {args : Array Value} : (Cond.fieldLinkNest RX4 166 "SedgeBarges$Beds" "number" "I" "SedgeBarges").before args s = true := va_Nw.use rfl (h.2.1 ("SedgeBarges", 166, "SedgeBarges$Beds", "number", "I", "SedgeBarges") (List.mem_of_getElem? (i := 3) rfl))
theorem nf_4 (h : En sa tb D cA cL A s H) {args : Array Value} : (Cond.fieldLinkNest RX4 177 "SedgeBarges$Barges" "number" "I" "SedgeBarges").before args s = true := va_Nw.use rfl (h.2.1 ("SedgeBarges", 177, "SedgeBarges$Barges", "number", "I", "SedgeBarges") (List.mem_of_getElem? (i := 4) rfl))
theorem nf_5 (h : En sa tb D cA cL A s H) {args : Array Value} : (Cond.fieldLinkNest RX4 32 "SedgeBarges$Waterway" "beds" "LSedgeBarges$Beds;" "SedgeBarges").before args s = true := va_Nw.use rfl (h.2.1 ("SedgeBarges", 32, "SedgeBarges$Waterway", "beds", "LSedgeBarges$Beds;", "SedgeBarges") (List.mem_of_getElem? (i := 5) rfl))
theorem nf_6 (h : En sa tb D cA cL A s H) {args : Array Value} : (Cond.fieldLinkNest RX4 54 "SedgeBarges$Beds" "age" "[I" "SedgeBarges").before args s = true := va_Nw.use rfl (h.2.1 ("SedgeBarges", 54, "SedgeBarges$Beds", "age", "[I", "SedgeBarges") (List.mem_of_getElem? (i := 6) rfl))
theorem nf_7 (h : En sa tb D cA cL A s H) {args : Array Value} : (Cond.fieldLinkNest RX4 64 "SedgeBarges$Waterway" "ties" "I" "SedgeBarges").before args s = true := va_Nw.use rfl (h.2.1 ("SedgeBarges", 64, "SedgeBarges$Waterway", "ties", "I", "SedgeBarges") (List.mem_of_getElem? (i := 7) rfl))
theorem nf_8 (h : En sa tb D cA cL A s H) {args : Array Value} : (Cond.fieldLinkNest RX4 99 "SedgeBarges$Waterway" "barges" "LSedgeBarges$Barges;" "SedgeBarges").before args s = true := va_Nw.use rfl (h.2.1 ("SedgeBarges", 99, "SedgeBarges$Waterway", "barges", "LSedgeBarges$Barges;", "SedgeBarges") (List.mem_of_getElem? (i := 8) rfl))
theorem nf_9 (h : En sa tb D cA cL A s H) {args : Array Value} : (Cond.fieldLinkNest RX1 43 "SedgeBarges" "GROWTH" "[I" "SedgeBarges").before args s = true := va_Nw.use rfl (h.2.1 ("SedgeBarges$Beds", 43, "SedgeBarges", "GROWTH", "[I", "SedgeBarges") (List.mem_of_getElem? (i := 9) rfl))
theorem nf_10 (h : En sa tb D cA cL A s H) {args : Array Value} : (Cond.fieldLinkNest RX2 15 "SedgeBarges" "LANDING_WORTH" "[I" "SedgeBarges").before args s = true := va_Nw.use rfl (h.2.1 ("SedgeBarges$Landings", 15, "SedgeBarges", "LANDING_WORTH", "[I", "SedgeBarges") (List.mem_of_getElem? (i := 10) rfl))
theorem nf_11 (h : En sa tb D cA cL A s H) {args : Array Value} : (Cond.fieldLinkNest RX2 31 "SedgeBarges" "LANDING_PLACE" "[I" "SedgeBarges").before args s = true := va_Nw.use rfl (h.2.1 ("SedgeBarges$Landings", 31, "SedgeBarges", "LANDING_PLACE", "[I", "SedgeBarges") (List.mem_of_getElem? (i := 11) rfl))
theorem nf_12 (h : En sa tb D cA cL A s H) {args : Array Value} : (Cond.fieldLinkNest RX3 106 "SedgeBarges$Beds" "number" "I" "SedgeBarges").before args s = true := va_Nw.use rfl (h.2.1 ("SedgeBarges$Waterway", 106, "SedgeBarges$Beds", "number", "I", "SedgeBarges") (List.mem_of_getElem? (i := 12) rfl))
theorem nf_13 (h : En sa tb D cA cL A s H) {args : Array Value} : (Cond.fieldLinkNest RX3 118 "SedgeBarges$Barges" "number" "I" "SedgeBarges").before args s = true := va_Nw.use rfl (h.2.1 ("SedgeBarges$Waterway", 118, "SedgeBarges$Barges", "number", "I", "SedgeBarges") (List.mem_of_getElem? (i := 13) rfl))
theorem nf_14 (h : En sa tb D cA cL A s H) {args : Array Value} : (Cond.fieldLinkNest RX3 59 "SedgeBarges$Beds" "tiedSedge" "[I" "SedgeBarges").before args s = true := va_Nw.use rfl (h.2.1 ("SedgeBarges$Waterway", 59, "SedgeBarges$Beds", "tiedSedge", "[I", "SedgeBarges") (List.mem_of_getElem? (i := 14) rfl))
theorem nf_15 (h : En sa tb D cA cL A s H) {args : Array Value} : (Cond.fieldLinkNest RX3 69 "SedgeBarges$Beds" "tiedReed" "[I" "SedgeBarges").before args s = true := va_Nw.use rfl (h.2.1 ("SedgeBarges$Waterway", 69, "SedgeBarges$Beds", "tiedReed", "[I", "SedgeBarges") (List.mem_of_getElem? (i := 15) rfl))
theorem nf_16 (h : En sa tb D cA cL A s H) {args : Array Value} : (Cond.fieldLinkNest RX3 72 "SedgeBarges$Barges" "sedge" "[I" "SedgeBarges").before args s = true := va_Nw.use rfl (h.2.1 ("SedgeBarges$Waterway", 72, "SedgeBarges$Barges", "sedge", "[I", "SedgeBarges") (List.mem_of_getElem? (i := 16) rfl))
theorem nf_17 (h : En sa tb D cA cL A s H) {args : Array Value} : (Cond.fieldLinkNest RX3 75 "SedgeBarges$Barges" "reed" "[I" "SedgeBarges").before args s = true := va_Nw.use rfl (h.2.1 ("SedgeBarges$Waterway", 75, "SedgeBarges$Barges", "reed", "[I", "SedgeBarges") (List.mem_of_getElem? (i := 17) rfl))
theorem nf_18 (h : En sa tb D cA cL A s H) {args : Array Value} : (Cond.fieldLinkNest RX3 84 "SedgeBarges$Barges" "brought" "[I" "SedgeBarges").before args s = true := va_Nw.use rfl (h.2.1 ("SedgeBarges$Waterway", 84, "SedgeBarges$Barges", "brought", "[I", "SedgeBarges") (List.mem_of_getElem? (i := 18) rfl))
theorem nf_19 (h : En sa tb D cA cL A s H) {args : Array Value} : (Cond.fieldLinkNest RX3 87 "SedgeBarges$Landings" "store" "[I" "SedgeBarges").before args s = true := va_Nw.use rfl (h.2.1 ("SedgeBarges$Waterway", 87, "SedgeBarges$Landings", "store", "[I", "SedgeBarges") (List.mem_of_getElem? (i := 19) rfl))
theorem nm_0 (h : En sa tb D cA cL A s H) : va_Nw (.methodLinkNest RX4 9 yX3_init "SedgeBarges") s := h.2.2.1 ("SedgeBarges", 9, ⟨"SedgeBarges$Waterway", "<init>", "()V"⟩, "SedgeBarges") (List.mem_of_getElem? (i := 0) rfl)
theorem nm_1 (h : En sa tb D cA cL A s H) : va_Nw (.methodLinkNest RX0 44 yX4_landingAt "SedgeBarges") s := h.2.2.1 ("SedgeBarges$Barges", 44, ⟨"SedgeBarges", "landingAt", "(I)I"⟩, "SedgeBarges") (List.mem_of_getElem? (i := 1) rfl)
theorem nm_2 (h : En sa tb D cA cL A s H) : va_Nw (.methodLinkNest RX1 59 yX4_tenthRoundedUp "SedgeBarges") s := h.2.2.1 ("SedgeBarges$Beds", 59, ⟨"SedgeBarges", "tenthRoundedUp", "(I)I"⟩, "SedgeBarges") (List.mem_of_getElem? (i := 2) rfl)
theorem nm_3 (h : En sa tb D cA cL A s H) : va_Nw (.methodLinkNest RX2 28 yX4_twentiethRoundedUp "SedgeBarges") s := h.2.2.1 ("SedgeBarges$Landings", 28, ⟨"SedgeBarges", "twentiethRoundedUp", "(I)I"⟩, "SedgeBarges") (List.mem_of_getElem? (i := 3) rfl)
theorem nm_4 (h : En sa tb D cA cL A s H) : va_Nw (.methodLinkNest RX3 20 yX1_init "SedgeBarges") s := h.2.2.1 ("SedgeBarges$Waterway", 20, ⟨"SedgeBarges$Beds", "<init>", "()V"⟩, "SedgeBarges") (List.mem_of_getElem? (i := 4) rfl)
theorem nm_5 (h : En sa tb D cA cL A s H) : va_Nw (.methodLinkNest RX3 27 yX0_init "SedgeBarges") s := h.2.2.1 ("SedgeBarges$Waterway", 27, ⟨"SedgeBarges$Barges", "<init>", "()V"⟩, "SedgeBarges") (List.mem_of_getElem? (i := 5) rfl)
theorem nm_6 (h : En sa tb D cA cL A s H) : va_Nw (.methodLinkNest RX3 34 yX2_init "SedgeBarges") s := h.2.2.1 ("SedgeBarges$Waterway", 34, ⟨"SedgeBarges$Landings", "<init>", "()V"⟩, "SedgeBarges") (List.mem_of_getElem? (i := 6) rfl)
theorem En.K (h : En sa tb D cA cL A s H) : va_K D vwCl [(cA, .int)] s := h.1
end LAY0
theorem l_mid {α : Type} (pre wc pos : List α) (k : Nat) (q : α) (h : wc[k]? = some q) : (pre ++ (wc ++ pos))[pre.length + k]? = some q := by
  have hk : k < wc.length := (List.getElem?_eq_some_iff.mp h).1
  rw [List.getElem?_append_right (Nat.le_add_right _ _), Nat.add_sub_cancel_left, List.getElem?_append_left hk, h]
theorem va_P.mid {D : va_G} {cl : List vw_C} {pre wc pos : va_W} {H : Heap} (h : va_P D cl (pre ++ (wc ++ pos)) H) : va_P D cl wc H := fun k q hk => h _ q (l_mid pre wc pos k q hk)
theorem va_D.mid {A : Nat → Prop} {pre wc pos : va_W} (h : va_D A (pre ++ (wc ++ pos))) : va_D A wc := ⟨fun i j p q hi hj e => by
  have := h.1 _ _ p q (l_mid pre wc pos i p hi) (l_mid pre wc pos j q hj) e
  omega, fun k q hk => h.2 _ q (l_mid pre wc pos k q hk)⟩
theorem va_D.addr {A : Nat → Prop} {ws ws' : va_W} (h : va_D A ws) (e : ws'.map Prod.fst = ws.map Prod.fst) : va_D A ws' := by
  have key : ∀ (k : Nat) (q : Nat × va_E), ws'[k]? = some q → ∃ q0, ws[k]? = some q0 ∧ q0.1 = q.1 := by
    intro k q hk
    have h1 : (ws'.map Prod.fst)[k]? = some q.1 := by rw [List.getElem?_map, hk]; rfl
    rw [e, List.getElem?_map] at h1
    cases hw : ws[k]? with
    | none => rw [hw] at h1; cases h1
    | some q0 => rw [hw] at h1; exact ⟨q0, rfl, Option.some.inj h1⟩
  refine ⟨fun i j p q hi hj hpq => ?_, fun k q hk => ?_⟩
  · obtain ⟨p0, a1, a2⟩ := key i p hi
    obtain ⟨q0, b1, b2⟩ := key j q hj
    exact h.1 i j p0 q0 a1 b1 (a2.trans (hpq.trans b2.symm))
  · obtain ⟨q0, a1, a2⟩ := key k q hk
    rw [← a2]
    exact h.2 k q0 a1
/-- behind a call: its cells as it left them, the others as they were -/
theorem P_join {A0 : Nat → Prop} {D : va_G} {cl : List vw_C} {pre wc pos w1 : va_W} {H H1 : Heap} (hP : va_P D cl (pre ++ (wc ++ pos)) H) (hD : va_D A0 (pre ++ (wc ++ pos))) (hk : ∀ q : Nat, q < H.size → ¬ va_A wc H.size q → H1[q]? = H[q]?) (hP1 : va_P D cl w1 H1) : va_P D cl (pre ++ (w1 ++ pos)) H1 := by
  have out : ∀ (i : Nat) (q : Nat × va_E), (pre ++ (wc ++ pos))[i]? = some q → (i < pre.length ∨ pre.length + wc.length ≤ i) → H1[q.1]? = H[q.1]? := by
    intro i q hq hi
    have hl := (hP i q hq).lt
    refine hk q.1 hl fun h => ?_
    rcases h with ⟨k2, e, h⟩ | h
    · have h2 := l_mid pre wc pos k2 (q.1, e) h
      have hk2 : k2 < wc.length := (List.getElem?_eq_some_iff.mp h).1
      have := hD.1 i _ q (q.1, e) hq h2 rfl
      omega
    · omega
  refine va_P.app (fun k q hq => ?_) (va_P.app hP1 (fun k q hq => ?_))
  · have hl : k < pre.length := (List.getElem?_eq_some_iff.mp hq).1
    have h1 : (pre ++ (wc ++ pos))[k]? = some q := by rw [List.getElem?_append_left hl]; exact hq
    exact (hP k q h1).kept (out k q h1 (Or.inl hl))
  · have h1 : (pre ++ (wc ++ pos))[pre.length + (wc.length + k)]? = some q := by
      rw [List.getElem?_append_right (Nat.le_add_right _ _), Nat.add_sub_cancel_left, List.getElem?_append_right (Nat.le_add_right _ _), Nat.add_sub_cancel_left]; exact hq
    exact (hP _ q h1).kept (out _ q h1 (Or.inr (by omega)))
theorem mid_free {A : Nat → Prop} {pre wc pos : va_W} {H0 H : Heap} {locs : List Loc} (hD : va_D A (pre ++ (wc ++ pos))) (hS : va_S A H0 H locs) (hA : ∀ q, H0.size ≤ q → A q) : ∀ q, va_A wc H.size q → A q := by
  intro q h
  rcases h with ⟨k, e, h⟩ | h
  · exact hD.2 _ (q, e) (l_mid pre wc pos k (q, e) h)
  · exact hA q (Nat.le_trans hS.1 h)
/-- a method's start: its world, apart, and what every call stands on -/
def PcK (sa : Nat × Nat × (Nat → Int32)) (tb : Nat → Nat) (D : va_G) (cA cL : ClassId) (av : List Value) (ws : va_W) (sz : Nat) : Array Value → State → Prop := va_Pc av (fun U => U.heap.size = sz ∧ va_P D vwCl ws U.heap ∧ va_D (fun _ => True) ws ∧ En sa tb D cA cL (va_A ws sz) U U.heap)
/-- its end, by the cells that it may change -/
abbrev qI (D : va_G) {S : Type} (post : Int32 → S → Prop) (w1 : S → va_W) : (Nat → Prop) → Array Value → State → Outcome → State → Prop := fun A => va_Qi post (fun u t => va_P D vwCl (w1 u) t.heap) A
abbrev qV (D : va_G) {S : Type} (post : S → Prop) (w1 : S → va_W) : (Nat → Prop) → Array Value → State → Outcome → State → Prop := fun A => va_Qv post (fun u t => va_P D vwCl (w1 u) t.heap) A
abbrev qL (D : va_G) {S : Type} (post : Int64 → S → Prop) (w1 : S → va_W) : (Nat → Prop) → Array Value → State → Outcome → State → Prop := fun A => va_Ql post (fun u t => va_P D vwCl (w1 u) t.heap) A
abbrev qD (D : va_G) {S : Type} (post : UInt64 → S → Prop) (w1 : S → va_W) : (Nat → Prop) → Array Value → State → Outcome → State → Prop := fun A => va_Qd post (fun u t => va_P D vwCl (w1 u) t.heap) A
/-- a contract of a method that makes nothing and throws nothing -/
def KM (sa : Nat × Nat × (Nat → Int32)) (tb : Nat → Nat) (D : va_G) (cA cL : ClassId) (l : Launch) (y : MethodName) (wy : List Cond) (rm : Room) (av : List Value) (ws : va_W) (Qc : (Nat → Prop) → Array Value → State → Outcome → State → Prop) : Prop := ∀ sz : Nat, Met l y wy rm (PcK sa tb D cA cL av ws sz) (Qc (va_A ws sz)) 0 0 (va_A ws sz)
section LAY1
variable {sa : Nat × Nat × (Nat → Int32)} {tb : Nat → Nat} {D : va_G} {cA cL : ClassId} {l : Launch} {y : MethodName} {wy wy' : List Cond} {rm : Room} {av : List Value} {ws : va_W} {Qc : (Nat → Prop) → Array Value → State → Outcome → State → Prop} {cc : ByteArray} {maxL : Nat} {ret : Option FieldType}
theorem PcK.blind {sz : Nat} : FrameBlind (PcK sa tb D cA cL av ws sz) := fun a U g mk h => ⟨h.1, h.2.1, h.2.2.1, h.2.2.2.1, h.2.2.2.2.go (fun _ _ _ => rfl) (fun _ h => h) (State.WarmedH.refl U)⟩
theorem KM.of (hy : plainName y.cls = true) (hw : wy = Cond.code y cc maxL ret :: wy') (hlen : (lg_sl av).length ≤ maxL)
    (body : ∀ (p : Program) (e : Env) (s : State) (m : MethodId) (args : Array Value) (below : List Frame) (meth : Method) (c : Code) (A : Nat → Prop), p.tables.exec = Jvm.exec → c.code = cc → meth.sig.returnType = ret → c.maxLocals = maxL → meth.locks = false → (∀ w ∈ wy, w.before args s = true) → s.vm.findClass y.cls = some m.cls → va_S A s.heap s.heap [] → (∀ q : Nat, s.heap.size ≤ q → A q) → En sa tb D cA cL A s s.heap → va_P D vwCl ws s.heap → va_D A ws → ∀ ls : Array Slot, lv_has ls maxL (lv_args 0 av) →
      W p l e rm s m args below meth c s.heap [] 0 0 (MQ below (Qc A) args s 0 0 A) (F0 m 0 ls [])) : KM sa tb D cA cL l y wy rm av ws Qc := by
  intro sz
  refine Met.ofW (cc := cc) (maxL := maxL) (ret := ret) hy hw ?_
  intro p e s m args below meth c s₁ B hml hv
  obtain ⟨rfl, hsz, hP, hD0, hE⟩ := hv
  subst hsz
  have hl := lv_entry av (n := maxL) hlen
  rw [lg_entry_eq]
  exact body p e s m _ below meth c _ B.exec B.bytes B.returns hml B.notSynchronized (atoms_spec (ws := wy) B.pre) (findClass_of_methodNamed B.named) va_S.rf (fun q h => Or.inr h) hE hP hD0.self _ hl
end LAY1
section LAY2
variable {p : Program} {l : Launch} {e : Env} {R : Room} {s : State} {m : MethodId} {args : Array Value} {below : List Frame} {meth : Method} {c : Code} {H : Heap} {locs : List Loc} {cells slots : Nat} {Q : State → Prop}
variable {sa : Nat × Nat × (Nat → Int32)} {tb : Nat → Nat} {D : va_G} {cA cL : ClassId} {A : Nat → Prop} {y : MethodName} {wy : List Cond} {rm : Room} {Qc : (Nat → Prop) → Array Value → State → Outcome → State → Prop} {cc bytes : ByteArray} {maxL nL n index : Nat} {ret : Option FieldType} {Ts : List Cond} {own C host : String} {b : Addr} {As rest st0 : List Value} {pc : Nat} {ls : Array Slot} {pre wc pos : va_W}
theorem PcKu (hP : va_P D vwCl (pre ++ (wc ++ pos)) H) (hD : va_D A (pre ++ (wc ++ pos))) (hS : va_S A s.heap H locs) (hA : ∀ q, s.heap.size ≤ q → A q) (hE : En sa tb D cA cL A s s.heap) {av : List Value} : ∀ U : State, U.heap = H → s.WarmedH U.vm → PcK sa tb D cA cL av wc H.size av.toArray U := fun U hU hW => ⟨rfl, by rw [hU], by rw [hU]; exact hP.mid, hD.mid.weaken (fun _ _ _ _ => trivial), hE.go (by rw [hU]; exact hS.2.1) (mid_free hD hS hA) hW⟩
theorem rnV (hM : KM sa tb D cA cL l y wy rm (.ref b :: As) wc Qc) (pre pos : va_W) (hP : va_P D vwCl (pre ++ (wc ++ pos)) H) (hD : va_D A (pre ++ (wc ++ pos))) (hS : va_S A s.heap H locs) (hA : ∀ q, s.heap.size ≤ q → A q) (hE : En sa tb D cA cL A s s.heap) (hCF : CallFix p m c cc nL s args Ts own)
    (cw : CallW R s args own C index y bytes maxL ret wy rm 0 0 n) (ci q0 : Nat) {fs : List Value} {q : vw_C} (hc : vwCl[ci]? = some q) (he : wc[q0]? = some (b, .inr (ci, fs))) (hC : q.1 = C) (hn : As.length = n) (hsize : ls.size = nL) (hst : st0 = As.reverse ++ .ref b :: rest) (hW : (rest.map fun v => v.category).sum ≤ 8) (hdg : decode cc pc = .ok (.invokevirtual index, 3)) (hf : cells ≤ R.cells ∧ slots ≤ R.slots) :
    va_Run p l e R s m args below meth c H locs cells slots 0 0 (F0 m pc ls st0) rest (Qc (va_A wc H.size) (Value.ref b :: As).toArray) (va_A wc H.size) := by
  subst hC
  exact va_runV hCF (hM H.size) cw ⟨PcK.blind, va_recv hE.K hP.mid hc he, PcKu hP hD hS hA hE⟩ rfl hn hsize hst (lv_room hW) hdg hf
theorem rnS (hM : KM sa tb D cA cL l y wy rm As wc Qc) (pre pos : va_W) (hP : va_P D vwCl (pre ++ (wc ++ pos)) H) (hD : va_D A (pre ++ (wc ++ pos))) (hS : va_S A s.heap H locs) (hA : ∀ q, s.heap.size ≤ q → A q) (hE : En sa tb D cA cL A s s.heap) (hCF : CallFix p m c cc nL s args Ts own)
    (cw : CallB R s args own index y bytes maxL ret wy rm 0 0 n ∧ (Cond.static y).before args s = true) (hn : As.length = n) (hsize : ls.size = nL) (hst : st0 = As.reverse ++ rest) (hW : (rest.map fun v => v.category).sum ≤ 8) (hdg : decode cc pc = .ok (.invokestatic index, 3)) (hf : cells ≤ R.cells ∧ slots ≤ R.slots) :
    va_Run p l e R s m args below meth c H locs cells slots 0 0 (F0 m pc ls st0) rest (Qc (va_A wc H.size) As.toArray) (va_A wc H.size) :=
  va_runS hCF (hM H.size) cw ⟨PcK.blind, PcKu hP hD hS hA hE⟩ rfl hn hsize hst (lv_room hW) hdg hf
theorem rnSN (hM : KM sa tb D cA cL l y wy rm As wc Qc) (pre pos : va_W) (hP : va_P D vwCl (pre ++ (wc ++ pos)) H) (hD : va_D A (pre ++ (wc ++ pos))) (hS : va_S A s.heap H locs) (hA : ∀ q, s.heap.size ≤ q → A q) (hE : En sa tb D cA cL A s s.heap) (hCF : CallFix p m c cc nL s args Ts own)
    (cw : va_CN R s args own index y host bytes maxL ret wy rm 0 0 n ∧ (Cond.static y).before args s = true ∧ True) (hn : As.length = n) (hsize : ls.size = nL) (hst : st0 = As.reverse ++ rest) (hW : (rest.map fun v => v.category).sum ≤ 8) (hdg : decode cc pc = .ok (.invokestatic index, 3)) (hf : cells ≤ R.cells ∧ slots ≤ R.slots) :
    va_Run p l e R s m args below meth c H locs cells slots 0 0 (F0 m pc ls st0) rest (Qc (va_A wc H.size) As.toArray) (va_A wc H.size) :=
  va_runSN hCF (hM H.size) cw ⟨PcK.blind, PcKu hP hD hS hA hE⟩ rfl hn hsize hst (lv_room hW) hdg hf
variable {S : Type} {w1 : S → va_W} {a : Array Value}
theorem goI {post : Int32 → S → Prop} (pre pos : va_W) (hP : va_P D vwCl (pre ++ (wc ++ pos)) H) (hD : va_D A (pre ++ (wc ++ pos))) (hS : va_S A s.heap H locs) (hA : ∀ q, s.heap.size ≤ q → A q) (hr : va_Run p l e R s m args below meth c H locs cells slots 0 0 (F0 m pc ls st0) rest (qI D post w1 (va_A wc H.size) a) (va_A wc H.size)) (haddr : ∀ u, (w1 u).map Prod.fst = wc.map Prod.fst)
    (kk : ∀ (r : Int32) (u : S) (H1 : Heap) (locs1 : List Loc), post r u → va_P D vwCl (pre ++ (w1 u ++ pos)) H1 → va_D A (pre ++ (w1 u ++ pos)) → va_S A s.heap H1 locs1 → W p l e R s m args below meth c H1 locs1 cells slots Q (F0 m (pc + 3) ls (.int r :: rest))) : W p l e R s m args below meth c H locs cells slots Q (F0 m pc ls st0) := by
  refine va_calli hr hS (fun q _ h => mid_free hD hS hA q h) (mid_free hD hS hA) (fun r u t H1 locs1 ht hvm hw hB hz hk hS1 => ?_)
  rw [ht] at hB
  exact kk r u H1 locs1 hw (P_join hP hD hk hB) (hD.addr (by simp [List.map_append, haddr u])) hS1
theorem goV {post : S → Prop} (pre pos : va_W) (hP : va_P D vwCl (pre ++ (wc ++ pos)) H) (hD : va_D A (pre ++ (wc ++ pos))) (hS : va_S A s.heap H locs) (hA : ∀ q, s.heap.size ≤ q → A q) (hr : va_Run p l e R s m args below meth c H locs cells slots 0 0 (F0 m pc ls st0) rest (qV D post w1 (va_A wc H.size) a) (va_A wc H.size)) (haddr : ∀ u, (w1 u).map Prod.fst = wc.map Prod.fst)
    (kk : ∀ (u : S) (H1 : Heap) (locs1 : List Loc), post u → va_P D vwCl (pre ++ (w1 u ++ pos)) H1 → va_D A (pre ++ (w1 u ++ pos)) → va_S A s.heap H1 locs1 → W p l e R s m args below meth c H1 locs1 cells slots Q (F0 m (pc + 3) ls rest)) : W p l e R s m args below meth c H locs cells slots Q (F0 m pc ls st0) := by
  refine va_callv hr hS (fun q _ h => mid_free hD hS hA q h) (mid_free hD hS hA) (fun u t H1 locs1 ht hvm hw hB hz hk hS1 => ?_)
  rw [ht] at hB
  exact kk u H1 locs1 hw (P_join hP hD hk hB) (hD.addr (by simp [List.map_append, haddr u])) hS1
theorem goL {post : Int64 → S → Prop} (pre pos : va_W) (hP : va_P D vwCl (pre ++ (wc ++ pos)) H) (hD : va_D A (pre ++ (wc ++ pos))) (hS : va_S A s.heap H locs) (hA : ∀ q, s.heap.size ≤ q → A q) (hr : va_Run p l e R s m args below meth c H locs cells slots 0 0 (F0 m pc ls st0) rest (qL D post w1 (va_A wc H.size) a) (va_A wc H.size)) (haddr : ∀ u, (w1 u).map Prod.fst = wc.map Prod.fst)
    (kk : ∀ (r : Int64) (u : S) (H1 : Heap) (locs1 : List Loc), post r u → va_P D vwCl (pre ++ (w1 u ++ pos)) H1 → va_D A (pre ++ (w1 u ++ pos)) → va_S A s.heap H1 locs1 → W p l e R s m args below meth c H1 locs1 cells slots Q (F0 m (pc + 3) ls (.long r :: rest))) : W p l e R s m args below meth c H locs cells slots Q (F0 m pc ls st0) := by
  refine va_calll hr hS (fun q _ h => mid_free hD hS hA q h) (mid_free hD hS hA) (fun r u t H1 locs1 ht hvm hw hB hz hk hS1 => ?_)
  rw [ht] at hB
  exact kk r u H1 locs1 hw (P_join hP hD hk hB) (hD.addr (by simp [List.map_append, haddr u])) hS1
theorem goD {post : UInt64 → S → Prop} (pre pos : va_W) (hP : va_P D vwCl (pre ++ (wc ++ pos)) H) (hD : va_D A (pre ++ (wc ++ pos))) (hS : va_S A s.heap H locs) (hA : ∀ q, s.heap.size ≤ q → A q) (hr : va_Run p l e R s m args below meth c H locs cells slots 0 0 (F0 m pc ls st0) rest (qD D post w1 (va_A wc H.size) a) (va_A wc H.size)) (haddr : ∀ u, (w1 u).map Prod.fst = wc.map Prod.fst)
    (kk : ∀ (r : UInt64) (u : S) (H1 : Heap) (locs1 : List Loc), post r u → va_P D vwCl (pre ++ (w1 u ++ pos)) H1 → va_D A (pre ++ (w1 u ++ pos)) → va_S A s.heap H1 locs1 → W p l e R s m args below meth c H1 locs1 cells slots Q (F0 m (pc + 3) ls (.double r :: rest))) : W p l e R s m args below meth c H locs cells slots Q (F0 m pc ls st0) := by
  refine va_calld hr hS (fun q _ h => mid_free hD hS hA q h) (mid_free hD hS hA) (fun r u t H1 locs1 ht hvm hw hB hz hk hS1 => ?_)
  rw [ht] at hB
  exact kk r u H1 locs1 hw (P_join hP hD hk hB) (hD.addr (by simp [List.map_append, haddr u])) hS1
/-- ends -/
theorem enI {post : Int32 → S → Prop} {v : Int32} (u : S) (hx : p.tables.exec = Jvm.exec) (hb : c.code = cc) (hr : meth.sig.returnType = some .int) (hlocks : meth.locks = false) (hS : va_S A s.heap H locs) (hP : va_P D vwCl (w1 u) H) (hp : post v u) (hdg : decode cc pc = .ok (.ireturn, 1)) : W p l e R s m args below meth c H locs 0 0 (MQ below (qI D post w1 A) args s 0 0 A) (F0 m pc ls [.int v]) :=
  W.iret hx hb hr (fun t ht hW => ⟨⟨v, u, rfl, hp, by show va_P D vwCl (w1 u) t.heap; rw [ht]; exact hP⟩, hS.F ht⟩) hS.2.2 hdg hlocks
theorem enZ {post : Int32 → S → Prop} {v : Int32} (u : S) (hx : p.tables.exec = Jvm.exec) (hb : c.code = cc) (hr : meth.sig.returnType = some .boolean) (hlocks : meth.locks = false) (hS : va_S A s.heap H locs) (hP : va_P D vwCl (w1 u) H) (hn : narrow .boolean (.int v) = .int v) (hp : post v u) (hdg : decode cc pc = .ok (.ireturn, 1)) : W p l e R s m args below meth c H locs 0 0 (MQ below (qI D post w1 A) args s 0 0 A) (F0 m pc ls [.int v]) :=
  W.zret hx hb hr hn (fun t ht hW => ⟨⟨v, u, rfl, hp, by show va_P D vwCl (w1 u) t.heap; rw [ht]; exact hP⟩, hS.F ht⟩) hS.2.2 hdg hlocks
theorem enV {post : S → Prop} (u : S) (hx : p.tables.exec = Jvm.exec) (hb : c.code = cc) (hr : meth.sig.returnType = none) (hlocks : meth.locks = false) (hS : va_S A s.heap H locs) (hP : va_P D vwCl (w1 u) H) (hp : post u) (hdg : decode cc pc = .ok (.return_, 1)) : W p l e R s m args below meth c H locs 0 0 (MQ below (qV D post w1 A) args s 0 0 A) (F0 m pc ls []) :=
  W.vret hx hb hr (fun t ht hW => ⟨⟨u, rfl, hp, by show va_P D vwCl (w1 u) t.heap; rw [ht]; exact hP⟩, hS.F ht⟩) hS.2.2 hdg hlocks
theorem enL {post : Int64 → S → Prop} {v : Int64} (u : S) (hx : p.tables.exec = Jvm.exec) (hb : c.code = cc) (hr : meth.sig.returnType = some .long) (hlocks : meth.locks = false) (hS : va_S A s.heap H locs) (hP : va_P D vwCl (w1 u) H) (hp : post v u) (hdg : decode cc pc = .ok (.lreturn, 1)) : W p l e R s m args below meth c H locs 0 0 (MQ below (qL D post w1 A) args s 0 0 A) (F0 m pc ls [.long v]) :=
  W.lret hx hb hr (fun t ht hW => ⟨⟨v, u, rfl, hp, by show va_P D vwCl (w1 u) t.heap; rw [ht]; exact hP⟩, hS.F ht⟩) hS.2.2 hdg hlocks
theorem enD {post : UInt64 → S → Prop} {v : UInt64} (u : S) (hx : p.tables.exec = Jvm.exec) (hb : c.code = cc) (hr : meth.sig.returnType = some .double) (hlocks : meth.locks = false) (hS : va_S A s.heap H locs) (hP : va_P D vwCl (w1 u) H) (hp : post v u) (hdg : decode cc pc = .ok (.dreturn, 1)) : W p l e R s m args below meth c H locs 0 0 (MQ below (qD D post w1 A) args s 0 0 A) (F0 m pc ls [.double v]) :=
  W.dret hx hb hr (fun t ht hW => ⟨⟨v, u, rfl, hp, by show va_P D vwCl (w1 u) t.heap; rw [ht]; exact hP⟩, hS.F ht⟩) hS.2.2 hdg hlocks
end LAY2
section LAY3
variable {p : Program} {l : Launch} {e : Env} {R : Room} {s : State} {m : MethodId} {args : Array Value} {below : List Frame} {meth : Method} {c : Code} {H : Heap} {locs : List Loc} {cells slots : Nat} {Q : State → Prop}
variable {sa : Nat × Nat × (Nat → Int32)} {tb : Nat → Nat} {D : va_G} {cA cL : ClassId} {A : Nat → Prop} {y : MethodName} {wy : List Cond} {rm : Room} {cc bytes : ByteArray} {maxL nL n index : Nat} {ret : Option FieldType} {Ts : List Cond} {own C : String} {b : Addr} {As rest st0 : List Value} {pc : Nat} {ls : Array Slot} {pre wc pos ws : va_W} {XE XE' : String → Prop} {Qf : Array Value → State → Outcome → State → Prop}
/-- arrays by a number of Nat -/
theorem r_ald (hexec : p.tables.exec = Jvm.exec) (hb : c.code = cc) (hE : En sa tb D cA cL A s s.heap) (hP : va_P D vwCl ws H) (q0 k : Nat) {a N : Nat} {f : Nat → Int32} {i v : Int32} (ha : ws[q0]? = some (a, I_ cA N f)) (hi : i = nI k) (hk : k < N) (hN : N < 2 ^ 31) (hv : f k = v) (hdg : decode cc pc = .ok (.iaload, 1))
    (kk : W p l e R s m args below meth c H locs cells slots Q (F0 m (pc + 1) ls (.int v :: rest))) : W p l e R s m args below meth c H locs cells slots Q (F0 m pc ls (.int i :: .ref a :: rest)) := by
  subst hi
  subst hv
  refine va_iald hexec hb hE.K hP q0 0 ha rfl (vp_in_nI hk hN) hdg ?_
  rw [nI_clamp (Nat.lt_trans hk hN)]
  exact kk
theorem r_ast (hexec : p.tables.exec = Jvm.exec) (hb : c.code = cc) (hE : En sa tb D cA cL A s s.heap) (hP : va_P D vwCl ws H) (hD : va_D A ws) {H0 : Heap} (hS : va_S A H0 H locs) (q0 k : Nat) {a N : Nat} {f g : Nat → Int32} {i x : Int32} (ha : ws[q0]? = some (a, I_ cA N f)) (hi : i = nI k) (hk : k < N) (hN : N < 2 ^ 31) (hg : upd f k x = g) (hdg : decode cc pc = .ok (.iastore, 1))
    (kk : ∀ (H1 : Heap) (locs1 : List Loc), va_P D vwCl (ws.set q0 (a, I_ cA N g)) H1 → va_D A (ws.set q0 (a, I_ cA N g)) → va_S A H0 H1 locs1 → W p l e R s m args below meth c H1 locs1 cells slots Q (F0 m (pc + 1) ls rest)) : W p l e R s m args below meth c H locs cells slots Q (F0 m pc ls (.int x :: .int i :: .ref a :: rest)) := by
  subst hi
  subst hg
  refine va_iast hexec hb hE.K hP hD hS q0 0 ha rfl (vp_in_nI hk hN) hdg ?_
  rw [nI_clamp (Nat.lt_trans hk hN)]
  exact kk
theorem r_tld (hexec : p.tables.exec = Jvm.exec) (hb : c.code = cc) {Cn nn : String} {N t : Nat} {f : Nat → Int32} (hT : Tab Cn nn N f t A s s.heap) (hS : va_S A s.heap H locs) (k : Nat) {i v : Int32} (hi : i = nI k) (hk : k < N) (hN : N < 2 ^ 31) (hv : f k = v) (hdg : decode cc pc = .ok (.iaload, 1))
    (kk : W p l e R s m args below meth c H locs cells slots Q (F0 m (pc + 1) ls (.int v :: rest))) : W p l e R s m args below meth c H locs cells slots Q (F0 m pc ls (.int i :: .ref t :: rest)) := by
  subst hi
  subst hv
  exact va_ti hexec hb hT.2 hS (vp_in_nI hk hN) (by rw [nI_clamp (Nat.lt_trans hk hN)]) hdg kk
theorem r_sld (hexec : p.tables.exec = Jvm.exec) (hb : c.code = cc) (hE : En sa tb D cA cL A s s.heap) (hS : va_S A s.heap H locs) (k : Nat) {i v : Int32} (hi : i = nI k) (hk : k < sa.2.1) (hv : sa.2.2 k = v) (hdg : decode cc pc = .ok (.iaload, 1))
    (kk : W p l e R s m args below meth c H locs cells slots Q (F0 m (pc + 1) ls (.int v :: rest))) : W p l e R s m args below meth c H locs cells slots Q (F0 m pc ls (.int i :: .ref sa.1 :: rest)) := by
  subst hi
  subst hv
  have hN : sa.2.1 < 2 ^ 31 := Nat.lt_of_le_of_lt hE.2.2.2.2.2 (by decide)
  exact va_ti hexec hb hE.2.2.2.2.1 hS (vp_in_nI hk hN) (by rw [nI_clamp (Nat.lt_trans hk hN)]) hdg kk
theorem r_ge {off : Int} {tgt : Nat} {a b : Nat} (hexec : p.tables.exec = Jvm.exec) (hb : c.code = cc) (ha : a < 2 ^ 31) (hb2 : b < 2 ^ 31) (hdg : decode cc pc = .ok (.if_icmp .ge off, 3)) (ht : (pc : Int) + off = (tgt : Int))
    (kt : b ≤ a → W p l e R s m args below meth c H locs cells slots Q (F0 m tgt ls rest)) (kf : a < b → W p l e R s m args below meth c H locs cells slots Q (F0 m (pc + 3) ls rest)) : W p l e R s m args below meth c H locs cells slots Q (F0 m pc ls (.int (nI b) :: .int (nI a) :: rest)) :=
  lv_icmp_ge hexec hb hdg ht (fun h => kt ((nI_leI hb2 ha).mp h)) (fun h => kf (Nat.lt_of_not_le (fun q => h ((nI_leI hb2 ha).mpr q))))
end LAY3
section LAY4
variable {p : Program} {l : Launch} {e : Env} {R : Room} {s : State} {m : MethodId} {args : Array Value} {below : List Frame} {meth : Method} {c : Code} {H : Heap} {locs : List Loc} {cells slots : Nat} {Q : State → Prop} {cc : ByteArray} {rest : List Value} {pc : Nat} {ls : Array Slot}
theorem rc_lt {off : Int} {tgt a b : Nat} (hexec : p.tables.exec = Jvm.exec) (hb : c.code = cc) (ha : a < 2 ^ 31) (hb2 : b < 2 ^ 31) (hdg : decode cc pc = .ok (.if_icmp .lt off, 3)) (ht : (pc : Int) + off = (tgt : Int)) (kt : a < b → W p l e R s m args below meth c H locs cells slots Q (F0 m tgt ls rest)) (kf : ¬ a < b → W p l e R s m args below meth c H locs cells slots Q (F0 m (pc + 3) ls rest)) : W p l e R s m args below meth c H locs cells slots Q (F0 m pc ls (.int (nI b) :: .int (nI a) :: rest)) :=
  lv_icmp_lt hexec hb hdg ht (fun h => kt ((nI_ltI ha hb2).mp h)) (fun h => kf (fun q => h ((nI_ltI ha hb2).mpr q)))
theorem rc_le {off : Int} {tgt a b : Nat} (hexec : p.tables.exec = Jvm.exec) (hb : c.code = cc) (ha : a < 2 ^ 31) (hb2 : b < 2 ^ 31) (hdg : decode cc pc = .ok (.if_icmp .le off, 3)) (ht : (pc : Int) + off = (tgt : Int)) (kt : a ≤ b → W p l e R s m args below meth c H locs cells slots Q (F0 m tgt ls rest)) (kf : ¬ a ≤ b → W p l e R s m args below meth c H locs cells slots Q (F0 m (pc + 3) ls rest)) : W p l e R s m args below meth c H locs cells slots Q (F0 m pc ls (.int (nI b) :: .int (nI a) :: rest)) :=
  lv_icmp_le hexec hb hdg ht (fun h => kt ((nI_leI ha hb2).mp h)) (fun h => kf (fun q => h ((nI_leI ha hb2).mpr q)))
theorem rc_gt {off : Int} {tgt a b : Nat} (hexec : p.tables.exec = Jvm.exec) (hb : c.code = cc) (ha : a < 2 ^ 31) (hb2 : b < 2 ^ 31) (hdg : decode cc pc = .ok (.if_icmp .gt off, 3)) (ht : (pc : Int) + off = (tgt : Int)) (kt : b < a → W p l e R s m args below meth c H locs cells slots Q (F0 m tgt ls rest)) (kf : ¬ b < a → W p l e R s m args below meth c H locs cells slots Q (F0 m (pc + 3) ls rest)) : W p l e R s m args below meth c H locs cells slots Q (F0 m pc ls (.int (nI b) :: .int (nI a) :: rest)) :=
  lv_icmp_gt hexec hb hdg ht (fun h => kt ((nI_ltI hb2 ha).mp h)) (fun h => kf (fun q => h ((nI_ltI hb2 ha).mpr q)))
theorem rc_ge {off : Int} {tgt a b : Nat} (hexec : p.tables.exec = Jvm.exec) (hb : c.code = cc) (ha : a < 2 ^ 31) (hb2 : b < 2 ^ 31) (hdg : decode cc pc = .ok (.if_icmp .ge off, 3)) (ht : (pc : Int) + off = (tgt : Int)) (kt : b ≤ a → W p l e R s m args below meth c H locs cells slots Q (F0 m tgt ls rest)) (kf : ¬ b ≤ a → W p l e R s m args below meth c H locs cells slots Q (F0 m (pc + 3) ls rest)) : W p l e R s m args below meth c H locs cells slots Q (F0 m pc ls (.int (nI b) :: .int (nI a) :: rest)) :=
  lv_icmp_ge hexec hb hdg ht (fun h => kt ((nI_leI hb2 ha).mp h)) (fun h => kf (fun q => h ((nI_leI hb2 ha).mpr q)))
theorem rc_eq {off : Int} {tgt a b : Nat} (hexec : p.tables.exec = Jvm.exec) (hb : c.code = cc) (ha : a < 2 ^ 31) (hb2 : b < 2 ^ 31) (hdg : decode cc pc = .ok (.if_icmp .eq off, 3)) (ht : (pc : Int) + off = (tgt : Int)) (kt : a = b → W p l e R s m args below meth c H locs cells slots Q (F0 m tgt ls rest)) (kf : ¬ a = b → W p l e R s m args below meth c H locs cells slots Q (F0 m (pc + 3) ls rest)) : W p l e R s m args below meth c H locs cells slots Q (F0 m pc ls (.int (nI b) :: .int (nI a) :: rest)) :=
  lv_icmp_eq hexec hb hdg ht (fun h => kt ((nI_eq ha hb2).mp h)) (fun h => kf (fun q => h ((nI_eq ha hb2).mpr q)))
theorem rc_ne {off : Int} {tgt a b : Nat} (hexec : p.tables.exec = Jvm.exec) (hb : c.code = cc) (ha : a < 2 ^ 31) (hb2 : b < 2 ^ 31) (hdg : decode cc pc = .ok (.if_icmp .ne off, 3)) (ht : (pc : Int) + off = (tgt : Int)) (kt : a ≠ b → W p l e R s m args below meth c H locs cells slots Q (F0 m tgt ls rest)) (kf : ¬ a ≠ b → W p l e R s m args below meth c H locs cells slots Q (F0 m (pc + 3) ls rest)) : W p l e R s m args below meth c H locs cells slots Q (F0 m pc ls (.int (nI b) :: .int (nI a) :: rest)) :=
  lv_icmp_ne hexec hb hdg ht (fun h => kt (fun q => h ((nI_eq ha hb2).mpr q))) (fun h => kf (fun q => q ((nI_eq ha hb2).mp h)))
theorem rz_ne {off : Int} {tgt a : Nat} (hexec : p.tables.exec = Jvm.exec) (hb : c.code = cc) (ha : a < 2 ^ 31) (hdg : decode cc pc = .ok (.ifCond .ne off, 3)) (ht : (pc : Int) + off = (tgt : Int)) (kt : a ≠ 0 → W p l e R s m args below meth c H locs cells slots Q (F0 m tgt ls rest)) (kf : a = 0 → W p l e R s m args below meth c H locs cells slots Q (F0 m (pc + 3) ls rest)) : W p l e R s m args below meth c H locs cells slots Q (F0 m pc ls (.int (nI a) :: rest)) :=
  lv_if_ne hexec hb hdg ht (fun h => kt (fun q => h (by rw [q]; exact nI_0))) (fun h => kf (Nat.eq_zero_of_not_pos (fun q => nI_ne0 q ha h)))
def imax (a b : Int32) : Int32 := if a < b then b else a
def imin (a b : Int32) : Int32 := if b < a then b else a
def iabs (x : Int32) : Int32 := if 0 ≤ x then x else 0 - x
def irem (x y : Int32) : Int32 := x - x / y * y
theorem r_mmax (hexec : p.tables.exec = Jvm.exec) (hb : c.code = cc) (hml : c.maxLocals = ls.size) {own : String} {index : Nat} (hown : s.vm.findClass own = some m.cls) (hlink : (Cond.methodLink own index Lib.Math.max.name).before args s = true) (hstat : (Cond.static Lib.Math.max.name).before args s = true) (hini : (Cond.initialized "java/lang/Math").before args s = true) (hcode : (Cond.code Lib.Math.max.name Lib.Math.max.code 2 (some .int)).before args s = true) (hframes : 1 ≤ R.frames) (hlocals : (rest.map fun v => v.category).sum + 13 ≤ R.locals) (hc : cells ≤ R.cells) (hs : slots ≤ R.slots) {x y : Int32} (hdg : decode cc pc = .ok (.invokestatic index, 3)) (kk : W p l e R s m args below meth c H locs cells slots Q (F0 m (pc + 3) ls (.int (imax x y) :: rest))) : W p l e R s m args below meth c H locs cells slots Q (F0 m pc ls (.int y :: .int x :: rest)) := va_mmax hexec hb hml hown hlink hstat hini hcode hframes hlocals hc hs hdg kk
theorem r_mmin (hexec : p.tables.exec = Jvm.exec) (hb : c.code = cc) (hml : c.maxLocals = ls.size) {own : String} {index : Nat} (hown : s.vm.findClass own = some m.cls) (hlink : (Cond.methodLink own index Lib.Math.min.name).before args s = true) (hstat : (Cond.static Lib.Math.min.name).before args s = true) (hini : (Cond.initialized "java/lang/Math").before args s = true) (hcode : (Cond.code Lib.Math.min.name Lib.Math.min.code 2 (some .int)).before args s = true) (hframes : 1 ≤ R.frames) (hlocals : (rest.map fun v => v.category).sum + 13 ≤ R.locals) (hc : cells ≤ R.cells) (hs : slots ≤ R.slots) {x y : Int32} (hdg : decode cc pc = .ok (.invokestatic index, 3)) (kk : W p l e R s m args below meth c H locs cells slots Q (F0 m (pc + 3) ls (.int (imin x y) :: rest))) : W p l e R s m args below meth c H locs cells slots Q (F0 m pc ls (.int y :: .int x :: rest)) := va_mmin hexec hb hml hown hlink hstat hini hcode hframes hlocals hc hs hdg kk
theorem r_mabs (hexec : p.tables.exec = Jvm.exec) (hb : c.code = cc) (hml : c.maxLocals = ls.size) {own : String} {index : Nat} (hown : s.vm.findClass own = some m.cls) (hlink : (Cond.methodLink own index Lib.Math.abs.name).before args s = true) (hstat : (Cond.static Lib.Math.abs.name).before args s = true) (hini : (Cond.initialized "java/lang/Math").before args s = true) (hcode : (Cond.code Lib.Math.abs.name Lib.Math.abs.code 1 (some .int)).before args s = true) (hframes : 1 ≤ R.frames) (hlocals : (rest.map fun v => v.category).sum + 13 ≤ R.locals) (hc : cells ≤ R.cells) (hs : slots ≤ R.slots) {x : Int32} (hdg : decode cc pc = .ok (.invokestatic index, 3)) (kk : W p l e R s m args below meth c H locs cells slots Q (F0 m (pc + 3) ls (.int (iabs x) :: rest))) : W p l e R s m args below meth c H locs cells slots Q (F0 m pc ls (.int x :: rest)) := va_mabs hexec hb hml hown hlink hstat hini hcode hframes hlocals hc hs hdg kk
theorem r_irem (hexec : p.tables.exec = Jvm.exec) (hb : c.code = cc) {x y : Int32} (hdg : decode cc pc = .ok (.irem, 1)) (hne : ¬ y = 0) (kk : W p l e R s m args below meth c H locs cells slots Q (F0 m (pc + 1) ls (.int (irem x y) :: rest))) : W p l e R s m args below meth c H locs cells slots Q (F0 m pc ls (.int y :: .int x :: rest)) := lv_irem hexec hb hdg hne kk
theorem rn_add {a b : Nat} (hexec : p.tables.exec = Jvm.exec) (hb : c.code = cc) (hdg : decode cc pc = .ok (.iadd, 1)) (k : W p l e R s m args below meth c H locs cells slots Q (F0 m (pc + 1) ls (.int (nI (a + b)) :: rest))) : W p l e R s m args below meth c H locs cells slots Q (F0 m pc ls (.int (nI b) :: .int (nI a) :: rest)) := lv_iadd hexec hb hdg (by rw [nI_add]; exact k)
theorem rn_mul {a b : Nat} (hexec : p.tables.exec = Jvm.exec) (hb : c.code = cc) (hdg : decode cc pc = .ok (.imul, 1)) (k : W p l e R s m args below meth c H locs cells slots Q (F0 m (pc + 1) ls (.int (nI (a * b)) :: rest))) : W p l e R s m args below meth c H locs cells slots Q (F0 m pc ls (.int (nI b) :: .int (nI a) :: rest)) := lv_imul hexec hb hdg (by rw [pk_mul]; exact k)
theorem rn_div {a b : Nat} (hexec : p.tables.exec = Jvm.exec) (hb : c.code = cc) (ha : a < 2 ^ 31) (h0 : 0 < b) (hb2 : b < 2 ^ 31) (hdg : decode cc pc = .ok (.idiv, 1)) (k : W p l e R s m args below meth c H locs cells slots Q (F0 m (pc + 1) ls (.int (nI (a / b)) :: rest))) : W p l e R s m args below meth c H locs cells slots Q (F0 m pc ls (.int (nI b) :: .int (nI a) :: rest)) := lv_idiv hexec hb hdg (nI_ne0 h0 hb2) (by rw [pk_div ha h0 hb2]; exact k)
theorem rn_rem {a b : Nat} (hexec : p.tables.exec = Jvm.exec) (hb : c.code = cc) (ha : a < 2 ^ 31) (h0 : 0 < b) (hb2 : b < 2 ^ 31) (hdg : decode cc pc = .ok (.irem, 1)) (k : W p l e R s m args below meth c H locs cells slots Q (F0 m (pc + 1) ls (.int (nI (a % b)) :: rest))) : W p l e R s m args below meth c H locs cells slots Q (F0 m pc ls (.int (nI b) :: .int (nI a) :: rest)) := lv_irem hexec hb hdg (nI_ne0 h0 hb2) (by rw [pk_rem ha h0 hb2]; exact k)
end LAY4
theorem iinc1 (i : Nat) : nI i + Int32.ofInt 1 = nI (i + 1) := by
  rw [show Int32.ofInt 1 = (1 : Int32) from by decide]; exact nI_1 i
