/-! 19: what the statement gives of the start: what every call stands on -/
abbrev g9 : List Cond := flatC (Jvm.Cond.and given_1 narrow_1)
theorem mem_plf {α : Type} {big : List Cond} {l : List α} {f : α → Cond} (ps : List Nat) (h : l.map (fun q => some (f q)) = ps.map (fun i => big[i]?)) : ∀ q ∈ l, f q ∈ big := by
  intro q hq
  have h1 : some (f q) ∈ l.map (fun q => some (f q)) := List.mem_map_of_mem (f := fun q => some (f q)) hq
  rw [h] at h1
  obtain ⟨i, -, hi⟩ := List.mem_map.mp h1
  exact List.mem_of_getElem? hi
set_option maxRecDepth 100000 in
theorem e9_nF : ∀ q ∈ nF, Cond.fieldLinkNest q.1 q.2.1 q.2.2.1 q.2.2.2.1 q.2.2.2.2.1 q.2.2.2.2.2 ∈ lw_tbl := mem_plf (l := nF) (f := fun q => Cond.fieldLinkNest q.1 q.2.1 q.2.2.1 q.2.2.2.1 q.2.2.2.2.1 q.2.2.2.2.2) [446, 402, 488, 400, 444, 484, 405, 481, 486, 121, 227, 256, 399, 443, 410, 412, 449, 451, 453, 474] (by decide +kernel)
set_option maxRecDepth 100000 in
theorem e9_nM : ∀ q ∈ nM, Cond.methodLinkNest q.1 q.2.1 q.2.2.1 q.2.2.2 ∈ lw_tbl := mem_plf (l := nM) (f := fun q => Cond.methodLinkNest q.1 q.2.1 q.2.2.1 q.2.2.2) [389, 243, 298, 305, 394, 438, 469] (by decide +kernel)
def tb9 : List (String × String × Nat × (Nat → Int32)) := [("SedgeBarges", "GROWTH", 10, growF), ("SedgeBarges", "LANDING_PLACE", 3, plF), ("SedgeBarges", "LANDING_WORTH", 3, woF), ("SedgeBargesLaw", "WORTH", 3, woF)]
set_option maxRecDepth 100000 in
theorem e9_tA1 : ∀ q ∈ tb9, Cond.laysStatic q.1 q.2.1 "[I" ∈ lw_tbl := mem_plf (l := tb9) (f := fun q => Cond.laysStatic q.1 q.2.1 "[I") [122, 217, 228, 540] (by decide +kernel)
set_option maxRecDepth 100000 in
theorem e9_tA2 : ∀ q ∈ tb9, Cond.initialized q.1 ∈ lw_tbl := mem_plf (l := tb9) (f := fun q => Cond.initialized q.1) [6, 6, 6, 5] (by decide +kernel)
set_option maxRecDepth 100000 in
theorem e9_tB1 : ∀ q ∈ tb9, Cond.arrayOf (.static q.1 q.2.1 "[I") .int ∈ g9 := mem_plf (l := tb9) (f := fun q => Cond.arrayOf (.static q.1 q.2.1 "[I") .int) [7, 20, 26, 32] (by decide +kernel)
set_option maxRecDepth 100000 in
theorem e9_tB2 : ∀ q ∈ tb9, Cond.eq (.length (.static q.1 q.2.1 "[I")) (.int (Int32.ofNat q.2.2.1)) ∈ g9 := mem_plf (l := tb9) (f := fun q => Cond.eq (.length (.static q.1 q.2.1 "[I")) (.int (Int32.ofNat q.2.2.1))) [8, 21, 27, 33] (by decide +kernel)
set_option maxRecDepth 100000 in
theorem e9_tC0 : ∀ j, j < 10 → g9[9 + j]? = some (Cond.eq (.elem (.static "SedgeBarges" "GROWTH" "[I") (.int (Int32.ofNat j))) (.int (growF j))) := by decide +kernel
set_option maxRecDepth 100000 in
theorem e9_tC1 : ∀ j, j < 3 → g9[22 + j]? = some (Cond.eq (.elem (.static "SedgeBarges" "LANDING_PLACE" "[I") (.int (Int32.ofNat j))) (.int (plF j))) := by decide +kernel
set_option maxRecDepth 100000 in
theorem e9_tC2 : ∀ j, j < 3 → g9[28 + j]? = some (Cond.eq (.elem (.static "SedgeBarges" "LANDING_WORTH" "[I") (.int (Int32.ofNat j))) (.int (woF j))) := by decide +kernel
set_option maxRecDepth 100000 in
theorem e9_tC3 : ∀ j, j < 3 → g9[34 + j]? = some (Cond.eq (.elem (.static "SedgeBargesLaw" "WORTH" "[I") (.int (Int32.ofNat j))) (.int (woF j))) := by decide +kernel
theorem e9_tC : ∀ q ∈ tb9, ∀ j, j < q.2.2.1 → Cond.eq (.elem (.static q.1 q.2.1 "[I") (.int (Int32.ofNat j))) (.int (q.2.2.2 j)) ∈ g9 := List.forall_mem_cons.mpr ⟨fun j hj => List.mem_of_getElem? (e9_tC0 j hj), List.forall_mem_cons.mpr ⟨fun j hj => List.mem_of_getElem? (e9_tC1 j hj), List.forall_mem_cons.mpr ⟨fun j hj => List.mem_of_getElem? (e9_tC2 j hj), List.forall_mem_cons.mpr ⟨fun j hj => List.mem_of_getElem? (e9_tC3 j hj), fun _ h => absurd h List.not_mem_nil⟩⟩⟩⟩
set_option maxRecDepth 100000 in
theorem e9_ar : Cond.arrayClass .int ∈ lw_tbl := List.mem_of_getElem? (i := 435) (by decide +kernel)
set_option maxRecDepth 100000 in
theorem e9_in : (Cond.instantiable RX0 6 ∈ lw_tbl ∧ Cond.instantiable RX1 10 ∈ lw_tbl ∧ Cond.instantiable RX2 1 ∈ lw_tbl) ∧ Cond.instantiable RX3 7 ∈ lw_tbl ∧ Cond.instantiable RX4 2 ∈ lw_tbl := ⟨⟨List.mem_of_getElem? (i := 437) (by decide +kernel), List.mem_of_getElem? (i := 169) (by decide +kernel), List.mem_of_getElem? (i := 468) (by decide +kernel)⟩, List.mem_of_getElem? (i := 286) (by decide +kernel), List.mem_of_getElem? (i := 25) (by decide +kernel)⟩
section ENV
variable {s : State} {args : Array Value}
theorem e9_int (h : (Cond.arrayClass .int).before args s = true) : ∃ cA : ClassId, ArrOfT s cA .int ∧ va_RA s cA .int := by
  obtain ⟨c, k, comp, h1, h2, h3⟩ := Cond.arrayClass_spec (show (Cond.arrayClass .int).holds args s none s [] = true from h)
  exact ⟨c, fun n z => ⟨fun k h => (by cases h), k, h2, comp, h3⟩, h1⟩
theorem e9_tab {A : Nat → Prop} (hts : ∀ w ∈ lw_tbl, w.before args s = true) (hg : ∀ w ∈ g9, w.before args s = true) (hA : ∀ a : Nat, a < s.heap.size → ¬ A a) (q : String × String × Nat × (Nat → Int32)) (hq : q ∈ tb9) (hN : q.2.2.1 < 2 ^ 31) : ∃ t : Nat, Tab q.1 q.2.1 q.2.2.1 q.2.2.2 t A s s.heap := by
  obtain ⟨t, ht, hT⟩ := va_Tof (A := A) (tm := .static q.1 q.2.1 "[I") (ty := .int) (N := q.2.2.1) (f := fun j => .int (q.2.2.2 j)) hN (hg _ (e9_tB1 q hq)) (Cond.eq_int (hg _ (e9_tB2 q hq)) rfl) (fun j hj => Cond.eq_int (hg _ (e9_tC q hq j hj)) rfl) hA
  exact ⟨t, va_Zref (hts _ (e9_tA1 q hq)) (hts _ (e9_tA2 q hq)) ht hA, hT⟩
theorem e9_cls (hts : ∀ w ∈ lw_tbl, w.before args s = true) (k : Nat) : ∃ x : ClassId × (Nat → Nat), ∀ q : vw_C, vwCl[k]? = some q → u_Kn s q.1 q.2.1 q.2.2 x.1 x.2 := by
  obtain ⟨⟨i0, i1, i2⟩, i3, i4⟩ := e9_in
  match k with
  | 0 => obtain ⟨c, i, h⟩ := u_known (C := RX0) (T := TX0) (N := 6) (n := 6) hts inX0 (hts _ i0); exact ⟨(c, i), fun q hq => by cases hq; exact h⟩
  | 1 => obtain ⟨c, i, h⟩ := u_known (C := RX1) (T := TX1) (N := 10) (n := 10) hts inX1 (hts _ i1); exact ⟨(c, i), fun q hq => by cases hq; exact h⟩
  | 2 => obtain ⟨c, i, h⟩ := u_known (C := RX2) (T := TX2) (N := 1) (n := 1) hts inX2 (hts _ i2); exact ⟨(c, i), fun q hq => by cases hq; exact h⟩
  | 3 => obtain ⟨c, i, h⟩ := u_known (C := RX3) (T := TX3) (N := 7) (n := 7) hts inX3 (hts _ i3); exact ⟨(c, i), fun q hq => by cases hq; exact h⟩
  | 4 => obtain ⟨c, i, h⟩ := u_known (C := RX4) (T := TX4) (N := 2) (n := 2) hts inX4 (hts _ i4); exact ⟨(c, i), fun q hq => by cases hq; exact h⟩
  | k + 5 => exact ⟨(0, fun _ => 0), fun q hq => by simp at hq⟩
/-- what every call stands on holds at the law's entry -/
theorem En_start {A : Nat → Prop} {b L : Nat} {xs : Nat → Int32} (hts : ∀ w ∈ lw_tbl, w.before args s = true) (hgv : (Jvm.Cond.and given_1 narrow_1).before args s = true) (hA : ∀ a : Nat, a < s.heap.size → ¬ A a) (hX : va_X b L xs s s.heap) (hL : L ≤ 260) (hbA : ¬ A b) : ∃ (tb : Nat → Nat) (D : va_G) (cA cL : ClassId), En (b, L, xs) tb D cA cL A s s.heap := by
  have hg : ∀ w ∈ g9, w.before args s = true := flat_of_before _ hgv
  obtain ⟨cA, a1, a2⟩ := e9_int (hts _ e9_ar)
  obtain ⟨t0, T0⟩ := e9_tab (A := A) hts hg hA _ (List.mem_of_getElem? (l := tb9) (i := 0) rfl) (by decide)
  obtain ⟨t1, T1⟩ := e9_tab (A := A) hts hg hA _ (List.mem_of_getElem? (l := tb9) (i := 1) rfl) (by decide)
  obtain ⟨t2, T2⟩ := e9_tab (A := A) hts hg hA _ (List.mem_of_getElem? (l := tb9) (i := 2) rfl) (by decide)
  obtain ⟨t3, T3⟩ := e9_tab (A := A) hts hg hA _ (List.mem_of_getElem? (l := tb9) (i := 3) rfl) (by decide)
  obtain ⟨scr, hcb, hof, hkn, hsz, hval⟩ := hX
  have hTs : va_T .int b L (fun j => .int (xs j)) A s s.heap := ⟨scr, hcb, hof, hkn, Nat.le_of_eq hsz.symm, by rw [hsz], hval, hbA⟩
  refine ⟨fun k => match k with | 0 => t0 | 1 => t1 | 2 => t2 | _ => t3, (fun k => (Classical.choose (e9_cls hts k)).1, fun k => (Classical.choose (e9_cls hts k)).2), cA, cA, ⟨fun k q hq => Classical.choose_spec (e9_cls hts k) q hq, fun k q hq => ?_⟩, fun q hq => va_Nw.of rfl (hts _ (e9_nF q hq)), fun q hq => va_Nw.of rfl (hts _ (e9_nM q hq)), ⟨T0, T1, T2, T3⟩, hTs, hL⟩
  match k, hq with
  | 0, hq => cases hq; exact ⟨a1, a2⟩
  | k + 1, hq => simp at hq
end ENV
