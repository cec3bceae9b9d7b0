/-! 15: what the statement gives of the start: what every call stands on -/
abbrev g9 : List Cond := flatC (Jvm.Cond.and given_1 narrow_1)
theorem mem_plf {α : Type} {big : List Cond} {l : List α} {f : α → Cond} (ps : List Nat) (h : l.map (fun q => some (f q)) = ps.map (fun i => big[i]?)) : ∀ q ∈ l, f q ∈ big := by
  intro q hq
  have h1 : some (f q) ∈ l.map (fun q => some (f q)) := List.mem_map_of_mem (f := fun q => some (f q)) hq
  rw [h] at h1
  obtain ⟨i, -, hi⟩ := List.mem_map.mp h1
  exact List.mem_of_getElem? hi
set_option maxRecDepth 100000 in
theorem e9_nF : ∀ q ∈ nF, Cond.fieldLinkNest q.1 q.2.1 q.2.2.1 q.2.2.2.1 q.2.2.2.2.1 q.2.2.2.2.2 ∈ lw_tbl := mem_plf (l := nF) (f := fun q => Cond.fieldLinkNest q.1 q.2.1 q.2.2.1 q.2.2.2.1 q.2.2.2.2.1 q.2.2.2.2.2) [109, 65, 152, 63, 107, 148, 68, 145, 143, 150, 201, 249, 244, 62, 106, 73, 75, 112, 114, 116, 137] (by decide +kernel)
set_option maxRecDepth 100000 in
theorem e9_nM : ∀ q ∈ nM, Cond.methodLinkNest q.1 q.2.1 q.2.2.1 q.2.2.2 ∈ lw_tbl := mem_plf (l := nM) (f := fun q => Cond.methodLinkNest q.1 q.2.1 q.2.2.1 q.2.2.2) [51, 235, 579, 584, 57, 101, 132] (by decide +kernel)
set_option maxRecDepth 100000 in
theorem e9_sT : ∀ q ∈ sT, Cond.stringRef q.1 q.2.1 q.2.2 ∈ lw_tbl := mem_plf (l := sT) (f := fun q => Cond.stringRef q.1 q.2.1 q.2.2) [348, 355, 369, 392, 418, 422, 472, 501, 516, 621, 391, 488, 540, 312, 433, 613] (by decide +kernel)
set_option maxRecDepth 100000 in
theorem e9_sX : ∀ q ∈ sT, Cond.exactly (.string q.1 q.2.1) "java/lang/String" ∈ g9 := mem_plf (l := sT) (f := fun q => Cond.exactly (.string q.1 q.2.1) "java/lang/String") [104, 127, 154, 205, 237, 267, 340, 407, 462, 580, 177, 371, 504, 80, 305, 542] (by decide +kernel)
set_option maxRecDepth 100000 in
theorem e9_dW : ∀ q ∈ dW, Cond.declares q ∈ lw_tbl := mem_plf (l := dW) (f := fun q => Cond.declares q) [275, 277, 279] (by decide +kernel)
set_option maxRecDepth 100000 in
theorem e9_cW : ∀ q ∈ cW, Cond.castable q.1 q.2 ∈ lw_tbl := mem_plf (l := cW) (f := fun q => Cond.castable q.1 q.2) [273, 341, 362] (by decide +kernel)
set_option maxRecDepth 100000 in
theorem e9_nc : ∀ q ∈ ncW, Cond.not (.castable q.1 q.2) ∈ g9 := mem_plf (l := ncW) (f := fun q => Cond.not (.castable q.1 q.2)) [62, 63, 70, 71, 78, 79] (by decide +kernel)
def tb9 : List (String × String × Nat × (Nat → Int32)) := [("SedgeBarges", "GROWTH", 10, growF), ("SedgeBarges", "LANDING_PLACE", 3, plF), ("SedgeBarges", "LANDING_WORTH", 3, woF), ("SedgeBargesModel", "GROWTH", 10, growF), ("SedgeBargesModel", "LANDING", 3, plF), ("SedgeBargesModel", "WORTH", 3, woF)]
set_option maxRecDepth 100000 in
theorem e9_tA1 : ∀ q ∈ tb9, Cond.laysStatic q.1 q.2.1 "[I" ∈ lw_tbl := mem_plf (l := tb9) (f := fun q => Cond.laysStatic q.1 q.2.1 "[I") [202, 239, 250, 698, 779, 788] (by decide +kernel)
set_option maxRecDepth 100000 in
theorem e9_tA2 : ∀ q ∈ tb9, Cond.initialized q.1 ∈ lw_tbl := mem_plf (l := tb9) (f := fun q => Cond.initialized q.1) [27, 27, 27, 32, 32, 32] (by decide +kernel)
set_option maxRecDepth 100000 in
theorem e9_tB1 : ∀ q ∈ tb9, Cond.arrayOf (.static q.1 q.2.1 "[I") .int ∈ g9 := mem_plf (l := tb9) (f := fun q => Cond.arrayOf (.static q.1 q.2.1 "[I") .int) [5, 18, 24, 32, 45, 51] (by decide +kernel)
set_option maxRecDepth 100000 in
theorem e9_tB2 : ∀ q ∈ tb9, Cond.eq (.length (.static q.1 q.2.1 "[I")) (.int (Int32.ofNat q.2.2.1)) ∈ g9 := mem_plf (l := tb9) (f := fun q => Cond.eq (.length (.static q.1 q.2.1 "[I")) (.int (Int32.ofNat q.2.2.1))) [6, 19, 25, 33, 46, 52] (by decide +kernel)
set_option maxRecDepth 100000 in
theorem e9_tC0 : ∀ j, j < 10 → g9[7 + j]? = some (Cond.eq (.elem (.static "SedgeBarges" "GROWTH" "[I") (.int (Int32.ofNat j))) (.int (growF j))) := by decide +kernel
set_option maxRecDepth 100000 in
theorem e9_tC1 : ∀ j, j < 3 → g9[20 + j]? = some (Cond.eq (.elem (.static "SedgeBarges" "LANDING_PLACE" "[I") (.int (Int32.ofNat j))) (.int (plF j))) := by decide +kernel
set_option maxRecDepth 100000 in
theorem e9_tC2 : ∀ j, j < 3 → g9[26 + j]? = some (Cond.eq (.elem (.static "SedgeBarges" "LANDING_WORTH" "[I") (.int (Int32.ofNat j))) (.int (woF j))) := by decide +kernel
set_option maxRecDepth 100000 in
theorem e9_tC3 : ∀ j, j < 10 → g9[34 + j]? = some (Cond.eq (.elem (.static "SedgeBargesModel" "GROWTH" "[I") (.int (Int32.ofNat j))) (.int (growF j))) := by decide +kernel
set_option maxRecDepth 100000 in
theorem e9_tC4 : ∀ j, j < 3 → g9[47 + j]? = some (Cond.eq (.elem (.static "SedgeBargesModel" "LANDING" "[I") (.int (Int32.ofNat j))) (.int (plF j))) := by decide +kernel
set_option maxRecDepth 100000 in
theorem e9_tC5 : ∀ j, j < 3 → g9[53 + j]? = some (Cond.eq (.elem (.static "SedgeBargesModel" "WORTH" "[I") (.int (Int32.ofNat j))) (.int (woF j))) := by decide +kernel
theorem e9_tC : ∀ q ∈ tb9, ∀ j, j < q.2.2.1 → Cond.eq (.elem (.static q.1 q.2.1 "[I") (.int (Int32.ofNat j))) (.int (q.2.2.2 j)) ∈ g9 :=
  List.forall_mem_cons.mpr ⟨fun j hj => List.mem_of_getElem? (e9_tC0 j hj), List.forall_mem_cons.mpr ⟨fun j hj => List.mem_of_getElem? (e9_tC1 j hj), List.forall_mem_cons.mpr ⟨fun j hj => List.mem_of_getElem? (e9_tC2 j hj), List.forall_mem_cons.mpr ⟨fun j hj => List.mem_of_getElem? (e9_tC3 j hj), List.forall_mem_cons.mpr ⟨fun j hj => List.mem_of_getElem? (e9_tC4 j hj), List.forall_mem_cons.mpr ⟨fun j hj => List.mem_of_getElem? (e9_tC5 j hj), fun _ h => absurd h List.not_mem_nil⟩⟩⟩⟩⟩⟩
set_option maxRecDepth 100000 in
theorem e9_zA : (Cond.laysStatic Bundle.tN "UNASSIGNED_STACK" Bundle.steD ∈ lw_tbl ∧ Cond.laysStatic Bundle.tN "SUPPRESSED_SENTINEL" Bundle.listD ∈ lw_tbl) ∧ Cond.initialized Bundle.tN ∈ lw_tbl := ⟨⟨List.mem_of_getElem? (i := 298) (by decide +kernel), List.mem_of_getElem? (i := 300) (by decide +kernel)⟩, List.mem_of_getElem? (i := 33) (by decide +kernel)⟩
set_option maxRecDepth 100000 in
theorem e9_zB : Cond.isRef (.static Bundle.tN "UNASSIGNED_STACK" Bundle.steD) ∈ g9 ∧ Cond.isRef (.static Bundle.tN "SUPPRESSED_SENTINEL" Bundle.listD) ∈ g9 := ⟨List.mem_of_getElem? (i := 29) (by decide +kernel), List.mem_of_getElem? (i := 30) (by decide +kernel)⟩
set_option maxRecDepth 100000 in
theorem e9_ar : Cond.arrayClass .int ∈ lw_tbl ∧ Cond.arrayClass .long ∈ lw_tbl := ⟨List.mem_of_getElem? (i := 98) (by decide +kernel), List.mem_of_getElem? (i := 876) (by decide +kernel)⟩
set_option maxRecDepth 100000 in
theorem e9_in : (Cond.instantiable RX0 6 ∈ lw_tbl ∧ Cond.instantiable RX1 10 ∈ lw_tbl ∧ Cond.instantiable RX2 1 ∈ lw_tbl) ∧ Cond.instantiable RX3 7 ∈ lw_tbl ∧ Cond.instantiable RX4 2 ∈ lw_tbl ∧ Cond.instantiable RX5 14 ∈ lw_tbl := ⟨⟨List.mem_of_getElem? (i := 100) (by decide +kernel), List.mem_of_getElem? (i := 56) (by decide +kernel), List.mem_of_getElem? (i := 131) (by decide +kernel)⟩, List.mem_of_getElem? (i := 50) (by decide +kernel), List.mem_of_getElem? (i := 42) (by decide +kernel), List.mem_of_getElem? (i := 623) (by decide +kernel)⟩
section ENV
variable {s : State} {args : Array Value}
theorem e9_int (h : (Cond.arrayClass .int).before args s = true) : ∃ cA : ClassId, ArrOfT s cA .int ∧ va_RA s cA .int := by
  obtain ⟨c, k, comp, h1, h2, h3⟩ := Cond.arrayClass_spec (show (Cond.arrayClass .int).holds args s none s [] = true from h)
  exact ⟨c, fun n z => ⟨fun k h => (by cases h), k, h2, comp, h3⟩, h1⟩
theorem e9_long (h : (Cond.arrayClass .long).before args s = true) : ∃ cA : ClassId, ArrOfT s cA .long ∧ va_RA s cA .long := by
  obtain ⟨c, k, comp, h1, h2, h3⟩ := Cond.arrayClass_spec (show (Cond.arrayClass .long).holds args s none s [] = true from h)
  exact ⟨c, fun n z => ⟨fun k h => (by cases h), k, h2, comp, h3⟩, h1⟩
theorem e9_tab {A : Nat → Prop} (hts : ∀ w ∈ lw_tbl, w.before args s = true) (hg : ∀ w ∈ g9, w.before args s = true) (hA : ∀ a : Nat, a < s.heap.size → ¬ A a) (q : String × String × Nat × (Nat → Int32)) (hq : q ∈ tb9) (hN : q.2.2.1 < 2 ^ 31) : ∃ t : Nat, Tab q.1 q.2.1 q.2.2.1 q.2.2.2 t A s s.heap := by
  obtain ⟨t, ht, hT⟩ := va_Tof (A := A) (tm := .static q.1 q.2.1 "[I") (ty := .int) (N := q.2.2.1) (f := fun j => .int (q.2.2.2 j)) hN (hg _ (e9_tB1 q hq)) (Cond.eq_int (hg _ (e9_tB2 q hq)) rfl) (fun j hj => Cond.eq_int (hg _ (e9_tC q hq j hj)) rfl) hA
  exact ⟨t, va_Zref (hts _ (e9_tA1 q hq)) (hts _ (e9_tA2 q hq)) ht hA, hT⟩
theorem e9_txt (hts : ∀ w ∈ lw_tbl, w.before args s = true) (hg : ∀ w ∈ g9, w.before args s = true) (k : Nat) : ∃ a : Nat, ∀ q : String × Nat × String, sT[k]? = some q → vk_R q.1 q.2.1 q.2.2 a s := by
  cases h : sT[k]? with
  | none => exact ⟨0, fun q hq => by cases hq⟩
  | some q =>
    have hm : q ∈ sT := List.mem_of_getElem? h
    obtain ⟨a, c, cell, kk, h1, -⟩ := Cond.exactly_spec (show (Cond.exactly (.string q.1 q.2.1) "java/lang/String").holds args s none s [] = true from hg _ (e9_sX q hm))
    exact ⟨a, fun q' hq => by cases hq; exact vk_R.of (hts _ (e9_sT q hm)) h1⟩
theorem e9_cls (hts : ∀ w ∈ lw_tbl, w.before args s = true) (k : Nat) : ∃ x : ClassId × (Nat → Nat), ∀ q : vw_C, vwCl[k]? = some q → u_Kn s q.1 q.2.1 q.2.2 x.1 x.2 := by
  obtain ⟨⟨i0, i1, i2⟩, i3, i4, i5⟩ := e9_in
  match k with
  | 0 => obtain ⟨c, i, h⟩ := u_known (C := RX0) (T := TX0) (N := 6) (n := 6) hts inX0 (hts _ i0); exact ⟨(c, i), fun q hq => by cases hq; exact h⟩
  | 1 => obtain ⟨c, i, h⟩ := u_known (C := RX1) (T := TX1) (N := 10) (n := 10) hts inX1 (hts _ i1); exact ⟨(c, i), fun q hq => by cases hq; exact h⟩
  | 2 => obtain ⟨c, i, h⟩ := u_known (C := RX2) (T := TX2) (N := 1) (n := 1) hts inX2 (hts _ i2); exact ⟨(c, i), fun q hq => by cases hq; exact h⟩
  | 3 => obtain ⟨c, i, h⟩ := u_known (C := RX3) (T := TX3) (N := 7) (n := 7) hts inX3 (hts _ i3); exact ⟨(c, i), fun q hq => by cases hq; exact h⟩
  | 4 => obtain ⟨c, i, h⟩ := u_known (C := RX4) (T := TX4) (N := 2) (n := 2) hts inX4 (hts _ i4); exact ⟨(c, i), fun q hq => by cases hq; exact h⟩
  | 5 => obtain ⟨c, i, h⟩ := u_known (C := RX5) (T := TX5) (N := 14) (n := 14) hts inX5 (hts _ i5); exact ⟨(c, i), fun q hq => by cases hq; exact h⟩
  | k + 6 => exact ⟨(0, fun _ => 0), fun q hq => by simp at hq⟩
/-- what every call stands on holds at the law's entry -/
theorem En_start {A : Nat → Prop} (hts : ∀ w ∈ lw_tbl, w.before args s = true) (hgv : (Jvm.Cond.and given_1 narrow_1).before args s = true) (hA : ∀ a : Nat, a < s.heap.size → ¬ A a) : ∃ (sa tb : Nat → Nat) (D : va_G) (cA cL : ClassId), En sa tb D cA cL A s s.heap := by
  have hg : ∀ w ∈ g9, w.before args s = true := flat_of_before _ hgv
  obtain ⟨cA, a1, a2⟩ := e9_int (hts _ e9_ar.1)
  obtain ⟨cL, b1, b2⟩ := e9_long (hts _ e9_ar.2)
  obtain ⟨t0, T0⟩ := e9_tab (A := A) hts hg hA _ (List.mem_of_getElem? (l := tb9) (i := 0) rfl) (by decide)
  obtain ⟨t1, T1⟩ := e9_tab (A := A) hts hg hA _ (List.mem_of_getElem? (l := tb9) (i := 1) rfl) (by decide)
  obtain ⟨t2, T2⟩ := e9_tab (A := A) hts hg hA _ (List.mem_of_getElem? (l := tb9) (i := 2) rfl) (by decide)
  obtain ⟨t3, T3⟩ := e9_tab (A := A) hts hg hA _ (List.mem_of_getElem? (l := tb9) (i := 3) rfl) (by decide)
  obtain ⟨t4, T4⟩ := e9_tab (A := A) hts hg hA _ (List.mem_of_getElem? (l := tb9) (i := 4) rfl) (by decide)
  obtain ⟨t5, T5⟩ := e9_tab (A := A) hts hg hA _ (List.mem_of_getElem? (l := tb9) (i := 5) rfl) (by decide)
  refine ⟨fun k => Classical.choose (e9_txt hts hg k), fun k => match k with | 0 => t0 | 1 => t1 | 2 => t2 | 3 => t3 | 4 => t4 | _ => t5, (fun k => (Classical.choose (e9_cls hts k)).1, fun k => (Classical.choose (e9_cls hts k)).2), cA, cL, ⟨fun k q hq => Classical.choose_spec (e9_cls hts k) q hq, fun k q hq => ?_⟩, fun q hq => va_Nw.of rfl (hts _ (e9_nF q hq)), fun q hq => va_Nw.of rfl (hts _ (e9_nM q hq)), fun k q hq => Classical.choose_spec (e9_txt hts hg k) q hq, fun q hq => va_Nw.of rfl (hts _ (e9_dW q hq)), fun q hq => va_Nw.of rfl (hts _ (e9_cW q hq)), fun q hq => va_Nc.of (hg _ (e9_nc q hq)), ⟨T0, T1, T2, T3, T4, T5⟩, vx_Zqof (hts _ e9_zA.1.1) (hts _ e9_zA.2) (hg _ e9_zB.1) hA, vx_Zqof (hts _ e9_zA.1.2) (hts _ e9_zA.2) (hg _ e9_zB.2) hA⟩
  match k, hq with
  | 0, hq => cases hq; exact ⟨a1, a2⟩
  | 1, hq => cases hq; exact ⟨b1, b2⟩
  | k + 2, hq => simp at hq
end ENV
