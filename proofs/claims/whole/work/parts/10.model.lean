set_option maxRecDepth 100000 in
set_option maxHeartbeats 4000000 in
theorem m_thrown (sa tb : Nat → Nat) (D : va_G) (cA cL : ClassId) (l : Launch) (h : Nat) (mm : Nat → Nat) (th : Int32) (dy : Int32) (co : Int32) (ti : Int32) (ro : Int32) (n : Nat) (nb : Nat)  : KM sa tb D cA cL l yX5_thrown wsX5_thrown ({ frames := 0, cells := 0, slots := 0, locals := 0 }) [.ref h] ([oMod h mm th dy co ti ro n nb]) (qI D (fun (r : Int32) (_ : Unit) => r = th) (fun _ => [oMod h mm th dy co ti ro n nb])) := by
  refine KM.of (cc := cX5_thrown) (maxL := 1) (ret := some .int) (by decide) rfl (Nat.le_of_ble_eq_true rfl) ?_
  intro pg e s m args below meth c A hx hb hr hml hlocks hts hown hS hA hE hP hD ls hl
  have hown : s.vm.findClass RX5 = some m.cls := hown
  have hl : lv_has ls 1 [(0, .ref h)] := hl
  have hwX5 : ∀ w ∈ wsX50, w ∈ wsX5_thrown := (fun _ h => List.mem_cons_of_mem _ (List.mem_append_right _ h))
  refine lv_aload_n hx hb dX5_thrown_0 rfl (lv_at hl 0 rfl) ?_
  refine va_get (D := D) (ci := 5) (v := .int th) (C := RX5) (T := TX5) (N := 14) hx hb hts hwX5 hown hE.K hP 0 rfl rfl 0 (by decide) (hts (.fieldLink RX5 38 "SedgeBargesModel" "thrown" "I") (List.mem_of_getElem? (i := 1) rfl)) (fun _ h9 => h9) rfl dX5_thrown_1 ?_
  exact enI () hx hb hr hlocks hS hP (rfl) dX5_thrown_4
set_option maxRecDepth 100000 in
set_option maxHeartbeats 4000000 in
theorem m_no (sa tb : Nat → Nat) (D : va_G) (cA cL : ClassId) (l : Launch) (h : Nat) (mm : Nat → Nat) (th : Int32) (dy : Int32) (co : Int32) (ti : Int32) (ro : Int32) (n : Nat) (nb : Nat) (x : Int32)  : KM sa tb D cA cL l yX5_no wsX5_no ({ frames := 0, cells := 0, slots := 0, locals := 0 }) [.ref h, .int x] ([oMod h mm th dy co ti ro n nb]) (qI D (fun (r : Int32) (_ : Unit) => r = 0) (fun _ => [oMod h mm x dy co ti ro n nb])) := by
  refine KM.of (cc := cX5_no) (maxL := 2) (ret := some .int) (by decide) rfl (Nat.le_of_ble_eq_true rfl) ?_
  intro pg e s m args below meth c A hx hb hr hml hlocks hts hown hS hA hE hP hD ls hl
  have hown : s.vm.findClass RX5 = some m.cls := hown
  have hl : lv_has ls 2 [(0, .ref h), (1, .int x)] := hl
  have hwX5 : ∀ w ∈ wsX50, w ∈ wsX5_no := (fun _ h => List.mem_cons_of_mem _ (List.mem_append_right _ h))
  refine lv_aload_n hx hb dX5_no_0 rfl (lv_at hl 0 rfl) ?_
  refine lv_iload_n hx hb dX5_no_1 rfl (lv_at hl 1 rfl) ?_
  refine va_put (D := D) (ci := 5) (v := .int x) (ty := .int) (C := RX5) (T := TX5) (N := 14) hx hb hts hwX5 tyX5 tyX5_ok nmX5 hown hE.K hP hD hS 0 rfl rfl 0 (by decide) (hts (.fieldLink RX5 38 "SedgeBargesModel" "thrown" "I") (List.mem_of_getElem? (i := 1) rfl)) (fun _ h9 => h9) rfl (by decide +kernel) rfl rfl (Nat.le_of_ble_eq_true rfl) dX5_no_2 (fun H locs hP hD hS => ?_)
  have hP : va_P D vwCl ([oMod h mm x dy co ti ro n nb]) H := hP
  have hD : va_D A ([oMod h mm x dy co ti ro n nb]) := hD
  refine lv_iconst (v := 0) hx hb dX5_no_5 (by decide) ?_
  exact enI () hx hb hr hlocks hS hP (rfl) dX5_no_6
set_option maxRecDepth 100000 in
set_option maxHeartbeats 4000000 in
theorem m_isIn (sa tb : Nat → Nat) (D : va_G) (cA cL : ClassId) (l : Launch) (p1 : Int32) (p2 : Int32) (p3 : Int32)  : KM sa tb D cA cL l yX5_isIn wsX5_isIn ({ frames := 0, cells := 0, slots := 0, locals := 0 }) [.int p1, .int p2, .int p3] ([]) (qI D (fun (r : Int32) (_ : Unit) => r = bI (isInB p1 p2 p3)) (fun _ => [])) := by
  refine KM.of (cc := cX5_isIn) (maxL := 3) (ret := some .boolean) (by decide) rfl (Nat.le_of_ble_eq_true rfl) ?_
  intro pg e s m args below meth c A hx hb hr hml hlocks hts hown hS hA hE hP hD ls hl
  have hown : s.vm.findClass RX5 = some m.cls := hown
  have hl : lv_has ls 3 [(0, .int p1), (1, .int p2), (2, .int p3)] := hl
  refine lv_iload_n hx hb dX5_isIn_0 rfl (lv_at hl 0 rfl) ?_
  refine lv_iload_n hx hb dX5_isIn_1 rfl (lv_at hl 1 rfl) ?_
  refine lv_icmp_lt (tgt := 14) hx hb dX5_isIn_2 (by decide) (fun c_2 => ?_) (fun c_2 => ?_)
  · refine lv_iconst (v := 0) hx hb dX5_isIn_14 (by decide) ?_
    exact enZ () hx hb hr hlocks hS hP (by first | rfl | decide) (by first | exact (congrArg bI (isIn_no (Or.inl c_2))).symm | exact (congrArg bI (isIn_no (Or.inr (Int32.not_le.mpr c_7)))).symm | exact (congrArg bI (isIn_yes c_2 (Int32.not_lt.mp c_7))).symm) dX5_isIn_15
  · refine lv_iload_n hx hb dX5_isIn_5 rfl (lv_at hl 0 rfl) ?_
    refine lv_iload_n hx hb dX5_isIn_6 rfl (lv_at hl 2 rfl) ?_
    refine lv_icmp_gt (tgt := 14) hx hb dX5_isIn_7 (by decide) (fun c_7 => ?_) (fun c_7 => ?_)
    · refine lv_iconst (v := 0) hx hb dX5_isIn_14 (by decide) ?_
      exact enZ () hx hb hr hlocks hS hP (by first | rfl | decide) (by first | exact (congrArg bI (isIn_no (Or.inl c_2))).symm | exact (congrArg bI (isIn_no (Or.inr (Int32.not_le.mpr c_7)))).symm | exact (congrArg bI (isIn_yes c_2 (Int32.not_lt.mp c_7))).symm) dX5_isIn_15
    · refine lv_iconst (v := 1) hx hb dX5_isIn_10 (by decide) ?_
      refine lv_goto (tgt := 15) hx hb dX5_isIn_11 (by decide) ?_
      exact enZ () hx hb hr hlocks hS hP (by first | rfl | decide) (by first | exact (congrArg bI (isIn_no (Or.inl c_2))).symm | exact (congrArg bI (isIn_no (Or.inr (Int32.not_le.mpr c_7)))).symm | exact (congrArg bI (isIn_yes c_2 (Int32.not_lt.mp c_7))).symm) dX5_isIn_15
set_option maxRecDepth 100000 in
set_option maxHeartbeats 4000000 in
theorem m_isBed (sa tb : Nat → Nat) (D : va_G) (cA cL : ClassId) (l : Launch) (h : Nat) (mm : Nat → Nat) (th : Int32) (dy : Int32) (co : Int32) (ti : Int32) (ro : Int32) (n : Nat) (nb : Nat) (x : Int32)  : KM sa tb D cA cL l yX5_isBed wsX5_isBed ({ frames := 1, cells := 0, slots := 0, locals := 22 }) [.ref h, .int x] ([oMod h mm th dy co ti ro n nb]) (qI D (fun (r : Int32) (_ : Unit) => r = bI (isInB x 0 (nI n - 1))) (fun _ => [oMod h mm th dy co ti ro n nb])) := by
  refine KM.of (cc := cX5_isBed) (maxL := 2) (ret := some .boolean) (by decide) rfl (Nat.le_of_ble_eq_true rfl) ?_
  intro pg e s m args below meth c A hx hb hr hml hlocks hts hown hS hA hE hP hD ls hl
  have hown : s.vm.findClass RX5 = some m.cls := hown
  have hl : lv_has ls 2 [(0, .ref h), (1, .int x)] := hl
  have hwX5 : ∀ w ∈ wsX50, w ∈ wsX5_isBed := (fun _ h => List.mem_cons_of_mem _ (List.mem_append_right _ h))
  refine lv_iload_n hx hb dX5_isBed_0 rfl (lv_at hl 1 rfl) ?_
  refine lv_iconst (v := 0) hx hb dX5_isBed_1 (by decide) ?_
  refine lv_aload_n hx hb dX5_isBed_2 rfl (lv_at hl 0 rfl) ?_
  refine va_get (D := D) (ci := 5) (v := .int (nI n)) (C := RX5) (T := TX5) (N := 14) hx hb hts hwX5 hown hE.K hP 0 rfl rfl 5 (by decide) (hts (.fieldLink RX5 41 "SedgeBargesModel" "beds" "I") (List.mem_of_getElem? (i := 1) rfl)) (fun _ h9 => h9) rfl dX5_isBed_3 ?_
  refine lv_iconst (v := 1) hx hb dX5_isBed_6 (by decide) ?_
  refine lv_isub hx hb dX5_isBed_7 ?_
  refine goI ([]) ([oMod h mm th dy co ti ro n nb]) hP hD hS hA (rnS (rest := []) (m_isIn sa tb D cA cL l x 0 ((nI n) - 1) ) ([]) ([oMod h mm th dy co ti ro n nb]) hP hD hS hA hE ⟨hx, hb, hml, hown, hts⟩ (va_cwS 3 hts gX5_isBed_X5_isIn rfl rfl rfl (by decide +kernel) ⟨(Nat.le_of_ble_eq_true rfl), (Nat.le_of_ble_eq_true rfl)⟩) rfl hl.1 rfl (Nat.le_of_ble_eq_true rfl) dX5_isBed_8 ⟨(Nat.le_of_ble_eq_true rfl), (Nat.le_of_ble_eq_true rfl)⟩) (fun _ => rfl) (fun r_8 u_8 H locs hw_8 hP hD hS => ?_)
  have hP : va_P D vwCl ([oMod h mm th dy co ti ro n nb]) H := hP
  have hD : va_D A ([oMod h mm th dy co ti ro n nb]) := hD
  obtain rfl : r_8 = bI (isInB x 0 ((nI n) - 1)) := hw_8
  exact enZ () hx hb hr hlocks hS hP (nar_bI _) (rfl) dX5_isBed_11
set_option maxRecDepth 100000 in
set_option maxHeartbeats 4000000 in
theorem m_isBarge (sa tb : Nat → Nat) (D : va_G) (cA cL : ClassId) (l : Launch) (h : Nat) (mm : Nat → Nat) (th : Int32) (dy : Int32) (co : Int32) (ti : Int32) (ro : Int32) (n : Nat) (nb : Nat) (x : Int32)  : KM sa tb D cA cL l yX5_isBarge wsX5_isBarge ({ frames := 1, cells := 0, slots := 0, locals := 22 }) [.ref h, .int x] ([oMod h mm th dy co ti ro n nb]) (qI D (fun (r : Int32) (_ : Unit) => r = bI (isInB x 0 (nI nb - 1))) (fun _ => [oMod h mm th dy co ti ro n nb])) := by
  refine KM.of (cc := cX5_isBarge) (maxL := 2) (ret := some .boolean) (by decide) rfl (Nat.le_of_ble_eq_true rfl) ?_
  intro pg e s m args below meth c A hx hb hr hml hlocks hts hown hS hA hE hP hD ls hl
  have hown : s.vm.findClass RX5 = some m.cls := hown
  have hl : lv_has ls 2 [(0, .ref h), (1, .int x)] := hl
  have hwX5 : ∀ w ∈ wsX50, w ∈ wsX5_isBarge := (fun _ h => List.mem_cons_of_mem _ (List.mem_append_right _ h))
  refine lv_iload_n hx hb dX5_isBarge_0 rfl (lv_at hl 1 rfl) ?_
  refine lv_iconst (v := 0) hx hb dX5_isBarge_1 (by decide) ?_
  refine lv_aload_n hx hb dX5_isBarge_2 rfl (lv_at hl 0 rfl) ?_
  refine va_get (D := D) (ci := 5) (v := .int (nI nb)) (C := RX5) (T := TX5) (N := 14) hx hb hts hwX5 hown hE.K hP 0 rfl rfl 6 (by decide) (hts (.fieldLink RX5 48 "SedgeBargesModel" "barges" "I") (List.mem_of_getElem? (i := 1) rfl)) (fun _ h9 => h9) rfl dX5_isBarge_3 ?_
  refine lv_iconst (v := 1) hx hb dX5_isBarge_6 (by decide) ?_
  refine lv_isub hx hb dX5_isBarge_7 ?_
  refine goI ([]) ([oMod h mm th dy co ti ro n nb]) hP hD hS hA (rnS (rest := []) (m_isIn sa tb D cA cL l x 0 ((nI nb) - 1) ) ([]) ([oMod h mm th dy co ti ro n nb]) hP hD hS hA hE ⟨hx, hb, hml, hown, hts⟩ (va_cwS 3 hts gX5_isBarge_X5_isIn rfl rfl rfl (by decide +kernel) ⟨(Nat.le_of_ble_eq_true rfl), (Nat.le_of_ble_eq_true rfl)⟩) rfl hl.1 rfl (Nat.le_of_ble_eq_true rfl) dX5_isBarge_8 ⟨(Nat.le_of_ble_eq_true rfl), (Nat.le_of_ble_eq_true rfl)⟩) (fun _ => rfl) (fun r_8 u_8 H locs hw_8 hP hD hS => ?_)
  have hP : va_P D vwCl ([oMod h mm th dy co ti ro n nb]) H := hP
  have hD : va_D A ([oMod h mm th dy co ti ro n nb]) := hD
  obtain rfl : r_8 = bI (isInB x 0 ((nI nb) - 1)) := hw_8
  exact enZ () hx hb hr hlocks hS hP (nar_bI _) (rfl) dX5_isBarge_11
set_option maxRecDepth 100000 in
set_option maxHeartbeats 4000000 in
theorem m_gives (sa tb : Nat → Nat) (D : va_G) (cA cL : ClassId) (l : Launch) (xb : Nat) (B : Nat → Nat → Int32) (k : Nat) (hk : k < 8) (hg : ∃ j, j < 10 ∧ B 2 k = nI j) : KM sa tb D cA cL l yX5_gives wsX5_gives ({ frames := 0, cells := 0, slots := 0, locals := 0 }) [.ref xb, .int (nI (8 * k))] ([(xb, I_ cA 64 (pkB B))]) (qI D (fun (r : Int32) (_ : Unit) => r = given B k) (fun _ => [(xb, I_ cA 64 (pkB B))])) := by
  refine KM.of (cc := cX5_gives) (maxL := 2) (ret := some .int) (by decide) rfl (Nat.le_of_ble_eq_true rfl) ?_
  intro pg e s m args below meth c A hx hb hr hml hlocks hts hown hS hA hE hP hD ls hl
  have hown : s.vm.findClass RX5 = some m.cls := hown
  have hl : lv_has ls 2 [(0, .ref xb), (1, .int (nI (8 * k)))] := hl
  refine lv_iconst (v := 3) hx hb dX5_gives_0 (by decide) ?_
  refine lv_aload_n hx hb dX5_gives_1 rfl (lv_at hl 0 rfl) ?_
  refine lv_iload_n hx hb dX5_gives_2 rfl (lv_at hl 1 rfl) ?_
  refine lv_iconst (v := 1) hx hb dX5_gives_3 (by decide) ?_
  refine rn_add (a := 8 * k) (b := 1) hx hb dX5_gives_4 ?_
  refine r_ald (f := pkB B) (v := B 1 k) hx hb hE hP 0 (8 * k + 1) rfl (congrArg nI (by omega)) (by omega) (by decide) (pkB_at 1 (k) (by decide)) dX5_gives_5 ?_
  refine lv_imul hx hb dX5_gives_6 ?_
  refine va_gets hx hb (hE.2.2.2.2.2.2.2.1.2.2.2.1).1 hS hown (hts (.fieldLink RX5 51 "SedgeBargesModel" "GROWTH" "[I") (List.mem_of_getElem? (i := 1) rfl)) (fun _ h9 => h9) dX5_gives_7 ?_
  refine lv_aload_n hx hb dX5_gives_10 rfl (lv_at hl 0 rfl) ?_
  refine lv_iload_n hx hb dX5_gives_11 rfl (lv_at hl 1 rfl) ?_
  refine lv_iconst (v := 2) hx hb dX5_gives_12 (by decide) ?_
  refine rn_add (a := 8 * k) (b := 2) hx hb dX5_gives_13 ?_
  refine r_ald (f := pkB B) (v := B 2 k) hx hb hE hP 0 (8 * k + 2) rfl (congrArg nI (by omega)) (by omega) (by decide) (pkB_at 2 (k) (by decide)) dX5_gives_14 ?_
  obtain ⟨j_1, hj_1, ej_1⟩ : ∃ j : Nat, j < 10 ∧ (B 2 k : Int32) = nI j := hg
  refine r_tld (v := gro (B 2 k)) hx hb (hE.2.2.2.2.2.2.2.1.2.2.2.1) hS j_1 ej_1 hj_1 (by decide) (gro_in ej_1 (by omega)).symm dX5_gives_15 ?_
  refine lv_imul hx hb dX5_gives_16 ?_
  exact enI () hx hb hr hlocks hS hP (rfl) dX5_gives_17
set_option maxRecDepth 100000 in
set_option maxHeartbeats 4000000 in
theorem m_givesSedge (sa tb : Nat → Nat) (D : va_G) (cA cL : ClassId) (l : Launch) (xb : Nat) (B : Nat → Nat → Int32) (k : Nat) (hk : k < 8) (hg : ∃ j, j < 10 ∧ B 2 k = nI j) : KM sa tb D cA cL l yX5_givesSedge wsX5_givesSedge ({ frames := 1, cells := 0, slots := 0, locals := 21 }) [.ref xb, .int (nI (8 * k))] ([(xb, I_ cA 64 (pkB B))]) (qI D (fun (r : Int32) (_ : Unit) => r = sgiv B k) (fun _ => [(xb, I_ cA 64 (pkB B))])) := by
  refine KM.of (cc := cX5_givesSedge) (maxL := 2) (ret := some .int) (by decide) rfl (Nat.le_of_ble_eq_true rfl) ?_
  intro pg e s m args below meth c A hx hb hr hml hlocks hts hown hS hA hE hP hD ls hl
  have hown : s.vm.findClass RX5 = some m.cls := hown
  have hl : lv_has ls 2 [(0, .ref xb), (1, .int (nI (8 * k)))] := hl
  refine lv_aload_n hx hb dX5_givesSedge_0 rfl (lv_at hl 0 rfl) ?_
  refine lv_iload_n hx hb dX5_givesSedge_1 rfl (lv_at hl 1 rfl) ?_
  refine goI ([]) ([]) hP hD hS hA (rnS (rest := []) (m_gives sa tb D cA cL l xb B k (show k < 8 from by first | omega | assumption | decide) (show ∃ j, j < 10 ∧ B 2 k = nI j from by first | omega | assumption | decide)) ([]) ([]) hP hD hS hA hE ⟨hx, hb, hml, hown, hts⟩ (va_cwS 2 hts gX5_givesSedge_X5_gives rfl rfl rfl (by decide +kernel) ⟨(Nat.le_of_ble_eq_true rfl), (Nat.le_of_ble_eq_true rfl)⟩) rfl hl.1 rfl (Nat.le_of_ble_eq_true rfl) dX5_givesSedge_2 ⟨(Nat.le_of_ble_eq_true rfl), (Nat.le_of_ble_eq_true rfl)⟩) (fun _ => rfl) (fun r_2 u_2 H locs hw_2 hP hD hS => ?_)
  have hP : va_P D vwCl ([(xb, I_ cA 64 (pkB B))]) H := hP
  have hD : va_D A ([(xb, I_ cA 64 (pkB B))]) := hD
  obtain rfl : r_2 = given B k := hw_2
  refine lv_aload_n hx hb dX5_givesSedge_5 rfl (lv_at hl 0 rfl) ?_
  refine lv_iload_n hx hb dX5_givesSedge_6 rfl (lv_at hl 1 rfl) ?_
  refine lv_iconst (v := 3) hx hb dX5_givesSedge_7 (by decide) ?_
  refine rn_add (a := 8 * k) (b := 3) hx hb dX5_givesSedge_8 ?_
  refine r_ald (f := pkB B) (v := B 3 k) hx hb hE hP 0 (8 * k + 3) rfl (congrArg nI (by omega)) (by omega) (by decide) (pkB_at 3 (k) (by decide)) dX5_givesSedge_9 ?_
  refine lv_imul hx hb dX5_givesSedge_10 ?_
  refine lv_bipush (v := 100) hx hb dX5_givesSedge_11 (by decide) ?_
  refine lv_idiv hx hb dX5_givesSedge_13 (by decide) ?_
  exact enI () hx hb hr hlocks hS hP (rfl) dX5_givesSedge_14
set_option maxRecDepth 100000 in
set_option maxHeartbeats 4000000 in
theorem m_bed (sa tb : Nat → Nat) (D : va_G) (cA cL : ClassId) (l : Launch) (h : Nat) (mm : Nat → Nat) (th : Int32) (dy : Int32) (co : Int32) (ti : Int32) (ro : Int32) (n : Nat) (nb : Nat) (B : Nat → Nat → Int32) (G : Nat → Nat → Int32) (T : Nat → Int32) (BA : Nat → Nat → Int32) (GA : Nat → Nat → Int32) (TA : Nat → Int32) (mo : Nat → Int32) (p1 : Int32) (p2 : Int32) (p3 : Int32) (q0 : ¬ p1 < 0) (q1 : p1 ≤ 30) (q2 : ¬ p2 < 1) (q3 : p2 ≤ 9) (q4 : ¬ p3 < 0) (q5 : p3 ≤ 100) (hn : n < 8) : KM sa tb D cA cL l yX5_bed wsX5_bed ({ frames := 1, cells := 0, slots := 0, locals := 22 }) [.ref h, .int p1, .int p2, .int p3] (wMod cA h mm th dy co ti ro n nb B G T BA GA TA mo) (qI D (fun (r : Int32) (_ : Unit) => r = nI n) (fun _ => wMod cA h mm 0 dy co ti ro (n + 1) nb (addB B n p1 p2 p3) G T BA GA TA mo)) := by
  refine KM.of (cc := cX5_bed) (maxL := 5) (ret := some .int) (by decide) rfl (Nat.le_of_ble_eq_true rfl) ?_
  intro pg e s m args below meth c A hx hb hr hml hlocks hts hown hS hA hE hP hD ls hl
  have hown : s.vm.findClass RX5 = some m.cls := hown
  have hl : lv_has ls 5 [(0, .ref h), (1, .int p1), (2, .int p2), (3, .int p3)] := hl
  have hwX5 : ∀ w ∈ wsX50, w ∈ wsX5_bed := (fun _ h => List.mem_cons_of_mem _ (List.mem_append_right _ h))
  refine lv_aload_n hx hb dX5_bed_0 rfl (lv_at hl 0 rfl) ?_
  refine lv_iconst (v := 0) hx hb dX5_bed_1 (by decide) ?_
  refine va_put (D := D) (ci := 5) (v := .int 0) (ty := .int) (C := RX5) (T := TX5) (N := 14) hx hb hts hwX5 tyX5 tyX5_ok nmX5 hown hE.K hP hD hS 0 rfl rfl 0 (by decide) (hts (.fieldLink RX5 38 "SedgeBargesModel" "thrown" "I") (List.mem_of_getElem? (i := 1) rfl)) (fun _ h9 => h9) rfl (by decide +kernel) rfl rfl (Nat.le_of_ble_eq_true rfl) dX5_bed_2 (fun H locs hP hD hS => ?_)
  have hP : va_P D vwCl (wMod cA h mm 0 dy co ti ro n nb B G T BA GA TA mo) H := hP
  have hD : va_D A (wMod cA h mm 0 dy co ti ro n nb B G T BA GA TA mo) := hD
  refine lv_iload_n hx hb dX5_bed_5 rfl (lv_at hl 1 rfl) ?_
  refine lv_iconst (v := 0) hx hb dX5_bed_6 (by decide) ?_
  refine lv_bipush (v := 30) hx hb dX5_bed_7 (by decide) ?_
  refine goI ([]) (wMod cA h mm 0 dy co ti ro n nb B G T BA GA TA mo) hP hD hS hA (rnS (rest := []) (m_isIn sa tb D cA cL l p1 0 30 ) ([]) (wMod cA h mm 0 dy co ti ro n nb B G T BA GA TA mo) hP hD hS hA hE ⟨hx, hb, hml, hown, hts⟩ (va_cwS 3 hts gX5_bed_X5_isIn rfl rfl rfl (by decide +kernel) ⟨(Nat.le_of_ble_eq_true rfl), (Nat.le_of_ble_eq_true rfl)⟩) rfl hl.1 rfl (Nat.le_of_ble_eq_true rfl) dX5_bed_9 ⟨(Nat.le_of_ble_eq_true rfl), (Nat.le_of_ble_eq_true rfl)⟩) (fun _ => rfl) (fun r_9 u_9 H locs hw_9 hP hD hS => ?_)
  have hP : va_P D vwCl (wMod cA h mm 0 dy co ti ro n nb B G T BA GA TA mo) H := hP
  have hD : va_D A (wMod cA h mm 0 dy co ti ro n nb B G T BA GA TA mo) := hD
  obtain rfl : r_9 = bI (isInB p1 0 30) := hw_9
  refine lv_if_ne (tgt := 21) hx hb dX5_bed_12 (by decide) (fun c_12 => ?_) (fun c_12 => False.elim (by exact absurd ((bI0 c_12).symm.trans (isIn_yes q0 q1)) (by decide)))
  refine lv_iload_n hx hb dX5_bed_21 rfl (lv_at hl 2 rfl) ?_
  refine lv_iconst (v := 1) hx hb dX5_bed_22 (by decide) ?_
  refine lv_bipush (v := 9) hx hb dX5_bed_23 (by decide) ?_
  refine goI ([]) (wMod cA h mm 0 dy co ti ro n nb B G T BA GA TA mo) hP hD hS hA (rnS (rest := []) (m_isIn sa tb D cA cL l p2 1 9 ) ([]) (wMod cA h mm 0 dy co ti ro n nb B G T BA GA TA mo) hP hD hS hA hE ⟨hx, hb, hml, hown, hts⟩ (va_cwS 3 hts gX5_bed_X5_isIn rfl rfl rfl (by decide +kernel) ⟨(Nat.le_of_ble_eq_true rfl), (Nat.le_of_ble_eq_true rfl)⟩) rfl hl.1 rfl (Nat.le_of_ble_eq_true rfl) dX5_bed_25 ⟨(Nat.le_of_ble_eq_true rfl), (Nat.le_of_ble_eq_true rfl)⟩) (fun _ => rfl) (fun r_25 u_25 H locs hw_25 hP hD hS => ?_)
  have hP : va_P D vwCl (wMod cA h mm 0 dy co ti ro n nb B G T BA GA TA mo) H := hP
  have hD : va_D A (wMod cA h mm 0 dy co ti ro n nb B G T BA GA TA mo) := hD
  obtain rfl : r_25 = bI (isInB p2 1 9) := hw_25
  refine lv_if_eq (tgt := 41) hx hb dX5_bed_28 (by decide) (fun c_28 => False.elim (by exact absurd ((bI0 c_28).symm.trans (isIn_yes q2 q3)) (by decide))) (fun c_28 => ?_)
  refine lv_iload_n hx hb dX5_bed_31 rfl (lv_at hl 3 rfl) ?_
  refine lv_iconst (v := 0) hx hb dX5_bed_32 (by decide) ?_
  refine lv_bipush (v := 100) hx hb dX5_bed_33 (by decide) ?_
  refine goI ([]) (wMod cA h mm 0 dy co ti ro n nb B G T BA GA TA mo) hP hD hS hA (rnS (rest := []) (m_isIn sa tb D cA cL l p3 0 100 ) ([]) (wMod cA h mm 0 dy co ti ro n nb B G T BA GA TA mo) hP hD hS hA hE ⟨hx, hb, hml, hown, hts⟩ (va_cwS 3 hts gX5_bed_X5_isIn rfl rfl rfl (by decide +kernel) ⟨(Nat.le_of_ble_eq_true rfl), (Nat.le_of_ble_eq_true rfl)⟩) rfl hl.1 rfl (Nat.le_of_ble_eq_true rfl) dX5_bed_35 ⟨(Nat.le_of_ble_eq_true rfl), (Nat.le_of_ble_eq_true rfl)⟩) (fun _ => rfl) (fun r_35 u_35 H locs hw_35 hP hD hS => ?_)
  have hP : va_P D vwCl (wMod cA h mm 0 dy co ti ro n nb B G T BA GA TA mo) H := hP
  have hD : va_D A (wMod cA h mm 0 dy co ti ro n nb B G T BA GA TA mo) := hD
  obtain rfl : r_35 = bI (isInB p3 0 100) := hw_35
  refine lv_if_ne (tgt := 47) hx hb dX5_bed_38 (by decide) (fun c_38 => ?_) (fun c_38 => False.elim (by exact absurd ((bI0 c_38).symm.trans (isIn_yes q4 q5)) (by decide)))
  refine lv_aload_n hx hb dX5_bed_47 rfl (lv_at hl 0 rfl) ?_
  refine va_get (D := D) (ci := 5) (v := .int (nI n)) (C := RX5) (T := TX5) (N := 14) hx hb hts hwX5 hown hE.K hP 0 rfl rfl 5 (by decide) (hts (.fieldLink RX5 41 "SedgeBargesModel" "beds" "I") (List.mem_of_getElem? (i := 2) rfl)) (fun _ h9 => h9) rfl dX5_bed_48 ?_
  refine lv_bipush (v := 8) hx hb dX5_bed_51 (by decide) ?_
  refine rc_ne (tgt := 62) (a := n) (b := 8) hx hb (by omega) (by omega) dX5_bed_53 (by decide) (fun c_53 => ?_) (fun c_53 => False.elim (by omega))
  refine lv_bipush (v := 8) hx hb dX5_bed_62 (by decide) ?_
  refine lv_aload_n hx hb dX5_bed_64 rfl (lv_at hl 0 rfl) ?_
  refine va_get (D := D) (ci := 5) (v := .int (nI n)) (C := RX5) (T := TX5) (N := 14) hx hb hts hwX5 hown hE.K hP 0 rfl rfl 5 (by decide) (hts (.fieldLink RX5 41 "SedgeBargesModel" "beds" "I") (List.mem_of_getElem? (i := 2) rfl)) (fun _ h9 => h9) rfl dX5_bed_65 ?_
  refine rn_mul (a := 8) (b := n) hx hb dX5_bed_68 ?_
  refine lv_istore (lv' := [(4, .int (nI (8 * n))), (0, .ref h), (1, .int p1), (2, .int p2), (3, .int p3)]) hx hb dX5_bed_69 hl (by decide) rfl (fun ls hl => ?_)
  refine lv_aload_n hx hb dX5_bed_71 rfl (lv_at hl 1 rfl) ?_
  refine va_get (D := D) (ci := 5) (v := .ref (mm 0)) (C := RX5) (T := TX5) (N := 14) hx hb hts hwX5 hown hE.K hP 0 rfl rfl 7 (by decide) (hts (.fieldLink RX5 16 "SedgeBargesModel" "b" "[I") (List.mem_of_getElem? (i := 3) rfl)) (fun _ h9 => h9) rfl dX5_bed_72 ?_
  refine lv_iload hx hb dX5_bed_75 (lv_at hl 0 rfl) ?_
  refine lv_iconst (v := 0) hx hb dX5_bed_77 (by decide) ?_
  refine rn_add (a := 8 * n) (b := 0) hx hb dX5_bed_78 ?_
  refine lv_iload_n hx hb dX5_bed_79 rfl (lv_at hl 2 rfl) ?_
  refine r_ast (f := pkB B) (g := pkB (st B 0 n p1)) hx hb hE hP hD hS 1 (8 * n + 0) rfl (congrArg nI (by omega)) (by omega) (by decide) (pkB_up 0 (n) _ (by decide)) dX5_bed_80 (fun H locs hP hD hS => ?_)
  have hP : va_P D vwCl (wMod cA h mm 0 dy co ti ro n nb (st B 0 n p1) G T BA GA TA mo) H := hP
  have hD : va_D A (wMod cA h mm 0 dy co ti ro n nb (st B 0 n p1) G T BA GA TA mo) := hD
  generalize hB_1 : st B 0 n p1 = B_1 at hP hD
  refine lv_aload_n hx hb dX5_bed_81 rfl (lv_at hl 1 rfl) ?_
  refine va_get (D := D) (ci := 5) (v := .ref (mm 0)) (C := RX5) (T := TX5) (N := 14) hx hb hts hwX5 hown hE.K hP 0 rfl rfl 7 (by decide) (hts (.fieldLink RX5 16 "SedgeBargesModel" "b" "[I") (List.mem_of_getElem? (i := 3) rfl)) (fun _ h9 => h9) rfl dX5_bed_82 ?_
  refine lv_iload hx hb dX5_bed_85 (lv_at hl 0 rfl) ?_
  refine lv_iconst (v := 1) hx hb dX5_bed_87 (by decide) ?_
  refine rn_add (a := 8 * n) (b := 1) hx hb dX5_bed_88 ?_
  refine lv_iload_n hx hb dX5_bed_89 rfl (lv_at hl 3 rfl) ?_
  refine r_ast (f := pkB B_1) (g := pkB (st B_1 1 n p2)) hx hb hE hP hD hS 1 (8 * n + 1) rfl (congrArg nI (by omega)) (by omega) (by decide) (pkB_up 1 (n) _ (by decide)) dX5_bed_90 (fun H locs hP hD hS => ?_)
  have hP : va_P D vwCl (wMod cA h mm 0 dy co ti ro n nb (st B_1 1 n p2) G T BA GA TA mo) H := hP
  have hD : va_D A (wMod cA h mm 0 dy co ti ro n nb (st B_1 1 n p2) G T BA GA TA mo) := hD
  generalize hB_2 : st B_1 1 n p2 = B_2 at hP hD
  refine lv_aload_n hx hb dX5_bed_91 rfl (lv_at hl 1 rfl) ?_
  refine va_get (D := D) (ci := 5) (v := .ref (mm 0)) (C := RX5) (T := TX5) (N := 14) hx hb hts hwX5 hown hE.K hP 0 rfl rfl 7 (by decide) (hts (.fieldLink RX5 16 "SedgeBargesModel" "b" "[I") (List.mem_of_getElem? (i := 3) rfl)) (fun _ h9 => h9) rfl dX5_bed_92 ?_
  refine lv_iload hx hb dX5_bed_95 (lv_at hl 0 rfl) ?_
  refine lv_iconst (v := 2) hx hb dX5_bed_97 (by decide) ?_
  refine rn_add (a := 8 * n) (b := 2) hx hb dX5_bed_98 ?_
  refine lv_iconst (v := 3) hx hb dX5_bed_99 (by decide) ?_
  refine r_ast (f := pkB B_2) (g := pkB (st B_2 2 n 3)) hx hb hE hP hD hS 1 (8 * n + 2) rfl (congrArg nI (by omega)) (by omega) (by decide) (pkB_up 2 (n) _ (by decide)) dX5_bed_100 (fun H locs hP hD hS => ?_)
  have hP : va_P D vwCl (wMod cA h mm 0 dy co ti ro n nb (st B_2 2 n 3) G T BA GA TA mo) H := hP
  have hD : va_D A (wMod cA h mm 0 dy co ti ro n nb (st B_2 2 n 3) G T BA GA TA mo) := hD
  generalize hB_3 : st B_2 2 n 3 = B_3 at hP hD
  refine lv_aload_n hx hb dX5_bed_101 rfl (lv_at hl 1 rfl) ?_
  refine va_get (D := D) (ci := 5) (v := .ref (mm 0)) (C := RX5) (T := TX5) (N := 14) hx hb hts hwX5 hown hE.K hP 0 rfl rfl 7 (by decide) (hts (.fieldLink RX5 16 "SedgeBargesModel" "b" "[I") (List.mem_of_getElem? (i := 3) rfl)) (fun _ h9 => h9) rfl dX5_bed_102 ?_
  refine lv_iload hx hb dX5_bed_105 (lv_at hl 0 rfl) ?_
  refine lv_iconst (v := 3) hx hb dX5_bed_107 (by decide) ?_
  refine rn_add (a := 8 * n) (b := 3) hx hb dX5_bed_108 ?_
  refine lv_iload_n hx hb dX5_bed_109 rfl (lv_at hl 4 rfl) ?_
  refine r_ast (f := pkB B_3) (g := pkB (st B_3 3 n p3)) hx hb hE hP hD hS 1 (8 * n + 3) rfl (congrArg nI (by omega)) (by omega) (by decide) (pkB_up 3 (n) _ (by decide)) dX5_bed_110 (fun H locs hP hD hS => ?_)
  have hP : va_P D vwCl (wMod cA h mm 0 dy co ti ro n nb (st B_3 3 n p3) G T BA GA TA mo) H := hP
  have hD : va_D A (wMod cA h mm 0 dy co ti ro n nb (st B_3 3 n p3) G T BA GA TA mo) := hD
  generalize hB_4 : st B_3 3 n p3 = B_4 at hP hD
  refine lv_aload_n hx hb dX5_bed_111 rfl (lv_at hl 1 rfl) ?_
  refine lv_dup hx hb dX5_bed_112 rfl ?_
  refine va_get (D := D) (ci := 5) (v := .int (nI n)) (C := RX5) (T := TX5) (N := 14) hx hb hts hwX5 hown hE.K hP 0 rfl rfl 5 (by decide) (hts (.fieldLink RX5 41 "SedgeBargesModel" "beds" "I") (List.mem_of_getElem? (i := 2) rfl)) (fun _ h9 => h9) rfl dX5_bed_113 ?_
  refine lv_iconst (v := 1) hx hb dX5_bed_116 (by decide) ?_
  refine rn_add (a := n) (b := 1) hx hb dX5_bed_117 ?_
  refine va_put (D := D) (ci := 5) (v := .int (nI (n + 1))) (ty := .int) (C := RX5) (T := TX5) (N := 14) hx hb hts hwX5 tyX5 tyX5_ok nmX5 hown hE.K hP hD hS 0 rfl rfl 5 (by decide) (hts (.fieldLink RX5 41 "SedgeBargesModel" "beds" "I") (List.mem_of_getElem? (i := 2) rfl)) (fun _ h9 => h9) rfl (by decide +kernel) rfl rfl (Nat.le_of_ble_eq_true rfl) dX5_bed_118 (fun H locs hP hD hS => ?_)
  have hP : va_P D vwCl (wMod cA h mm 0 dy co ti ro (n + 1) nb B_4 G T BA GA TA mo) H := hP
  have hD : va_D A (wMod cA h mm 0 dy co ti ro (n + 1) nb B_4 G T BA GA TA mo) := hD
  refine lv_aload_n hx hb dX5_bed_121 rfl (lv_at hl 1 rfl) ?_
  refine va_get (D := D) (ci := 5) (v := .int (nI (n + 1))) (C := RX5) (T := TX5) (N := 14) hx hb hts hwX5 hown hE.K hP 0 rfl rfl 5 (by decide) (hts (.fieldLink RX5 41 "SedgeBargesModel" "beds" "I") (List.mem_of_getElem? (i := 2) rfl)) (fun _ h9 => h9) rfl dX5_bed_122 ?_
  refine lv_iconst (v := 1) hx hb dX5_bed_125 (by decide) ?_
  refine rn_sub (a := n + 1) (b := 1) (c1 := n + 0) (by omega) hx hb dX5_bed_126 ?_
  subst hB_4
  subst hB_3
  subst hB_2
  subst hB_1
  have hW_B : addB B n p1 p2 p3 = (st (st (st (st B 0 n p1) 1 n p2) 2 n 3) 3 n p3) := by unfold addB; rfl
  rw [← hW_B] at hP
  exact enI () hx hb hr hlocks hS hP (rfl) dX5_bed_127
set_option maxRecDepth 100000 in
set_option maxHeartbeats 4000000 in
theorem m_bed_1 (sa tb : Nat → Nat) (D : va_G) (cA cL : ClassId) (l : Launch) (h : Nat) (mm : Nat → Nat) (th : Int32) (dy : Int32) (co : Int32) (ti : Int32) (ro : Int32) (n : Nat) (nb : Nat) (B : Nat → Nat → Int32) (G : Nat → Nat → Int32) (T : Nat → Int32) (BA : Nat → Nat → Int32) (GA : Nat → Nat → Int32) (TA : Nat → Int32) (mo : Nat → Int32) (p1 : Int32) (p2 : Int32) (p3 : Int32) (hb0 : p1 < 0 ∨ ¬ p1 ≤ 30) : KM sa tb D cA cL l yX5_bed wsX5_bed ({ frames := 1, cells := 0, slots := 0, locals := 22 }) [.ref h, .int p1, .int p2, .int p3] (wMod cA h mm th dy co ti ro n nb B G T BA GA TA mo) (qI D (fun (r : Int32) (_ : Unit) => r = 0) (fun _ => wMod cA h mm 1 dy co ti ro n nb B G T BA GA TA mo)) := by
  refine KM.of (cc := cX5_bed) (maxL := 5) (ret := some .int) (by decide) rfl (Nat.le_of_ble_eq_true rfl) ?_
  intro pg e s m args below meth c A hx hb hr hml hlocks hts hown hS hA hE hP hD ls hl
  have hown : s.vm.findClass RX5 = some m.cls := hown
  have hl : lv_has ls 5 [(0, .ref h), (1, .int p1), (2, .int p2), (3, .int p3)] := hl
  have hwX5 : ∀ w ∈ wsX50, w ∈ wsX5_bed := (fun _ h => List.mem_cons_of_mem _ (List.mem_append_right _ h))
  refine lv_aload_n hx hb dX5_bed_0 rfl (lv_at hl 0 rfl) ?_
  refine lv_iconst (v := 0) hx hb dX5_bed_1 (by decide) ?_
  refine va_put (D := D) (ci := 5) (v := .int 0) (ty := .int) (C := RX5) (T := TX5) (N := 14) hx hb hts hwX5 tyX5 tyX5_ok nmX5 hown hE.K hP hD hS 0 rfl rfl 0 (by decide) (hts (.fieldLink RX5 38 "SedgeBargesModel" "thrown" "I") (List.mem_of_getElem? (i := 1) rfl)) (fun _ h9 => h9) rfl (by decide +kernel) rfl rfl (Nat.le_of_ble_eq_true rfl) dX5_bed_2 (fun H locs hP hD hS => ?_)
  have hP : va_P D vwCl (wMod cA h mm 0 dy co ti ro n nb B G T BA GA TA mo) H := hP
  have hD : va_D A (wMod cA h mm 0 dy co ti ro n nb B G T BA GA TA mo) := hD
  refine lv_iload_n hx hb dX5_bed_5 rfl (lv_at hl 1 rfl) ?_
  refine lv_iconst (v := 0) hx hb dX5_bed_6 (by decide) ?_
  refine lv_bipush (v := 30) hx hb dX5_bed_7 (by decide) ?_
  refine goI ([]) (wMod cA h mm 0 dy co ti ro n nb B G T BA GA TA mo) hP hD hS hA (rnS (rest := []) (m_isIn sa tb D cA cL l p1 0 30 ) ([]) (wMod cA h mm 0 dy co ti ro n nb B G T BA GA TA mo) hP hD hS hA hE ⟨hx, hb, hml, hown, hts⟩ (va_cwS 3 hts gX5_bed_X5_isIn rfl rfl rfl (by decide +kernel) ⟨(Nat.le_of_ble_eq_true rfl), (Nat.le_of_ble_eq_true rfl)⟩) rfl hl.1 rfl (Nat.le_of_ble_eq_true rfl) dX5_bed_9 ⟨(Nat.le_of_ble_eq_true rfl), (Nat.le_of_ble_eq_true rfl)⟩) (fun _ => rfl) (fun r_9 u_9 H locs hw_9 hP hD hS => ?_)
  have hP : va_P D vwCl (wMod cA h mm 0 dy co ti ro n nb B G T BA GA TA mo) H := hP
  have hD : va_D A (wMod cA h mm 0 dy co ti ro n nb B G T BA GA TA mo) := hD
  obtain rfl : r_9 = bI (isInB p1 0 30) := hw_9
  refine lv_if_ne (tgt := 21) hx hb dX5_bed_12 (by decide) (fun c_12 => False.elim (by exact c_12 (congrArg bI (isIn_no hb0)))) (fun c_12 => ?_)
  refine lv_aload_n hx hb dX5_bed_15 rfl (lv_at hl 0 rfl) ?_
  refine lv_iconst (v := 1) hx hb dX5_bed_16 (by decide) ?_
  refine goI ([]) ([(mm 0, I_ cA 64 (pkB B)), (mm 1, I_ cA 15 (pkG G)), (mm 2, I_ cA 3 T), (mm 3, I_ cA 64 (pkB BA)), (mm 4, I_ cA 15 (pkG GA)), (mm 5, I_ cA 3 TA), (mm 6, I_ cA 8 mo)]) hP hD hS hA (rnV (rest := []) (m_no sa tb D cA cL l h mm 0 dy co ti ro n nb 1 ) ([]) ([(mm 0, I_ cA 64 (pkB B)), (mm 1, I_ cA 15 (pkG G)), (mm 2, I_ cA 3 T), (mm 3, I_ cA 64 (pkB BA)), (mm 4, I_ cA 15 (pkG GA)), (mm 5, I_ cA 3 TA), (mm 6, I_ cA 8 mo)]) hP hD hS hA hE ⟨hx, hb, hml, hown, hts⟩ (cwV 1 hts gX5_bed_X5_no rfl rfl rfl (by decide +kernel) ⟨(Nat.le_of_ble_eq_true rfl), (Nat.le_of_ble_eq_true rfl)⟩) 5 0 rfl rfl rfl rfl hl.1 rfl (Nat.le_of_ble_eq_true rfl) dX5_bed_17 ⟨(Nat.le_of_ble_eq_true rfl), (Nat.le_of_ble_eq_true rfl)⟩) (fun _ => (show List.map Prod.fst _ = [h] from rfl).trans (show [h] = List.map Prod.fst _ from rfl)) (fun r_17 u_17 H locs hw_17 hP hD hS => ?_)
  have hP : va_P D vwCl (wMod cA h mm 1 dy co ti ro n nb B G T BA GA TA mo) H := hP
  have hD : va_D A (wMod cA h mm 1 dy co ti ro n nb B G T BA GA TA mo) := hD
  obtain rfl : r_17 = 0 := hw_17
  exact enI () hx hb hr hlocks hS hP (rfl) dX5_bed_20
set_option maxRecDepth 100000 in
set_option maxHeartbeats 4000000 in
theorem m_bed_2 (sa tb : Nat → Nat) (D : va_G) (cA cL : ClassId) (l : Launch) (h : Nat) (mm : Nat → Nat) (th : Int32) (dy : Int32) (co : Int32) (ti : Int32) (ro : Int32) (n : Nat) (nb : Nat) (B : Nat → Nat → Int32) (G : Nat → Nat → Int32) (T : Nat → Int32) (BA : Nat → Nat → Int32) (GA : Nat → Nat → Int32) (TA : Nat → Int32) (mo : Nat → Int32) (p1 : Int32) (p2 : Int32) (p3 : Int32) (q0 : ¬ p1 < 0) (q1 : p1 ≤ 30) (hb1 : p2 < 1 ∨ ¬ p2 ≤ 9 ∨ p3 < 0 ∨ ¬ p3 ≤ 100) : KM sa tb D cA cL l yX5_bed wsX5_bed ({ frames := 1, cells := 0, slots := 0, locals := 22 }) [.ref h, .int p1, .int p2, .int p3] (wMod cA h mm th dy co ti ro n nb B G T BA GA TA mo) (qI D (fun (r : Int32) (_ : Unit) => r = 0) (fun _ => wMod cA h mm 2 dy co ti ro n nb B G T BA GA TA mo)) := by
  refine KM.of (cc := cX5_bed) (maxL := 5) (ret := some .int) (by decide) rfl (Nat.le_of_ble_eq_true rfl) ?_
  intro pg e s m args below meth c A hx hb hr hml hlocks hts hown hS hA hE hP hD ls hl
  have hown : s.vm.findClass RX5 = some m.cls := hown
  have hl : lv_has ls 5 [(0, .ref h), (1, .int p1), (2, .int p2), (3, .int p3)] := hl
  have hwX5 : ∀ w ∈ wsX50, w ∈ wsX5_bed := (fun _ h => List.mem_cons_of_mem _ (List.mem_append_right _ h))
  refine lv_aload_n hx hb dX5_bed_0 rfl (lv_at hl 0 rfl) ?_
  refine lv_iconst (v := 0) hx hb dX5_bed_1 (by decide) ?_
  refine va_put (D := D) (ci := 5) (v := .int 0) (ty := .int) (C := RX5) (T := TX5) (N := 14) hx hb hts hwX5 tyX5 tyX5_ok nmX5 hown hE.K hP hD hS 0 rfl rfl 0 (by decide) (hts (.fieldLink RX5 38 "SedgeBargesModel" "thrown" "I") (List.mem_of_getElem? (i := 1) rfl)) (fun _ h9 => h9) rfl (by decide +kernel) rfl rfl (Nat.le_of_ble_eq_true rfl) dX5_bed_2 (fun H locs hP hD hS => ?_)
  have hP : va_P D vwCl (wMod cA h mm 0 dy co ti ro n nb B G T BA GA TA mo) H := hP
  have hD : va_D A (wMod cA h mm 0 dy co ti ro n nb B G T BA GA TA mo) := hD
  refine lv_iload_n hx hb dX5_bed_5 rfl (lv_at hl 1 rfl) ?_
  refine lv_iconst (v := 0) hx hb dX5_bed_6 (by decide) ?_
  refine lv_bipush (v := 30) hx hb dX5_bed_7 (by decide) ?_
  refine goI ([]) (wMod cA h mm 0 dy co ti ro n nb B G T BA GA TA mo) hP hD hS hA (rnS (rest := []) (m_isIn sa tb D cA cL l p1 0 30 ) ([]) (wMod cA h mm 0 dy co ti ro n nb B G T BA GA TA mo) hP hD hS hA hE ⟨hx, hb, hml, hown, hts⟩ (va_cwS 3 hts gX5_bed_X5_isIn rfl rfl rfl (by decide +kernel) ⟨(Nat.le_of_ble_eq_true rfl), (Nat.le_of_ble_eq_true rfl)⟩) rfl hl.1 rfl (Nat.le_of_ble_eq_true rfl) dX5_bed_9 ⟨(Nat.le_of_ble_eq_true rfl), (Nat.le_of_ble_eq_true rfl)⟩) (fun _ => rfl) (fun r_9 u_9 H locs hw_9 hP hD hS => ?_)
  have hP : va_P D vwCl (wMod cA h mm 0 dy co ti ro n nb B G T BA GA TA mo) H := hP
  have hD : va_D A (wMod cA h mm 0 dy co ti ro n nb B G T BA GA TA mo) := hD
  obtain rfl : r_9 = bI (isInB p1 0 30) := hw_9
  refine lv_if_ne (tgt := 21) hx hb dX5_bed_12 (by decide) (fun c_12 => ?_) (fun c_12 => False.elim (by exact absurd ((bI0 c_12).symm.trans (isIn_yes q0 q1)) (by decide)))
  refine lv_iload_n hx hb dX5_bed_21 rfl (lv_at hl 2 rfl) ?_
  refine lv_iconst (v := 1) hx hb dX5_bed_22 (by decide) ?_
  refine lv_bipush (v := 9) hx hb dX5_bed_23 (by decide) ?_
  refine goI ([]) (wMod cA h mm 0 dy co ti ro n nb B G T BA GA TA mo) hP hD hS hA (rnS (rest := []) (m_isIn sa tb D cA cL l p2 1 9 ) ([]) (wMod cA h mm 0 dy co ti ro n nb B G T BA GA TA mo) hP hD hS hA hE ⟨hx, hb, hml, hown, hts⟩ (va_cwS 3 hts gX5_bed_X5_isIn rfl rfl rfl (by decide +kernel) ⟨(Nat.le_of_ble_eq_true rfl), (Nat.le_of_ble_eq_true rfl)⟩) rfl hl.1 rfl (Nat.le_of_ble_eq_true rfl) dX5_bed_25 ⟨(Nat.le_of_ble_eq_true rfl), (Nat.le_of_ble_eq_true rfl)⟩) (fun _ => rfl) (fun r_25 u_25 H locs hw_25 hP hD hS => ?_)
  have hP : va_P D vwCl (wMod cA h mm 0 dy co ti ro n nb B G T BA GA TA mo) H := hP
  have hD : va_D A (wMod cA h mm 0 dy co ti ro n nb B G T BA GA TA mo) := hD
  obtain rfl : r_25 = bI (isInB p2 1 9) := hw_25
  refine lv_if_eq (tgt := 41) hx hb dX5_bed_28 (by decide) (fun c_28 => ?_) (fun c_28 => ?_)
  · refine lv_aload_n hx hb dX5_bed_41 rfl (lv_at hl 0 rfl) ?_
    refine lv_iconst (v := 2) hx hb dX5_bed_42 (by decide) ?_
    refine goI ([]) ([(mm 0, I_ cA 64 (pkB B)), (mm 1, I_ cA 15 (pkG G)), (mm 2, I_ cA 3 T), (mm 3, I_ cA 64 (pkB BA)), (mm 4, I_ cA 15 (pkG GA)), (mm 5, I_ cA 3 TA), (mm 6, I_ cA 8 mo)]) hP hD hS hA (rnV (rest := []) (m_no sa tb D cA cL l h mm 0 dy co ti ro n nb 2 ) ([]) ([(mm 0, I_ cA 64 (pkB B)), (mm 1, I_ cA 15 (pkG G)), (mm 2, I_ cA 3 T), (mm 3, I_ cA 64 (pkB BA)), (mm 4, I_ cA 15 (pkG GA)), (mm 5, I_ cA 3 TA), (mm 6, I_ cA 8 mo)]) hP hD hS hA hE ⟨hx, hb, hml, hown, hts⟩ (cwV 1 hts gX5_bed_X5_no rfl rfl rfl (by decide +kernel) ⟨(Nat.le_of_ble_eq_true rfl), (Nat.le_of_ble_eq_true rfl)⟩) 5 0 rfl rfl rfl rfl hl.1 rfl (Nat.le_of_ble_eq_true rfl) dX5_bed_43 ⟨(Nat.le_of_ble_eq_true rfl), (Nat.le_of_ble_eq_true rfl)⟩) (fun _ => (show List.map Prod.fst _ = [h] from rfl).trans (show [h] = List.map Prod.fst _ from rfl)) (fun r_43 u_43 H locs hw_43 hP hD hS => ?_)
    have hP : va_P D vwCl (wMod cA h mm 2 dy co ti ro n nb B G T BA GA TA mo) H := hP
    have hD : va_D A (wMod cA h mm 2 dy co ti ro n nb B G T BA GA TA mo) := hD
    obtain rfl : r_43 = 0 := hw_43
    exact enI () hx hb hr hlocks hS hP (rfl) dX5_bed_46
  · refine lv_iload_n hx hb dX5_bed_31 rfl (lv_at hl 3 rfl) ?_
    refine lv_iconst (v := 0) hx hb dX5_bed_32 (by decide) ?_
    refine lv_bipush (v := 100) hx hb dX5_bed_33 (by decide) ?_
    refine goI ([]) (wMod cA h mm 0 dy co ti ro n nb B G T BA GA TA mo) hP hD hS hA (rnS (rest := []) (m_isIn sa tb D cA cL l p3 0 100 ) ([]) (wMod cA h mm 0 dy co ti ro n nb B G T BA GA TA mo) hP hD hS hA hE ⟨hx, hb, hml, hown, hts⟩ (va_cwS 3 hts gX5_bed_X5_isIn rfl rfl rfl (by decide +kernel) ⟨(Nat.le_of_ble_eq_true rfl), (Nat.le_of_ble_eq_true rfl)⟩) rfl hl.1 rfl (Nat.le_of_ble_eq_true rfl) dX5_bed_35 ⟨(Nat.le_of_ble_eq_true rfl), (Nat.le_of_ble_eq_true rfl)⟩) (fun _ => rfl) (fun r_35 u_35 H locs hw_35 hP hD hS => ?_)
    have hP : va_P D vwCl (wMod cA h mm 0 dy co ti ro n nb B G T BA GA TA mo) H := hP
    have hD : va_D A (wMod cA h mm 0 dy co ti ro n nb B G T BA GA TA mo) := hD
    obtain rfl : r_35 = bI (isInB p3 0 100) := hw_35
    refine lv_if_ne (tgt := 47) hx hb dX5_bed_38 (by decide) (fun c_38 => False.elim (by rcases hb1 with q | q | q | q; exact c_28 (congrArg bI (isIn_no (Or.inl q))); exact c_28 (congrArg bI (isIn_no (Or.inr q))); exact c_38 (congrArg bI (isIn_no (Or.inl q))); exact c_38 (congrArg bI (isIn_no (Or.inr q))))) (fun c_38 => ?_)
    refine lv_aload_n hx hb dX5_bed_41 rfl (lv_at hl 0 rfl) ?_
    refine lv_iconst (v := 2) hx hb dX5_bed_42 (by decide) ?_
    refine goI ([]) ([(mm 0, I_ cA 64 (pkB B)), (mm 1, I_ cA 15 (pkG G)), (mm 2, I_ cA 3 T), (mm 3, I_ cA 64 (pkB BA)), (mm 4, I_ cA 15 (pkG GA)), (mm 5, I_ cA 3 TA), (mm 6, I_ cA 8 mo)]) hP hD hS hA (rnV (rest := []) (m_no sa tb D cA cL l h mm 0 dy co ti ro n nb 2 ) ([]) ([(mm 0, I_ cA 64 (pkB B)), (mm 1, I_ cA 15 (pkG G)), (mm 2, I_ cA 3 T), (mm 3, I_ cA 64 (pkB BA)), (mm 4, I_ cA 15 (pkG GA)), (mm 5, I_ cA 3 TA), (mm 6, I_ cA 8 mo)]) hP hD hS hA hE ⟨hx, hb, hml, hown, hts⟩ (cwV 1 hts gX5_bed_X5_no rfl rfl rfl (by decide +kernel) ⟨(Nat.le_of_ble_eq_true rfl), (Nat.le_of_ble_eq_true rfl)⟩) 5 0 rfl rfl rfl rfl hl.1 rfl (Nat.le_of_ble_eq_true rfl) dX5_bed_43 ⟨(Nat.le_of_ble_eq_true rfl), (Nat.le_of_ble_eq_true rfl)⟩) (fun _ => (show List.map Prod.fst _ = [h] from rfl).trans (show [h] = List.map Prod.fst _ from rfl)) (fun r_43 u_43 H locs hw_43 hP hD hS => ?_)
    have hP : va_P D vwCl (wMod cA h mm 2 dy co ti ro n nb B G T BA GA TA mo) H := hP
    have hD : va_D A (wMod cA h mm 2 dy co ti ro n nb B G T BA GA TA mo) := hD
    obtain rfl : r_43 = 0 := hw_43
    exact enI () hx hb hr hlocks hS hP (rfl) dX5_bed_46
set_option maxRecDepth 100000 in
set_option maxHeartbeats 4000000 in
theorem m_bed_3 (sa tb : Nat → Nat) (D : va_G) (cA cL : ClassId) (l : Launch) (h : Nat) (mm : Nat → Nat) (th : Int32) (dy : Int32) (co : Int32) (ti : Int32) (ro : Int32) (n : Nat) (nb : Nat) (B : Nat → Nat → Int32) (G : Nat → Nat → Int32) (T : Nat → Int32) (BA : Nat → Nat → Int32) (GA : Nat → Nat → Int32) (TA : Nat → Int32) (mo : Nat → Int32) (p1 : Int32) (p2 : Int32) (p3 : Int32) (q0 : ¬ p1 < 0) (q1 : p1 ≤ 30) (q2 : ¬ p2 < 1) (q3 : p2 ≤ 9) (q4 : ¬ p3 < 0) (q5 : p3 ≤ 100) (hn : n = 8) : KM sa tb D cA cL l yX5_bed wsX5_bed ({ frames := 1, cells := 0, slots := 0, locals := 22 }) [.ref h, .int p1, .int p2, .int p3] (wMod cA h mm th dy co ti ro n nb B G T BA GA TA mo) (qI D (fun (r : Int32) (_ : Unit) => r = 0) (fun _ => wMod cA h mm 3 dy co ti ro n nb B G T BA GA TA mo)) := by
  refine KM.of (cc := cX5_bed) (maxL := 5) (ret := some .int) (by decide) rfl (Nat.le_of_ble_eq_true rfl) ?_
  intro pg e s m args below meth c A hx hb hr hml hlocks hts hown hS hA hE hP hD ls hl
  have hown : s.vm.findClass RX5 = some m.cls := hown
  have hl : lv_has ls 5 [(0, .ref h), (1, .int p1), (2, .int p2), (3, .int p3)] := hl
  have hwX5 : ∀ w ∈ wsX50, w ∈ wsX5_bed := (fun _ h => List.mem_cons_of_mem _ (List.mem_append_right _ h))
  refine lv_aload_n hx hb dX5_bed_0 rfl (lv_at hl 0 rfl) ?_
  refine lv_iconst (v := 0) hx hb dX5_bed_1 (by decide) ?_
  refine va_put (D := D) (ci := 5) (v := .int 0) (ty := .int) (C := RX5) (T := TX5) (N := 14) hx hb hts hwX5 tyX5 tyX5_ok nmX5 hown hE.K hP hD hS 0 rfl rfl 0 (by decide) (hts (.fieldLink RX5 38 "SedgeBargesModel" "thrown" "I") (List.mem_of_getElem? (i := 1) rfl)) (fun _ h9 => h9) rfl (by decide +kernel) rfl rfl (Nat.le_of_ble_eq_true rfl) dX5_bed_2 (fun H locs hP hD hS => ?_)
  have hP : va_P D vwCl (wMod cA h mm 0 dy co ti ro n nb B G T BA GA TA mo) H := hP
  have hD : va_D A (wMod cA h mm 0 dy co ti ro n nb B G T BA GA TA mo) := hD
  refine lv_iload_n hx hb dX5_bed_5 rfl (lv_at hl 1 rfl) ?_
  refine lv_iconst (v := 0) hx hb dX5_bed_6 (by decide) ?_
  refine lv_bipush (v := 30) hx hb dX5_bed_7 (by decide) ?_
  refine goI ([]) (wMod cA h mm 0 dy co ti ro n nb B G T BA GA TA mo) hP hD hS hA (rnS (rest := []) (m_isIn sa tb D cA cL l p1 0 30 ) ([]) (wMod cA h mm 0 dy co ti ro n nb B G T BA GA TA mo) hP hD hS hA hE ⟨hx, hb, hml, hown, hts⟩ (va_cwS 3 hts gX5_bed_X5_isIn rfl rfl rfl (by decide +kernel) ⟨(Nat.le_of_ble_eq_true rfl), (Nat.le_of_ble_eq_true rfl)⟩) rfl hl.1 rfl (Nat.le_of_ble_eq_true rfl) dX5_bed_9 ⟨(Nat.le_of_ble_eq_true rfl), (Nat.le_of_ble_eq_true rfl)⟩) (fun _ => rfl) (fun r_9 u_9 H locs hw_9 hP hD hS => ?_)
  have hP : va_P D vwCl (wMod cA h mm 0 dy co ti ro n nb B G T BA GA TA mo) H := hP
  have hD : va_D A (wMod cA h mm 0 dy co ti ro n nb B G T BA GA TA mo) := hD
  obtain rfl : r_9 = bI (isInB p1 0 30) := hw_9
  refine lv_if_ne (tgt := 21) hx hb dX5_bed_12 (by decide) (fun c_12 => ?_) (fun c_12 => False.elim (by exact absurd ((bI0 c_12).symm.trans (isIn_yes q0 q1)) (by decide)))
  refine lv_iload_n hx hb dX5_bed_21 rfl (lv_at hl 2 rfl) ?_
  refine lv_iconst (v := 1) hx hb dX5_bed_22 (by decide) ?_
  refine lv_bipush (v := 9) hx hb dX5_bed_23 (by decide) ?_
  refine goI ([]) (wMod cA h mm 0 dy co ti ro n nb B G T BA GA TA mo) hP hD hS hA (rnS (rest := []) (m_isIn sa tb D cA cL l p2 1 9 ) ([]) (wMod cA h mm 0 dy co ti ro n nb B G T BA GA TA mo) hP hD hS hA hE ⟨hx, hb, hml, hown, hts⟩ (va_cwS 3 hts gX5_bed_X5_isIn rfl rfl rfl (by decide +kernel) ⟨(Nat.le_of_ble_eq_true rfl), (Nat.le_of_ble_eq_true rfl)⟩) rfl hl.1 rfl (Nat.le_of_ble_eq_true rfl) dX5_bed_25 ⟨(Nat.le_of_ble_eq_true rfl), (Nat.le_of_ble_eq_true rfl)⟩) (fun _ => rfl) (fun r_25 u_25 H locs hw_25 hP hD hS => ?_)
  have hP : va_P D vwCl (wMod cA h mm 0 dy co ti ro n nb B G T BA GA TA mo) H := hP
  have hD : va_D A (wMod cA h mm 0 dy co ti ro n nb B G T BA GA TA mo) := hD
  obtain rfl : r_25 = bI (isInB p2 1 9) := hw_25
  refine lv_if_eq (tgt := 41) hx hb dX5_bed_28 (by decide) (fun c_28 => False.elim (by exact absurd ((bI0 c_28).symm.trans (isIn_yes q2 q3)) (by decide))) (fun c_28 => ?_)
  refine lv_iload_n hx hb dX5_bed_31 rfl (lv_at hl 3 rfl) ?_
  refine lv_iconst (v := 0) hx hb dX5_bed_32 (by decide) ?_
  refine lv_bipush (v := 100) hx hb dX5_bed_33 (by decide) ?_
  refine goI ([]) (wMod cA h mm 0 dy co ti ro n nb B G T BA GA TA mo) hP hD hS hA (rnS (rest := []) (m_isIn sa tb D cA cL l p3 0 100 ) ([]) (wMod cA h mm 0 dy co ti ro n nb B G T BA GA TA mo) hP hD hS hA hE ⟨hx, hb, hml, hown, hts⟩ (va_cwS 3 hts gX5_bed_X5_isIn rfl rfl rfl (by decide +kernel) ⟨(Nat.le_of_ble_eq_true rfl), (Nat.le_of_ble_eq_true rfl)⟩) rfl hl.1 rfl (Nat.le_of_ble_eq_true rfl) dX5_bed_35 ⟨(Nat.le_of_ble_eq_true rfl), (Nat.le_of_ble_eq_true rfl)⟩) (fun _ => rfl) (fun r_35 u_35 H locs hw_35 hP hD hS => ?_)
  have hP : va_P D vwCl (wMod cA h mm 0 dy co ti ro n nb B G T BA GA TA mo) H := hP
  have hD : va_D A (wMod cA h mm 0 dy co ti ro n nb B G T BA GA TA mo) := hD
  obtain rfl : r_35 = bI (isInB p3 0 100) := hw_35
  refine lv_if_ne (tgt := 47) hx hb dX5_bed_38 (by decide) (fun c_38 => ?_) (fun c_38 => False.elim (by exact absurd ((bI0 c_38).symm.trans (isIn_yes q4 q5)) (by decide)))
  refine lv_aload_n hx hb dX5_bed_47 rfl (lv_at hl 0 rfl) ?_
  refine va_get (D := D) (ci := 5) (v := .int (nI n)) (C := RX5) (T := TX5) (N := 14) hx hb hts hwX5 hown hE.K hP 0 rfl rfl 5 (by decide) (hts (.fieldLink RX5 41 "SedgeBargesModel" "beds" "I") (List.mem_of_getElem? (i := 2) rfl)) (fun _ h9 => h9) rfl dX5_bed_48 ?_
  refine lv_bipush (v := 8) hx hb dX5_bed_51 (by decide) ?_
  refine rc_ne (tgt := 62) (a := n) (b := 8) hx hb (by omega) (by omega) dX5_bed_53 (by decide) (fun c_53 => False.elim (by omega)) (fun c_53 => ?_)
  refine lv_aload_n hx hb dX5_bed_56 rfl (lv_at hl 0 rfl) ?_
  refine lv_iconst (v := 3) hx hb dX5_bed_57 (by decide) ?_
  refine goI ([]) ([(mm 0, I_ cA 64 (pkB B)), (mm 1, I_ cA 15 (pkG G)), (mm 2, I_ cA 3 T), (mm 3, I_ cA 64 (pkB BA)), (mm 4, I_ cA 15 (pkG GA)), (mm 5, I_ cA 3 TA), (mm 6, I_ cA 8 mo)]) hP hD hS hA (rnV (rest := []) (m_no sa tb D cA cL l h mm 0 dy co ti ro n nb 3 ) ([]) ([(mm 0, I_ cA 64 (pkB B)), (mm 1, I_ cA 15 (pkG G)), (mm 2, I_ cA 3 T), (mm 3, I_ cA 64 (pkB BA)), (mm 4, I_ cA 15 (pkG GA)), (mm 5, I_ cA 3 TA), (mm 6, I_ cA 8 mo)]) hP hD hS hA hE ⟨hx, hb, hml, hown, hts⟩ (cwV 1 hts gX5_bed_X5_no rfl rfl rfl (by decide +kernel) ⟨(Nat.le_of_ble_eq_true rfl), (Nat.le_of_ble_eq_true rfl)⟩) 5 0 rfl rfl rfl rfl hl.1 rfl (Nat.le_of_ble_eq_true rfl) dX5_bed_58 ⟨(Nat.le_of_ble_eq_true rfl), (Nat.le_of_ble_eq_true rfl)⟩) (fun _ => (show List.map Prod.fst _ = [h] from rfl).trans (show [h] = List.map Prod.fst _ from rfl)) (fun r_58 u_58 H locs hw_58 hP hD hS => ?_)
  have hP : va_P D vwCl (wMod cA h mm 3 dy co ti ro n nb B G T BA GA TA mo) H := hP
  have hD : va_D A (wMod cA h mm 3 dy co ti ro n nb B G T BA GA TA mo) := hD
  obtain rfl : r_58 = 0 := hw_58
  exact enI () hx hb hr hlocks hS hP (rfl) dX5_bed_61
set_option maxRecDepth 100000 in
set_option maxHeartbeats 4000000 in
theorem m_cut (sa tb : Nat → Nat) (D : va_G) (cA cL : ClassId) (l : Launch) (h : Nat) (mm : Nat → Nat) (th : Int32) (dy : Int32) (co : Int32) (ti : Int32) (ro : Int32) (n : Nat) (nb : Nat) (B : Nat → Nat → Int32) (G : Nat → Nat → Int32) (T : Nat → Int32) (BA : Nat → Nat → Int32) (GA : Nat → Nat → Int32) (TA : Nat → Int32) (mo : Nat → Int32) (k : Nat) (hk : k < n) (hn : n ≤ 8) (hI : Inv n nb B G) (ha : ¬ B 2 k = 0) : KM sa tb D cA cL l yX5_cut wsX5_cut ({ frames := 2, cells := 0, slots := 0, locals := 43 }) [.ref h, .int (nI k)] (wMod cA h mm th dy co ti ro n nb B G T BA GA TA mo) (qI D (fun (r : Int32) (_ : Unit) => r = given B k) (fun _ => wMod cA h mm 0 dy co ti ro n nb (cutB B k) G T BA GA TA mo)) := by
  refine KM.of (cc := cX5_cut) (maxL := 5) (ret := some .int) (by decide) rfl (Nat.le_of_ble_eq_true rfl) ?_
  intro pg e s m args below meth c A hx hb hr hml hlocks hts hown hS hA hE hP hD ls hl
  have hown : s.vm.findClass RX5 = some m.cls := hown
  have hl : lv_has ls 5 [(0, .ref h), (1, .int (nI k))] := hl
  have hwX5 : ∀ w ∈ wsX50, w ∈ wsX5_cut := (fun _ h => List.mem_cons_of_mem _ (List.mem_append_right _ h))
  refine lv_aload_n hx hb dX5_cut_0 rfl (lv_at hl 0 rfl) ?_
  refine lv_iconst (v := 0) hx hb dX5_cut_1 (by decide) ?_
  refine va_put (D := D) (ci := 5) (v := .int 0) (ty := .int) (C := RX5) (T := TX5) (N := 14) hx hb hts hwX5 tyX5 tyX5_ok nmX5 hown hE.K hP hD hS 0 rfl rfl 0 (by decide) (hts (.fieldLink RX5 38 "SedgeBargesModel" "thrown" "I") (List.mem_of_getElem? (i := 1) rfl)) (fun _ h9 => h9) rfl (by decide +kernel) rfl rfl (Nat.le_of_ble_eq_true rfl) dX5_cut_2 (fun H locs hP hD hS => ?_)
  have hP : va_P D vwCl (wMod cA h mm 0 dy co ti ro n nb B G T BA GA TA mo) H := hP
  have hD : va_D A (wMod cA h mm 0 dy co ti ro n nb B G T BA GA TA mo) := hD
  refine lv_aload_n hx hb dX5_cut_5 rfl (lv_at hl 0 rfl) ?_
  refine lv_iload_n hx hb dX5_cut_6 rfl (lv_at hl 1 rfl) ?_
  refine goI ([]) ([(mm 0, I_ cA 64 (pkB B)), (mm 1, I_ cA 15 (pkG G)), (mm 2, I_ cA 3 T), (mm 3, I_ cA 64 (pkB BA)), (mm 4, I_ cA 15 (pkG GA)), (mm 5, I_ cA 3 TA), (mm 6, I_ cA 8 mo)]) hP hD hS hA (rnV (rest := []) (m_isBed sa tb D cA cL l h mm 0 dy co ti ro n nb (nI k) ) ([]) ([(mm 0, I_ cA 64 (pkB B)), (mm 1, I_ cA 15 (pkG G)), (mm 2, I_ cA 3 T), (mm 3, I_ cA 64 (pkB BA)), (mm 4, I_ cA 15 (pkG GA)), (mm 5, I_ cA 3 TA), (mm 6, I_ cA 8 mo)]) hP hD hS hA hE ⟨hx, hb, hml, hown, hts⟩ (cwV 1 hts gX5_cut_X5_isBed rfl rfl rfl (by decide +kernel) ⟨(Nat.le_of_ble_eq_true rfl), (Nat.le_of_ble_eq_true rfl)⟩) 5 0 rfl rfl rfl rfl hl.1 rfl (Nat.le_of_ble_eq_true rfl) dX5_cut_7 ⟨(Nat.le_of_ble_eq_true rfl), (Nat.le_of_ble_eq_true rfl)⟩) (fun _ => rfl) (fun r_7 u_7 H locs hw_7 hP hD hS => ?_)
  have hP : va_P D vwCl (wMod cA h mm 0 dy co ti ro n nb B G T BA GA TA mo) H := hP
  have hD : va_D A (wMod cA h mm 0 dy co ti ro n nb B G T BA GA TA mo) := hD
  obtain rfl : r_7 = bI (isInB (nI k) 0 (nI n - 1)) := hw_7
  refine lv_if_ne (tgt := 19) hx hb dX5_cut_10 (by decide) (fun c_10 => ?_) (fun c_10 => False.elim (by exact absurd ((bI0 c_10).symm.trans (isBed_yes hk (by omega))) (by decide)))
  refine lv_bipush (v := 8) hx hb dX5_cut_19 (by decide) ?_
  refine lv_iload_n hx hb dX5_cut_21 rfl (lv_at hl 1 rfl) ?_
  refine rn_mul (a := 8) (b := k) hx hb dX5_cut_22 ?_
  refine lv_istore_n (lv' := [(2, .int (nI (8 * k))), (0, .ref h), (1, .int (nI k))]) hx hb dX5_cut_23 rfl hl (by decide) rfl (fun ls hl => ?_)
  refine lv_aload_n hx hb dX5_cut_24 rfl (lv_at hl 1 rfl) ?_
  refine va_get (D := D) (ci := 5) (v := .ref (mm 0)) (C := RX5) (T := TX5) (N := 14) hx hb hts hwX5 hown hE.K hP 0 rfl rfl 7 (by decide) (hts (.fieldLink RX5 16 "SedgeBargesModel" "b" "[I") (List.mem_of_getElem? (i := 2) rfl)) (fun _ h9 => h9) rfl dX5_cut_25 ?_
  refine lv_iload_n hx hb dX5_cut_28 rfl (lv_at hl 0 rfl) ?_
  refine lv_iconst (v := 2) hx hb dX5_cut_29 (by decide) ?_
  refine rn_add (a := 8 * k) (b := 2) hx hb dX5_cut_30 ?_
  refine r_ald (f := pkB B) (v := B 2 k) hx hb hE hP 1 (8 * k + 2) rfl (congrArg nI (by omega)) (by omega) (by decide) (pkB_at 2 (k) (by decide)) dX5_cut_31 ?_
  refine lv_if_ne (tgt := 41) hx hb dX5_cut_32 (by decide) (fun c_32 => ?_) (fun c_32 => False.elim (by exact ha c_32))
  refine lv_aload_n hx hb dX5_cut_41 rfl (lv_at hl 1 rfl) ?_
  refine va_get (D := D) (ci := 5) (v := .ref (mm 0)) (C := RX5) (T := TX5) (N := 14) hx hb hts hwX5 hown hE.K hP 0 rfl rfl 7 (by decide) (hts (.fieldLink RX5 16 "SedgeBargesModel" "b" "[I") (List.mem_of_getElem? (i := 2) rfl)) (fun _ h9 => h9) rfl dX5_cut_42 ?_
  refine lv_iload_n hx hb dX5_cut_45 rfl (lv_at hl 0 rfl) ?_
  have hPq : va_P D vwCl ([] ++ (([(mm 0, I_ cA 64 (pkB B))]) ++ ([(h, .inr (5, [.int 0, .int dy, .int co, .int ti, .int ro, .int (nI n), .int (nI nb), .ref (mm 0), .ref (mm 1), .ref (mm 2), .ref (mm 3), .ref (mm 4), .ref (mm 5), .ref (mm 6)])), (mm 1, I_ cA 15 (pkG G)), (mm 2, I_ cA 3 T), (mm 3, I_ cA 64 (pkB BA)), (mm 4, I_ cA 15 (pkG GA)), (mm 5, I_ cA 3 TA), (mm 6, I_ cA 8 mo)]))) _ := hP.sub [1, 0, 2, 3, 4, 5, 6, 7] rfl
  have hDq : va_D A ([] ++ (([(mm 0, I_ cA 64 (pkB B))]) ++ ([(h, .inr (5, [.int 0, .int dy, .int co, .int ti, .int ro, .int (nI n), .int (nI nb), .ref (mm 0), .ref (mm 1), .ref (mm 2), .ref (mm 3), .ref (mm 4), .ref (mm 5), .ref (mm 6)])), (mm 1, I_ cA 15 (pkG G)), (mm 2, I_ cA 3 T), (mm 3, I_ cA 64 (pkB BA)), (mm 4, I_ cA 15 (pkG GA)), (mm 5, I_ cA 3 TA), (mm 6, I_ cA 8 mo)]))) := hD.sub [1, 0, 2, 3, 4, 5, 6, 7] (by decide) rfl
  refine goI ([]) ([(h, .inr (5, [.int 0, .int dy, .int co, .int ti, .int ro, .int (nI n), .int (nI nb), .ref (mm 0), .ref (mm 1), .ref (mm 2), .ref (mm 3), .ref (mm 4), .ref (mm 5), .ref (mm 6)])), (mm 1, I_ cA 15 (pkG G)), (mm 2, I_ cA 3 T), (mm 3, I_ cA 64 (pkB BA)), (mm 4, I_ cA 15 (pkG GA)), (mm 5, I_ cA 3 TA), (mm 6, I_ cA 8 mo)]) hPq hDq hS hA (rnS (rest := []) (m_gives sa tb D cA cL l (mm 0) B k (show k < 8 from by first | omega | assumption | decide) (show ∃ j, j < 10 ∧ B 2 k = nI j from (hI.1 k hk).2.1)) ([]) ([(h, .inr (5, [.int 0, .int dy, .int co, .int ti, .int ro, .int (nI n), .int (nI nb), .ref (mm 0), .ref (mm 1), .ref (mm 2), .ref (mm 3), .ref (mm 4), .ref (mm 5), .ref (mm 6)])), (mm 1, I_ cA 15 (pkG G)), (mm 2, I_ cA 3 T), (mm 3, I_ cA 64 (pkB BA)), (mm 4, I_ cA 15 (pkG GA)), (mm 5, I_ cA 3 TA), (mm 6, I_ cA 8 mo)]) hPq hDq hS hA hE ⟨hx, hb, hml, hown, hts⟩ (va_cwS 2 hts gX5_cut_X5_gives rfl rfl rfl (by decide +kernel) ⟨(Nat.le_of_ble_eq_true rfl), (Nat.le_of_ble_eq_true rfl)⟩) rfl hl.1 rfl (Nat.le_of_ble_eq_true rfl) dX5_cut_46 ⟨(Nat.le_of_ble_eq_true rfl), (Nat.le_of_ble_eq_true rfl)⟩) (fun _ => rfl) (fun r_46 u_46 H locs hw_46 hP hD hS => ?_)
  have hP : va_P D vwCl (wMod cA h mm 0 dy co ti ro n nb B G T BA GA TA mo) H := hP.sub [1, 0, 2, 3, 4, 5, 6, 7] rfl
  have hD : va_D A (wMod cA h mm 0 dy co ti ro n nb B G T BA GA TA mo) := hD.sub [1, 0, 2, 3, 4, 5, 6, 7] (by decide) rfl
  obtain rfl : r_46 = given B k := hw_46
  refine lv_istore_n (lv' := [(3, .int (given B k)), (2, .int (nI (8 * k))), (0, .ref h), (1, .int (nI k))]) hx hb dX5_cut_49 rfl hl (by decide) rfl (fun ls hl => ?_)
  refine lv_aload_n hx hb dX5_cut_50 rfl (lv_at hl 2 rfl) ?_
  refine va_get (D := D) (ci := 5) (v := .ref (mm 0)) (C := RX5) (T := TX5) (N := 14) hx hb hts hwX5 hown hE.K hP 0 rfl rfl 7 (by decide) (hts (.fieldLink RX5 16 "SedgeBargesModel" "b" "[I") (List.mem_of_getElem? (i := 2) rfl)) (fun _ h9 => h9) rfl dX5_cut_51 ?_
  refine lv_iload_n hx hb dX5_cut_54 rfl (lv_at hl 1 rfl) ?_
  have hPq : va_P D vwCl ([] ++ (([(mm 0, I_ cA 64 (pkB B))]) ++ ([(h, .inr (5, [.int 0, .int dy, .int co, .int ti, .int ro, .int (nI n), .int (nI nb), .ref (mm 0), .ref (mm 1), .ref (mm 2), .ref (mm 3), .ref (mm 4), .ref (mm 5), .ref (mm 6)])), (mm 1, I_ cA 15 (pkG G)), (mm 2, I_ cA 3 T), (mm 3, I_ cA 64 (pkB BA)), (mm 4, I_ cA 15 (pkG GA)), (mm 5, I_ cA 3 TA), (mm 6, I_ cA 8 mo)]))) _ := hP.sub [1, 0, 2, 3, 4, 5, 6, 7] rfl
  have hDq : va_D A ([] ++ (([(mm 0, I_ cA 64 (pkB B))]) ++ ([(h, .inr (5, [.int 0, .int dy, .int co, .int ti, .int ro, .int (nI n), .int (nI nb), .ref (mm 0), .ref (mm 1), .ref (mm 2), .ref (mm 3), .ref (mm 4), .ref (mm 5), .ref (mm 6)])), (mm 1, I_ cA 15 (pkG G)), (mm 2, I_ cA 3 T), (mm 3, I_ cA 64 (pkB BA)), (mm 4, I_ cA 15 (pkG GA)), (mm 5, I_ cA 3 TA), (mm 6, I_ cA 8 mo)]))) := hD.sub [1, 0, 2, 3, 4, 5, 6, 7] (by decide) rfl
  refine goI ([]) ([(h, .inr (5, [.int 0, .int dy, .int co, .int ti, .int ro, .int (nI n), .int (nI nb), .ref (mm 0), .ref (mm 1), .ref (mm 2), .ref (mm 3), .ref (mm 4), .ref (mm 5), .ref (mm 6)])), (mm 1, I_ cA 15 (pkG G)), (mm 2, I_ cA 3 T), (mm 3, I_ cA 64 (pkB BA)), (mm 4, I_ cA 15 (pkG GA)), (mm 5, I_ cA 3 TA), (mm 6, I_ cA 8 mo)]) hPq hDq hS hA (rnS (rest := []) (m_givesSedge sa tb D cA cL l (mm 0) B k (show k < 8 from by first | omega | assumption | decide) (show ∃ j, j < 10 ∧ B 2 k = nI j from (hI.1 k hk).2.1)) ([]) ([(h, .inr (5, [.int 0, .int dy, .int co, .int ti, .int ro, .int (nI n), .int (nI nb), .ref (mm 0), .ref (mm 1), .ref (mm 2), .ref (mm 3), .ref (mm 4), .ref (mm 5), .ref (mm 6)])), (mm 1, I_ cA 15 (pkG G)), (mm 2, I_ cA 3 T), (mm 3, I_ cA 64 (pkB BA)), (mm 4, I_ cA 15 (pkG GA)), (mm 5, I_ cA 3 TA), (mm 6, I_ cA 8 mo)]) hPq hDq hS hA hE ⟨hx, hb, hml, hown, hts⟩ (va_cwS 2 hts gX5_cut_X5_givesSedge rfl rfl rfl (by decide +kernel) ⟨(Nat.le_of_ble_eq_true rfl), (Nat.le_of_ble_eq_true rfl)⟩) rfl hl.1 rfl (Nat.le_of_ble_eq_true rfl) dX5_cut_55 ⟨(Nat.le_of_ble_eq_true rfl), (Nat.le_of_ble_eq_true rfl)⟩) (fun _ => rfl) (fun r_55 u_55 H locs hw_55 hP hD hS => ?_)
  have hP : va_P D vwCl (wMod cA h mm 0 dy co ti ro n nb B G T BA GA TA mo) H := hP.sub [1, 0, 2, 3, 4, 5, 6, 7] rfl
  have hD : va_D A (wMod cA h mm 0 dy co ti ro n nb B G T BA GA TA mo) := hD.sub [1, 0, 2, 3, 4, 5, 6, 7] (by decide) rfl
  obtain rfl : r_55 = sgiv B k := hw_55
  refine lv_istore (lv' := [(4, .int (sgiv B k)), (3, .int (given B k)), (2, .int (nI (8 * k))), (0, .ref h), (1, .int (nI k))]) hx hb dX5_cut_58 hl (by decide) rfl (fun ls hl => ?_)
  refine lv_aload_n hx hb dX5_cut_60 rfl (lv_at hl 3 rfl) ?_
  refine va_get (D := D) (ci := 5) (v := .ref (mm 0)) (C := RX5) (T := TX5) (N := 14) hx hb hts hwX5 hown hE.K hP 0 rfl rfl 7 (by decide) (hts (.fieldLink RX5 16 "SedgeBargesModel" "b" "[I") (List.mem_of_getElem? (i := 2) rfl)) (fun _ h9 => h9) rfl dX5_cut_61 ?_
  refine lv_iload_n hx hb dX5_cut_64 rfl (lv_at hl 2 rfl) ?_
  refine lv_iconst (v := 4) hx hb dX5_cut_65 (by decide) ?_
  refine rn_add (a := 8 * k) (b := 4) hx hb dX5_cut_66 ?_
  refine lv_dup2_11 hx hb dX5_cut_67 rfl rfl ?_
  refine r_ald (f := pkB B) (v := B 4 k) hx hb hE hP 1 (8 * k + 4) rfl (congrArg nI (by omega)) (by omega) (by decide) (pkB_at 4 (k) (by decide)) dX5_cut_68 ?_
  refine lv_iload hx hb dX5_cut_69 (lv_at hl 0 rfl) ?_
  refine lv_iadd hx hb dX5_cut_71 ?_
  refine lv_topi (fun z_1 hz_1 => ?_)
  refine r_ast (f := pkB B) (g := pkB (st B 4 k z_1)) hx hb hE hP hD hS 1 (8 * k + 4) rfl (congrArg nI (by omega)) (by omega) (by decide) (pkB_up 4 (k) _ (by decide)) dX5_cut_72 (fun H locs hP hD hS => ?_)
  have hP : va_P D vwCl (wMod cA h mm 0 dy co ti ro n nb (st B 4 k z_1) G T BA GA TA mo) H := hP
  have hD : va_D A (wMod cA h mm 0 dy co ti ro n nb (st B 4 k z_1) G T BA GA TA mo) := hD
  generalize hB_2 : st B 4 k z_1 = B_2 at hP hD
  refine lv_aload_n hx hb dX5_cut_73 rfl (lv_at hl 3 rfl) ?_
  refine va_get (D := D) (ci := 5) (v := .ref (mm 0)) (C := RX5) (T := TX5) (N := 14) hx hb hts hwX5 hown hE.K hP 0 rfl rfl 7 (by decide) (hts (.fieldLink RX5 16 "SedgeBargesModel" "b" "[I") (List.mem_of_getElem? (i := 2) rfl)) (fun _ h9 => h9) rfl dX5_cut_74 ?_
  refine lv_iload_n hx hb dX5_cut_77 rfl (lv_at hl 2 rfl) ?_
  refine lv_iconst (v := 4) hx hb dX5_cut_78 (by decide) ?_
  refine rn_add (a := 8 * k) (b := 4) hx hb dX5_cut_79 ?_
  refine lv_iconst (v := 1) hx hb dX5_cut_80 (by decide) ?_
  refine rn_add (a := (8 * k) + 4) (b := 1) hx hb dX5_cut_81 ?_
  refine lv_dup2_11 hx hb dX5_cut_82 rfl rfl ?_
  refine r_ald (f := pkB B_2) (v := B 5 k) hx hb hE hP 1 (8 * k + 5) rfl (congrArg nI (by omega)) (by omega) (by decide) ((pkB_at 5 (k) (by decide)).trans (st_colE hB_2 (by decide))) dX5_cut_83 ?_
  refine lv_iload_n hx hb dX5_cut_84 rfl (lv_at hl 1 rfl) ?_
  refine lv_iload hx hb dX5_cut_85 (lv_at hl 0 rfl) ?_
  refine lv_isub hx hb dX5_cut_87 ?_
  refine lv_iadd hx hb dX5_cut_88 ?_
  refine lv_topi (fun z_3 hz_3 => ?_)
  refine r_ast (f := pkB B_2) (g := pkB (st B_2 5 k z_3)) hx hb hE hP hD hS 1 (8 * k + 5) rfl (congrArg nI (by omega)) (by omega) (by decide) (pkB_up 5 (k) _ (by decide)) dX5_cut_89 (fun H locs hP hD hS => ?_)
  have hP : va_P D vwCl (wMod cA h mm 0 dy co ti ro n nb (st B_2 5 k z_3) G T BA GA TA mo) H := hP
  have hD : va_D A (wMod cA h mm 0 dy co ti ro n nb (st B_2 5 k z_3) G T BA GA TA mo) := hD
  generalize hB_4 : st B_2 5 k z_3 = B_4 at hP hD
  refine lv_aload_n hx hb dX5_cut_90 rfl (lv_at hl 3 rfl) ?_
  refine va_get (D := D) (ci := 5) (v := .ref (mm 0)) (C := RX5) (T := TX5) (N := 14) hx hb hts hwX5 hown hE.K hP 0 rfl rfl 7 (by decide) (hts (.fieldLink RX5 16 "SedgeBargesModel" "b" "[I") (List.mem_of_getElem? (i := 2) rfl)) (fun _ h9 => h9) rfl dX5_cut_91 ?_
  refine lv_iload_n hx hb dX5_cut_94 rfl (lv_at hl 2 rfl) ?_
  refine lv_iconst (v := 2) hx hb dX5_cut_95 (by decide) ?_
  refine rn_add (a := 8 * k) (b := 2) hx hb dX5_cut_96 ?_
  refine lv_iconst (v := 0) hx hb dX5_cut_97 (by decide) ?_
  refine r_ast (f := pkB B_4) (g := pkB (st B_4 2 k 0)) hx hb hE hP hD hS 1 (8 * k + 2) rfl (congrArg nI (by omega)) (by omega) (by decide) (pkB_up 2 (k) _ (by decide)) dX5_cut_98 (fun H locs hP hD hS => ?_)
  have hP : va_P D vwCl (wMod cA h mm 0 dy co ti ro n nb (st B_4 2 k 0) G T BA GA TA mo) H := hP
  have hD : va_D A (wMod cA h mm 0 dy co ti ro n nb (st B_4 2 k 0) G T BA GA TA mo) := hD
  generalize hB_5 : st B_4 2 k 0 = B_5 at hP hD
  refine lv_iload_n hx hb dX5_cut_99 rfl (lv_at hl 1 rfl) ?_
  subst hB_5
  subst hB_4
  subst hz_3
  subst hB_2
  subst hz_1
  have hW_B : cutB B k = (st (st (st B 4 k ((B 4 k) + (sgiv B k))) 5 k ((B 5 k) + ((given B k) - (sgiv B k)))) 2 k 0) := by unfold cutB; rfl
  rw [← hW_B] at hP
  exact enI () hx hb hr hlocks hS hP (rfl) dX5_cut_100
set_option maxRecDepth 100000 in
set_option maxHeartbeats 4000000 in
theorem m_cut_1 (sa tb : Nat → Nat) (D : va_G) (cA cL : ClassId) (l : Launch) (h : Nat) (mm : Nat → Nat) (th : Int32) (dy : Int32) (co : Int32) (ti : Int32) (ro : Int32) (n : Nat) (nb : Nat) (B : Nat → Nat → Int32) (G : Nat → Nat → Int32) (T : Nat → Int32) (BA : Nat → Nat → Int32) (GA : Nat → Nat → Int32) (TA : Nat → Int32) (mo : Nat → Int32) (x : Int32) (hb0 : x < 0 ∨ ¬ x < nI n) (hn : n ≤ 8) : KM sa tb D cA cL l yX5_cut wsX5_cut ({ frames := 2, cells := 0, slots := 0, locals := 43 }) [.ref h, .int x] (wMod cA h mm th dy co ti ro n nb B G T BA GA TA mo) (qI D (fun (r : Int32) (_ : Unit) => r = 0) (fun _ => wMod cA h mm 1 dy co ti ro n nb B G T BA GA TA mo)) := by
  refine KM.of (cc := cX5_cut) (maxL := 5) (ret := some .int) (by decide) rfl (Nat.le_of_ble_eq_true rfl) ?_
  intro pg e s m args below meth c A hx hb hr hml hlocks hts hown hS hA hE hP hD ls hl
  have hown : s.vm.findClass RX5 = some m.cls := hown
  have hl : lv_has ls 5 [(0, .ref h), (1, .int x)] := hl
  have hwX5 : ∀ w ∈ wsX50, w ∈ wsX5_cut := (fun _ h => List.mem_cons_of_mem _ (List.mem_append_right _ h))
  refine lv_aload_n hx hb dX5_cut_0 rfl (lv_at hl 0 rfl) ?_
  refine lv_iconst (v := 0) hx hb dX5_cut_1 (by decide) ?_
  refine va_put (D := D) (ci := 5) (v := .int 0) (ty := .int) (C := RX5) (T := TX5) (N := 14) hx hb hts hwX5 tyX5 tyX5_ok nmX5 hown hE.K hP hD hS 0 rfl rfl 0 (by decide) (hts (.fieldLink RX5 38 "SedgeBargesModel" "thrown" "I") (List.mem_of_getElem? (i := 1) rfl)) (fun _ h9 => h9) rfl (by decide +kernel) rfl rfl (Nat.le_of_ble_eq_true rfl) dX5_cut_2 (fun H locs hP hD hS => ?_)
  have hP : va_P D vwCl (wMod cA h mm 0 dy co ti ro n nb B G T BA GA TA mo) H := hP
  have hD : va_D A (wMod cA h mm 0 dy co ti ro n nb B G T BA GA TA mo) := hD
  refine lv_aload_n hx hb dX5_cut_5 rfl (lv_at hl 0 rfl) ?_
  refine lv_iload_n hx hb dX5_cut_6 rfl (lv_at hl 1 rfl) ?_
  refine goI ([]) ([(mm 0, I_ cA 64 (pkB B)), (mm 1, I_ cA 15 (pkG G)), (mm 2, I_ cA 3 T), (mm 3, I_ cA 64 (pkB BA)), (mm 4, I_ cA 15 (pkG GA)), (mm 5, I_ cA 3 TA), (mm 6, I_ cA 8 mo)]) hP hD hS hA (rnV (rest := []) (m_isBed sa tb D cA cL l h mm 0 dy co ti ro n nb x ) ([]) ([(mm 0, I_ cA 64 (pkB B)), (mm 1, I_ cA 15 (pkG G)), (mm 2, I_ cA 3 T), (mm 3, I_ cA 64 (pkB BA)), (mm 4, I_ cA 15 (pkG GA)), (mm 5, I_ cA 3 TA), (mm 6, I_ cA 8 mo)]) hP hD hS hA hE ⟨hx, hb, hml, hown, hts⟩ (cwV 1 hts gX5_cut_X5_isBed rfl rfl rfl (by decide +kernel) ⟨(Nat.le_of_ble_eq_true rfl), (Nat.le_of_ble_eq_true rfl)⟩) 5 0 rfl rfl rfl rfl hl.1 rfl (Nat.le_of_ble_eq_true rfl) dX5_cut_7 ⟨(Nat.le_of_ble_eq_true rfl), (Nat.le_of_ble_eq_true rfl)⟩) (fun _ => rfl) (fun r_7 u_7 H locs hw_7 hP hD hS => ?_)
  have hP : va_P D vwCl (wMod cA h mm 0 dy co ti ro n nb B G T BA GA TA mo) H := hP
  have hD : va_D A (wMod cA h mm 0 dy co ti ro n nb B G T BA GA TA mo) := hD
  obtain rfl : r_7 = bI (isInB x 0 (nI n - 1)) := hw_7
  refine lv_if_ne (tgt := 19) hx hb dX5_cut_10 (by decide) (fun c_10 => False.elim (by exact c_10 (congrArg bI (isBed_no hb0 (by omega))))) (fun c_10 => ?_)
  refine lv_aload_n hx hb dX5_cut_13 rfl (lv_at hl 0 rfl) ?_
  refine lv_iconst (v := 1) hx hb dX5_cut_14 (by decide) ?_
  refine goI ([]) ([(mm 0, I_ cA 64 (pkB B)), (mm 1, I_ cA 15 (pkG G)), (mm 2, I_ cA 3 T), (mm 3, I_ cA 64 (pkB BA)), (mm 4, I_ cA 15 (pkG GA)), (mm 5, I_ cA 3 TA), (mm 6, I_ cA 8 mo)]) hP hD hS hA (rnV (rest := []) (m_no sa tb D cA cL l h mm 0 dy co ti ro n nb 1 ) ([]) ([(mm 0, I_ cA 64 (pkB B)), (mm 1, I_ cA 15 (pkG G)), (mm 2, I_ cA 3 T), (mm 3, I_ cA 64 (pkB BA)), (mm 4, I_ cA 15 (pkG GA)), (mm 5, I_ cA 3 TA), (mm 6, I_ cA 8 mo)]) hP hD hS hA hE ⟨hx, hb, hml, hown, hts⟩ (cwV 1 hts gX5_cut_X5_no rfl rfl rfl (by decide +kernel) ⟨(Nat.le_of_ble_eq_true rfl), (Nat.le_of_ble_eq_true rfl)⟩) 5 0 rfl rfl rfl rfl hl.1 rfl (Nat.le_of_ble_eq_true rfl) dX5_cut_15 ⟨(Nat.le_of_ble_eq_true rfl), (Nat.le_of_ble_eq_true rfl)⟩) (fun _ => (show List.map Prod.fst _ = [h] from rfl).trans (show [h] = List.map Prod.fst _ from rfl)) (fun r_15 u_15 H locs hw_15 hP hD hS => ?_)
  have hP : va_P D vwCl (wMod cA h mm 1 dy co ti ro n nb B G T BA GA TA mo) H := hP
  have hD : va_D A (wMod cA h mm 1 dy co ti ro n nb B G T BA GA TA mo) := hD
  obtain rfl : r_15 = 0 := hw_15
  exact enI () hx hb hr hlocks hS hP (rfl) dX5_cut_18
set_option maxRecDepth 100000 in
set_option maxHeartbeats 4000000 in
theorem m_cut_2 (sa tb : Nat → Nat) (D : va_G) (cA cL : ClassId) (l : Launch) (h : Nat) (mm : Nat → Nat) (th : Int32) (dy : Int32) (co : Int32) (ti : Int32) (ro : Int32) (n : Nat) (nb : Nat) (B : Nat → Nat → Int32) (G : Nat → Nat → Int32) (T : Nat → Int32) (BA : Nat → Nat → Int32) (GA : Nat → Nat → Int32) (TA : Nat → Int32) (mo : Nat → Int32) (k : Nat) (hk : k < n) (hn : n ≤ 8) (ha : B 2 k = 0) : KM sa tb D cA cL l yX5_cut wsX5_cut ({ frames := 2, cells := 0, slots := 0, locals := 43 }) [.ref h, .int (nI k)] (wMod cA h mm th dy co ti ro n nb B G T BA GA TA mo) (qI D (fun (r : Int32) (_ : Unit) => r = 0) (fun _ => wMod cA h mm 2 dy co ti ro n nb B G T BA GA TA mo)) := by
  refine KM.of (cc := cX5_cut) (maxL := 5) (ret := some .int) (by decide) rfl (Nat.le_of_ble_eq_true rfl) ?_
  intro pg e s m args below meth c A hx hb hr hml hlocks hts hown hS hA hE hP hD ls hl
  have hown : s.vm.findClass RX5 = some m.cls := hown
  have hl : lv_has ls 5 [(0, .ref h), (1, .int (nI k))] := hl
  have hwX5 : ∀ w ∈ wsX50, w ∈ wsX5_cut := (fun _ h => List.mem_cons_of_mem _ (List.mem_append_right _ h))
  refine lv_aload_n hx hb dX5_cut_0 rfl (lv_at hl 0 rfl) ?_
  refine lv_iconst (v := 0) hx hb dX5_cut_1 (by decide) ?_
  refine va_put (D := D) (ci := 5) (v := .int 0) (ty := .int) (C := RX5) (T := TX5) (N := 14) hx hb hts hwX5 tyX5 tyX5_ok nmX5 hown hE.K hP hD hS 0 rfl rfl 0 (by decide) (hts (.fieldLink RX5 38 "SedgeBargesModel" "thrown" "I") (List.mem_of_getElem? (i := 1) rfl)) (fun _ h9 => h9) rfl (by decide +kernel) rfl rfl (Nat.le_of_ble_eq_true rfl) dX5_cut_2 (fun H locs hP hD hS => ?_)
  have hP : va_P D vwCl (wMod cA h mm 0 dy co ti ro n nb B G T BA GA TA mo) H := hP
  have hD : va_D A (wMod cA h mm 0 dy co ti ro n nb B G T BA GA TA mo) := hD
  refine lv_aload_n hx hb dX5_cut_5 rfl (lv_at hl 0 rfl) ?_
  refine lv_iload_n hx hb dX5_cut_6 rfl (lv_at hl 1 rfl) ?_
  refine goI ([]) ([(mm 0, I_ cA 64 (pkB B)), (mm 1, I_ cA 15 (pkG G)), (mm 2, I_ cA 3 T), (mm 3, I_ cA 64 (pkB BA)), (mm 4, I_ cA 15 (pkG GA)), (mm 5, I_ cA 3 TA), (mm 6, I_ cA 8 mo)]) hP hD hS hA (rnV (rest := []) (m_isBed sa tb D cA cL l h mm 0 dy co ti ro n nb (nI k) ) ([]) ([(mm 0, I_ cA 64 (pkB B)), (mm 1, I_ cA 15 (pkG G)), (mm 2, I_ cA 3 T), (mm 3, I_ cA 64 (pkB BA)), (mm 4, I_ cA 15 (pkG GA)), (mm 5, I_ cA 3 TA), (mm 6, I_ cA 8 mo)]) hP hD hS hA hE ⟨hx, hb, hml, hown, hts⟩ (cwV 1 hts gX5_cut_X5_isBed rfl rfl rfl (by decide +kernel) ⟨(Nat.le_of_ble_eq_true rfl), (Nat.le_of_ble_eq_true rfl)⟩) 5 0 rfl rfl rfl rfl hl.1 rfl (Nat.le_of_ble_eq_true rfl) dX5_cut_7 ⟨(Nat.le_of_ble_eq_true rfl), (Nat.le_of_ble_eq_true rfl)⟩) (fun _ => rfl) (fun r_7 u_7 H locs hw_7 hP hD hS => ?_)
  have hP : va_P D vwCl (wMod cA h mm 0 dy co ti ro n nb B G T BA GA TA mo) H := hP
  have hD : va_D A (wMod cA h mm 0 dy co ti ro n nb B G T BA GA TA mo) := hD
  obtain rfl : r_7 = bI (isInB (nI k) 0 (nI n - 1)) := hw_7
  refine lv_if_ne (tgt := 19) hx hb dX5_cut_10 (by decide) (fun c_10 => ?_) (fun c_10 => False.elim (by exact absurd ((bI0 c_10).symm.trans (isBed_yes hk (by omega))) (by decide)))
  refine lv_bipush (v := 8) hx hb dX5_cut_19 (by decide) ?_
  refine lv_iload_n hx hb dX5_cut_21 rfl (lv_at hl 1 rfl) ?_
  refine rn_mul (a := 8) (b := k) hx hb dX5_cut_22 ?_
  refine lv_istore_n (lv' := [(2, .int (nI (8 * k))), (0, .ref h), (1, .int (nI k))]) hx hb dX5_cut_23 rfl hl (by decide) rfl (fun ls hl => ?_)
  refine lv_aload_n hx hb dX5_cut_24 rfl (lv_at hl 1 rfl) ?_
  refine va_get (D := D) (ci := 5) (v := .ref (mm 0)) (C := RX5) (T := TX5) (N := 14) hx hb hts hwX5 hown hE.K hP 0 rfl rfl 7 (by decide) (hts (.fieldLink RX5 16 "SedgeBargesModel" "b" "[I") (List.mem_of_getElem? (i := 2) rfl)) (fun _ h9 => h9) rfl dX5_cut_25 ?_
  refine lv_iload_n hx hb dX5_cut_28 rfl (lv_at hl 0 rfl) ?_
  refine lv_iconst (v := 2) hx hb dX5_cut_29 (by decide) ?_
  refine rn_add (a := 8 * k) (b := 2) hx hb dX5_cut_30 ?_
  refine r_ald (f := pkB B) (v := B 2 k) hx hb hE hP 1 (8 * k + 2) rfl (congrArg nI (by omega)) (by omega) (by decide) (pkB_at 2 (k) (by decide)) dX5_cut_31 ?_
  refine lv_if_ne (tgt := 41) hx hb dX5_cut_32 (by decide) (fun c_32 => False.elim (by exact c_32 ha)) (fun c_32 => ?_)
  refine lv_aload_n hx hb dX5_cut_35 rfl (lv_at hl 1 rfl) ?_
  refine lv_iconst (v := 2) hx hb dX5_cut_36 (by decide) ?_
  refine goI ([]) ([(mm 0, I_ cA 64 (pkB B)), (mm 1, I_ cA 15 (pkG G)), (mm 2, I_ cA 3 T), (mm 3, I_ cA 64 (pkB BA)), (mm 4, I_ cA 15 (pkG GA)), (mm 5, I_ cA 3 TA), (mm 6, I_ cA 8 mo)]) hP hD hS hA (rnV (rest := []) (m_no sa tb D cA cL l h mm 0 dy co ti ro n nb 2 ) ([]) ([(mm 0, I_ cA 64 (pkB B)), (mm 1, I_ cA 15 (pkG G)), (mm 2, I_ cA 3 T), (mm 3, I_ cA 64 (pkB BA)), (mm 4, I_ cA 15 (pkG GA)), (mm 5, I_ cA 3 TA), (mm 6, I_ cA 8 mo)]) hP hD hS hA hE ⟨hx, hb, hml, hown, hts⟩ (cwV 1 hts gX5_cut_X5_no rfl rfl rfl (by decide +kernel) ⟨(Nat.le_of_ble_eq_true rfl), (Nat.le_of_ble_eq_true rfl)⟩) 5 0 rfl rfl rfl rfl hl.1 rfl (Nat.le_of_ble_eq_true rfl) dX5_cut_37 ⟨(Nat.le_of_ble_eq_true rfl), (Nat.le_of_ble_eq_true rfl)⟩) (fun _ => (show List.map Prod.fst _ = [h] from rfl).trans (show [h] = List.map Prod.fst _ from rfl)) (fun r_37 u_37 H locs hw_37 hP hD hS => ?_)
  have hP : va_P D vwCl (wMod cA h mm 2 dy co ti ro n nb B G T BA GA TA mo) H := hP
  have hD : va_D A (wMod cA h mm 2 dy co ti ro n nb B G T BA GA TA mo) := hD
  obtain rfl : r_37 = 0 := hw_37
  exact enI () hx hb hr hlocks hS hP (rfl) dX5_cut_40
set_option maxRecDepth 100000 in
set_option maxHeartbeats 4000000 in
theorem m_tieOf0 (sa tb : Nat → Nat) (D : va_G) (cA cL : ClassId) (l : Launch) (h : Nat) (mm : Nat → Nat) (th : Int32) (dy : Int32) (co : Int32) (ti : Int32) (ro : Int32) (n : Nat) (nb : Nat) (B : Nat → Nat → Int32) (G : Nat → Nat → Int32) (T : Nat → Int32) (BA : Nat → Nat → Int32) (GA : Nat → Nat → Int32) (TA : Nat → Int32) (mo : Nat → Int32) (k : Nat) (hk : k < 8) : KM sa tb D cA cL l yX5_tieOf wsX5_tieOf ({ frames := 1, cells := 0, slots := 0, locals := 24 }) [.ref h, .int (nI (8 * k)), .int 0] (wMod cA h mm th dy co ti ro n nb B G T BA GA TA mo) (qI D (fun (r : Int32) (_ : Unit) => r = imin ti (B 4 k)) (fun _ => wMod cA h mm th dy co (ti - imin ti (B 4 k)) ro n nb (st (st B 4 k (B 4 k - imin ti (B 4 k))) 6 k (B 6 k + imin ti (B 4 k))) G T BA GA TA mo)) := by
  refine KM.of (cc := cX5_tieOf) (maxL := 4) (ret := some .int) (by decide) rfl (Nat.le_of_ble_eq_true rfl) ?_
  intro pg e s m args below meth c A hx hb hr hml hlocks hts hown hS hA hE hP hD ls hl
  have hown : s.vm.findClass RX5 = some m.cls := hown
  have hl : lv_has ls 4 [(0, .ref h), (1, .int (nI (8 * k))), (2, .int 0)] := hl
  have hwX5 : ∀ w ∈ wsX50, w ∈ wsX5_tieOf := (fun _ h => List.mem_cons_of_mem _ (List.mem_append_right _ h))
  refine lv_aload_n hx hb dX5_tieOf_0 rfl (lv_at hl 0 rfl) ?_
  refine va_get (D := D) (ci := 5) (v := .int ti) (C := RX5) (T := TX5) (N := 14) hx hb hts hwX5 hown hE.K hP 0 rfl rfl 3 (by decide) (hts (.fieldLink RX5 13 "SedgeBargesModel" "ties" "I") (List.mem_of_getElem? (i := 1) rfl)) (fun _ h9 => h9) rfl dX5_tieOf_1 ?_
  refine lv_aload_n hx hb dX5_tieOf_4 rfl (lv_at hl 0 rfl) ?_
  refine va_get (D := D) (ci := 5) (v := .ref (mm 0)) (C := RX5) (T := TX5) (N := 14) hx hb hts hwX5 hown hE.K hP 0 rfl rfl 7 (by decide) (hts (.fieldLink RX5 16 "SedgeBargesModel" "b" "[I") (List.mem_of_getElem? (i := 2) rfl)) (fun _ h9 => h9) rfl dX5_tieOf_5 ?_
  refine lv_iload_n hx hb dX5_tieOf_8 rfl (lv_at hl 1 rfl) ?_
  refine lv_iconst (v := 4) hx hb dX5_tieOf_9 (by decide) ?_
  refine rn_add (a := 8 * k) (b := 4) hx hb dX5_tieOf_10 ?_
  refine lv_iload_n hx hb dX5_tieOf_11 rfl (lv_at hl 2 rfl) ?_
  refine rn_add (a := (8 * k) + 4) (b := 0) hx hb dX5_tieOf_12 ?_
  refine r_ald (f := pkB B) (v := B 4 k) hx hb hE hP 1 (8 * k + 4) rfl (congrArg nI (by omega)) (by omega) (by decide) (pkB_at 4 (k) (by decide)) dX5_tieOf_13 ?_
  refine r_mmin hx hb (hml.trans hl.1.symm) hown (hts (.methodLink RX5 73 Lib.Math.min.name) (List.mem_of_getElem? (i := 3) rfl)) (hts (.static Lib.Math.min.name) (List.mem_of_getElem? (i := 4) rfl)) (hts (.initialized "java/lang/Math") (List.mem_of_getElem? (i := 5) rfl)) (hts (.code Lib.Math.min.name Lib.Math.min.code 2 (some .int)) (List.mem_of_getElem? (i := 6) rfl)) (Nat.le_of_ble_eq_true rfl) (Nat.le_of_ble_eq_true rfl) (Nat.le_of_ble_eq_true rfl) (Nat.le_of_ble_eq_true rfl) dX5_tieOf_14 ?_
  refine lv_topi (fun z_1 hz_1 => ?_)
  refine lv_istore_n (lv' := [(3, .int z_1), (0, .ref h), (1, .int (nI (8 * k))), (2, .int 0)]) hx hb dX5_tieOf_17 rfl hl (by decide) rfl (fun ls hl => ?_)
  refine lv_aload_n hx hb dX5_tieOf_18 rfl (lv_at hl 1 rfl) ?_
  refine lv_dup hx hb dX5_tieOf_19 rfl ?_
  refine va_get (D := D) (ci := 5) (v := .int ti) (C := RX5) (T := TX5) (N := 14) hx hb hts hwX5 hown hE.K hP 0 rfl rfl 3 (by decide) (hts (.fieldLink RX5 13 "SedgeBargesModel" "ties" "I") (List.mem_of_getElem? (i := 1) rfl)) (fun _ h9 => h9) rfl dX5_tieOf_20 ?_
  refine lv_iload_n hx hb dX5_tieOf_23 rfl (lv_at hl 0 rfl) ?_
  refine lv_isub hx hb dX5_tieOf_24 ?_
  refine lv_topi (fun z_2 hz_2 => ?_)
  refine va_put (D := D) (ci := 5) (v := .int z_2) (ty := .int) (C := RX5) (T := TX5) (N := 14) hx hb hts hwX5 tyX5 tyX5_ok nmX5 hown hE.K hP hD hS 0 rfl rfl 3 (by decide) (hts (.fieldLink RX5 13 "SedgeBargesModel" "ties" "I") (List.mem_of_getElem? (i := 1) rfl)) (fun _ h9 => h9) rfl (by decide +kernel) rfl rfl (Nat.le_of_ble_eq_true rfl) dX5_tieOf_25 (fun H locs hP hD hS => ?_)
  have hP : va_P D vwCl (wMod cA h mm th dy co z_2 ro n nb B G T BA GA TA mo) H := hP
  have hD : va_D A (wMod cA h mm th dy co z_2 ro n nb B G T BA GA TA mo) := hD
  refine lv_aload_n hx hb dX5_tieOf_28 rfl (lv_at hl 1 rfl) ?_
  refine va_get (D := D) (ci := 5) (v := .ref (mm 0)) (C := RX5) (T := TX5) (N := 14) hx hb hts hwX5 hown hE.K hP 0 rfl rfl 7 (by decide) (hts (.fieldLink RX5 16 "SedgeBargesModel" "b" "[I") (List.mem_of_getElem? (i := 2) rfl)) (fun _ h9 => h9) rfl dX5_tieOf_29 ?_
  refine lv_iload_n hx hb dX5_tieOf_32 rfl (lv_at hl 2 rfl) ?_
  refine lv_iconst (v := 4) hx hb dX5_tieOf_33 (by decide) ?_
  refine rn_add (a := 8 * k) (b := 4) hx hb dX5_tieOf_34 ?_
  refine lv_iload_n hx hb dX5_tieOf_35 rfl (lv_at hl 3 rfl) ?_
  refine rn_add (a := (8 * k) + 4) (b := 0) hx hb dX5_tieOf_36 ?_
  refine lv_dup2_11 hx hb dX5_tieOf_37 rfl rfl ?_
  refine r_ald (f := pkB B) (v := B 4 k) hx hb hE hP 1 (8 * k + 4) rfl (congrArg nI (by omega)) (by omega) (by decide) (pkB_at 4 (k) (by decide)) dX5_tieOf_38 ?_
  refine lv_iload_n hx hb dX5_tieOf_39 rfl (lv_at hl 0 rfl) ?_
  refine lv_isub hx hb dX5_tieOf_40 ?_
  refine lv_topi (fun z_3 hz_3 => ?_)
  refine r_ast (f := pkB B) (g := pkB (st B 4 k z_3)) hx hb hE hP hD hS 1 (8 * k + 4) rfl (congrArg nI (by omega)) (by omega) (by decide) (pkB_up 4 (k) _ (by decide)) dX5_tieOf_41 (fun H locs hP hD hS => ?_)
  have hP : va_P D vwCl (wMod cA h mm th dy co z_2 ro n nb (st B 4 k z_3) G T BA GA TA mo) H := hP
  have hD : va_D A (wMod cA h mm th dy co z_2 ro n nb (st B 4 k z_3) G T BA GA TA mo) := hD
  generalize hB_4 : st B 4 k z_3 = B_4 at hP hD
  refine lv_aload_n hx hb dX5_tieOf_42 rfl (lv_at hl 1 rfl) ?_
  refine va_get (D := D) (ci := 5) (v := .ref (mm 0)) (C := RX5) (T := TX5) (N := 14) hx hb hts hwX5 hown hE.K hP 0 rfl rfl 7 (by decide) (hts (.fieldLink RX5 16 "SedgeBargesModel" "b" "[I") (List.mem_of_getElem? (i := 2) rfl)) (fun _ h9 => h9) rfl dX5_tieOf_43 ?_
  refine lv_iload_n hx hb dX5_tieOf_46 rfl (lv_at hl 2 rfl) ?_
  refine lv_bipush (v := 6) hx hb dX5_tieOf_47 (by decide) ?_
  refine rn_add (a := 8 * k) (b := 6) hx hb dX5_tieOf_49 ?_
  refine lv_iload_n hx hb dX5_tieOf_50 rfl (lv_at hl 3 rfl) ?_
  refine rn_add (a := (8 * k) + 6) (b := 0) hx hb dX5_tieOf_51 ?_
  refine lv_dup2_11 hx hb dX5_tieOf_52 rfl rfl ?_
  refine r_ald (f := pkB B_4) (v := B 6 k) hx hb hE hP 1 (8 * k + 6) rfl (congrArg nI (by omega)) (by omega) (by decide) ((pkB_at 6 (k) (by decide)).trans (st_colE hB_4 (by decide))) dX5_tieOf_53 ?_
  refine lv_iload_n hx hb dX5_tieOf_54 rfl (lv_at hl 0 rfl) ?_
  refine lv_iadd hx hb dX5_tieOf_55 ?_
  refine lv_topi (fun z_5 hz_5 => ?_)
  refine r_ast (f := pkB B_4) (g := pkB (st B_4 6 k z_5)) hx hb hE hP hD hS 1 (8 * k + 6) rfl (congrArg nI (by omega)) (by omega) (by decide) (pkB_up 6 (k) _ (by decide)) dX5_tieOf_56 (fun H locs hP hD hS => ?_)
  have hP : va_P D vwCl (wMod cA h mm th dy co z_2 ro n nb (st B_4 6 k z_5) G T BA GA TA mo) H := hP
  have hD : va_D A (wMod cA h mm th dy co z_2 ro n nb (st B_4 6 k z_5) G T BA GA TA mo) := hD
  generalize hB_6 : st B_4 6 k z_5 = B_6 at hP hD
  refine lv_iload_n hx hb dX5_tieOf_57 rfl (lv_at hl 0 rfl) ?_
  subst hB_6
  subst hz_5
  subst hB_4
  subst hz_3
  subst hz_2
  subst hz_1
  exact enI () hx hb hr hlocks hS hP (rfl) dX5_tieOf_58
set_option maxRecDepth 100000 in
set_option maxHeartbeats 4000000 in
theorem m_tieOf1 (sa tb : Nat → Nat) (D : va_G) (cA cL : ClassId) (l : Launch) (h : Nat) (mm : Nat → Nat) (th : Int32) (dy : Int32) (co : Int32) (ti : Int32) (ro : Int32) (n : Nat) (nb : Nat) (B : Nat → Nat → Int32) (G : Nat → Nat → Int32) (T : Nat → Int32) (BA : Nat → Nat → Int32) (GA : Nat → Nat → Int32) (TA : Nat → Int32) (mo : Nat → Int32) (k : Nat) (hk : k < 8) : KM sa tb D cA cL l yX5_tieOf wsX5_tieOf ({ frames := 1, cells := 0, slots := 0, locals := 24 }) [.ref h, .int (nI (8 * k)), .int 1] (wMod cA h mm th dy co ti ro n nb B G T BA GA TA mo) (qI D (fun (r : Int32) (_ : Unit) => r = imin ti (B 5 k)) (fun _ => wMod cA h mm th dy co (ti - imin ti (B 5 k)) ro n nb (st (st B 5 k (B 5 k - imin ti (B 5 k))) 7 k (B 7 k + imin ti (B 5 k))) G T BA GA TA mo)) := by
  refine KM.of (cc := cX5_tieOf) (maxL := 4) (ret := some .int) (by decide) rfl (Nat.le_of_ble_eq_true rfl) ?_
  intro pg e s m args below meth c A hx hb hr hml hlocks hts hown hS hA hE hP hD ls hl
  have hown : s.vm.findClass RX5 = some m.cls := hown
  have hl : lv_has ls 4 [(0, .ref h), (1, .int (nI (8 * k))), (2, .int 1)] := hl
  have hwX5 : ∀ w ∈ wsX50, w ∈ wsX5_tieOf := (fun _ h => List.mem_cons_of_mem _ (List.mem_append_right _ h))
  refine lv_aload_n hx hb dX5_tieOf_0 rfl (lv_at hl 0 rfl) ?_
  refine va_get (D := D) (ci := 5) (v := .int ti) (C := RX5) (T := TX5) (N := 14) hx hb hts hwX5 hown hE.K hP 0 rfl rfl 3 (by decide) (hts (.fieldLink RX5 13 "SedgeBargesModel" "ties" "I") (List.mem_of_getElem? (i := 1) rfl)) (fun _ h9 => h9) rfl dX5_tieOf_1 ?_
  refine lv_aload_n hx hb dX5_tieOf_4 rfl (lv_at hl 0 rfl) ?_
  refine va_get (D := D) (ci := 5) (v := .ref (mm 0)) (C := RX5) (T := TX5) (N := 14) hx hb hts hwX5 hown hE.K hP 0 rfl rfl 7 (by decide) (hts (.fieldLink RX5 16 "SedgeBargesModel" "b" "[I") (List.mem_of_getElem? (i := 2) rfl)) (fun _ h9 => h9) rfl dX5_tieOf_5 ?_
  refine lv_iload_n hx hb dX5_tieOf_8 rfl (lv_at hl 1 rfl) ?_
  refine lv_iconst (v := 4) hx hb dX5_tieOf_9 (by decide) ?_
  refine rn_add (a := 8 * k) (b := 4) hx hb dX5_tieOf_10 ?_
  refine lv_iload_n hx hb dX5_tieOf_11 rfl (lv_at hl 2 rfl) ?_
  refine rn_add (a := (8 * k) + 4) (b := 1) hx hb dX5_tieOf_12 ?_
  refine r_ald (f := pkB B) (v := B 5 k) hx hb hE hP 1 (8 * k + 5) rfl (congrArg nI (by omega)) (by omega) (by decide) (pkB_at 5 (k) (by decide)) dX5_tieOf_13 ?_
  refine r_mmin hx hb (hml.trans hl.1.symm) hown (hts (.methodLink RX5 73 Lib.Math.min.name) (List.mem_of_getElem? (i := 3) rfl)) (hts (.static Lib.Math.min.name) (List.mem_of_getElem? (i := 4) rfl)) (hts (.initialized "java/lang/Math") (List.mem_of_getElem? (i := 5) rfl)) (hts (.code Lib.Math.min.name Lib.Math.min.code 2 (some .int)) (List.mem_of_getElem? (i := 6) rfl)) (Nat.le_of_ble_eq_true rfl) (Nat.le_of_ble_eq_true rfl) (Nat.le_of_ble_eq_true rfl) (Nat.le_of_ble_eq_true rfl) dX5_tieOf_14 ?_
  refine lv_topi (fun z_1 hz_1 => ?_)
  refine lv_istore_n (lv' := [(3, .int z_1), (0, .ref h), (1, .int (nI (8 * k))), (2, .int 1)]) hx hb dX5_tieOf_17 rfl hl (by decide) rfl (fun ls hl => ?_)
  refine lv_aload_n hx hb dX5_tieOf_18 rfl (lv_at hl 1 rfl) ?_
  refine lv_dup hx hb dX5_tieOf_19 rfl ?_
  refine va_get (D := D) (ci := 5) (v := .int ti) (C := RX5) (T := TX5) (N := 14) hx hb hts hwX5 hown hE.K hP 0 rfl rfl 3 (by decide) (hts (.fieldLink RX5 13 "SedgeBargesModel" "ties" "I") (List.mem_of_getElem? (i := 1) rfl)) (fun _ h9 => h9) rfl dX5_tieOf_20 ?_
  refine lv_iload_n hx hb dX5_tieOf_23 rfl (lv_at hl 0 rfl) ?_
  refine lv_isub hx hb dX5_tieOf_24 ?_
  refine lv_topi (fun z_2 hz_2 => ?_)
  refine va_put (D := D) (ci := 5) (v := .int z_2) (ty := .int) (C := RX5) (T := TX5) (N := 14) hx hb hts hwX5 tyX5 tyX5_ok nmX5 hown hE.K hP hD hS 0 rfl rfl 3 (by decide) (hts (.fieldLink RX5 13 "SedgeBargesModel" "ties" "I") (List.mem_of_getElem? (i := 1) rfl)) (fun _ h9 => h9) rfl (by decide +kernel) rfl rfl (Nat.le_of_ble_eq_true rfl) dX5_tieOf_25 (fun H locs hP hD hS => ?_)
  have hP : va_P D vwCl (wMod cA h mm th dy co z_2 ro n nb B G T BA GA TA mo) H := hP
  have hD : va_D A (wMod cA h mm th dy co z_2 ro n nb B G T BA GA TA mo) := hD
  refine lv_aload_n hx hb dX5_tieOf_28 rfl (lv_at hl 1 rfl) ?_
  refine va_get (D := D) (ci := 5) (v := .ref (mm 0)) (C := RX5) (T := TX5) (N := 14) hx hb hts hwX5 hown hE.K hP 0 rfl rfl 7 (by decide) (hts (.fieldLink RX5 16 "SedgeBargesModel" "b" "[I") (List.mem_of_getElem? (i := 2) rfl)) (fun _ h9 => h9) rfl dX5_tieOf_29 ?_
  refine lv_iload_n hx hb dX5_tieOf_32 rfl (lv_at hl 2 rfl) ?_
  refine lv_iconst (v := 4) hx hb dX5_tieOf_33 (by decide) ?_
  refine rn_add (a := 8 * k) (b := 4) hx hb dX5_tieOf_34 ?_
  refine lv_iload_n hx hb dX5_tieOf_35 rfl (lv_at hl 3 rfl) ?_
  refine rn_add (a := (8 * k) + 4) (b := 1) hx hb dX5_tieOf_36 ?_
  refine lv_dup2_11 hx hb dX5_tieOf_37 rfl rfl ?_
  refine r_ald (f := pkB B) (v := B 5 k) hx hb hE hP 1 (8 * k + 5) rfl (congrArg nI (by omega)) (by omega) (by decide) (pkB_at 5 (k) (by decide)) dX5_tieOf_38 ?_
  refine lv_iload_n hx hb dX5_tieOf_39 rfl (lv_at hl 0 rfl) ?_
  refine lv_isub hx hb dX5_tieOf_40 ?_
  refine lv_topi (fun z_3 hz_3 => ?_)
  refine r_ast (f := pkB B) (g := pkB (st B 5 k z_3)) hx hb hE hP hD hS 1 (8 * k + 5) rfl (congrArg nI (by omega)) (by omega) (by decide) (pkB_up 5 (k) _ (by decide)) dX5_tieOf_41 (fun H locs hP hD hS => ?_)
  have hP : va_P D vwCl (wMod cA h mm th dy co z_2 ro n nb (st B 5 k z_3) G T BA GA TA mo) H := hP
  have hD : va_D A (wMod cA h mm th dy co z_2 ro n nb (st B 5 k z_3) G T BA GA TA mo) := hD
  generalize hB_4 : st B 5 k z_3 = B_4 at hP hD
  refine lv_aload_n hx hb dX5_tieOf_42 rfl (lv_at hl 1 rfl) ?_
  refine va_get (D := D) (ci := 5) (v := .ref (mm 0)) (C := RX5) (T := TX5) (N := 14) hx hb hts hwX5 hown hE.K hP 0 rfl rfl 7 (by decide) (hts (.fieldLink RX5 16 "SedgeBargesModel" "b" "[I") (List.mem_of_getElem? (i := 2) rfl)) (fun _ h9 => h9) rfl dX5_tieOf_43 ?_
  refine lv_iload_n hx hb dX5_tieOf_46 rfl (lv_at hl 2 rfl) ?_
  refine lv_bipush (v := 6) hx hb dX5_tieOf_47 (by decide) ?_
  refine rn_add (a := 8 * k) (b := 6) hx hb dX5_tieOf_49 ?_
  refine lv_iload_n hx hb dX5_tieOf_50 rfl (lv_at hl 3 rfl) ?_
  refine rn_add (a := (8 * k) + 6) (b := 1) hx hb dX5_tieOf_51 ?_
  refine lv_dup2_11 hx hb dX5_tieOf_52 rfl rfl ?_
  refine r_ald (f := pkB B_4) (v := B 7 k) hx hb hE hP 1 (8 * k + 7) rfl (congrArg nI (by omega)) (by omega) (by decide) ((pkB_at 7 (k) (by decide)).trans (st_colE hB_4 (by decide))) dX5_tieOf_53 ?_
  refine lv_iload_n hx hb dX5_tieOf_54 rfl (lv_at hl 0 rfl) ?_
  refine lv_iadd hx hb dX5_tieOf_55 ?_
  refine lv_topi (fun z_5 hz_5 => ?_)
  refine r_ast (f := pkB B_4) (g := pkB (st B_4 7 k z_5)) hx hb hE hP hD hS 1 (8 * k + 7) rfl (congrArg nI (by omega)) (by omega) (by decide) (pkB_up 7 (k) _ (by decide)) dX5_tieOf_56 (fun H locs hP hD hS => ?_)
  have hP : va_P D vwCl (wMod cA h mm th dy co z_2 ro n nb (st B_4 7 k z_5) G T BA GA TA mo) H := hP
  have hD : va_D A (wMod cA h mm th dy co z_2 ro n nb (st B_4 7 k z_5) G T BA GA TA mo) := hD
  generalize hB_6 : st B_4 7 k z_5 = B_6 at hP hD
  refine lv_iload_n hx hb dX5_tieOf_57 rfl (lv_at hl 0 rfl) ?_
  subst hB_6
  subst hz_5
  subst hB_4
  subst hz_3
  subst hz_2
  subst hz_1
  exact enI () hx hb hr hlocks hS hP (rfl) dX5_tieOf_58
set_option maxRecDepth 100000 in
set_option maxHeartbeats 4000000 in
theorem m_tie (sa tb : Nat → Nat) (D : va_G) (cA cL : ClassId) (l : Launch) (h : Nat) (mm : Nat → Nat) (th : Int32) (dy : Int32) (co : Int32) (ti : Int32) (ro : Int32) (n : Nat) (nb : Nat) (B : Nat → Nat → Int32) (G : Nat → Nat → Int32) (T : Nat → Int32) (BA : Nat → Nat → Int32) (GA : Nat → Nat → Int32) (TA : Nat → Int32) (mo : Nat → Int32) (k : Nat) (hk : k < n) (hn : n ≤ 8) : KM sa tb D cA cL l yX5_tie wsX5_tie ({ frames := 2, cells := 0, slots := 0, locals := 47 }) [.ref h, .int (nI k)] (wMod cA h mm th dy co ti ro n nb B G T BA GA TA mo) (qI D (fun (r : Int32) (_ : Unit) => r = tieS B k ti + tieR B k ti) (fun _ => wMod cA h mm 0 dy co (ti - (tieS B k ti + tieR B k ti)) ro n nb (tieB B k ti) G T BA GA TA mo)) := by
  refine KM.of (cc := cX5_tie) (maxL := 2) (ret := some .int) (by decide) rfl (Nat.le_of_ble_eq_true rfl) ?_
  intro pg e s m args below meth c A hx hb hr hml hlocks hts hown hS hA hE hP hD ls hl
  have hown : s.vm.findClass RX5 = some m.cls := hown
  have hl : lv_has ls 2 [(0, .ref h), (1, .int (nI k))] := hl
  have hwX5 : ∀ w ∈ wsX50, w ∈ wsX5_tie := (fun _ h => List.mem_cons_of_mem _ (List.mem_append_right _ h))
  refine lv_aload_n hx hb dX5_tie_0 rfl (lv_at hl 0 rfl) ?_
  refine lv_iconst (v := 0) hx hb dX5_tie_1 (by decide) ?_
  refine va_put (D := D) (ci := 5) (v := .int 0) (ty := .int) (C := RX5) (T := TX5) (N := 14) hx hb hts hwX5 tyX5 tyX5_ok nmX5 hown hE.K hP hD hS 0 rfl rfl 0 (by decide) (hts (.fieldLink RX5 38 "SedgeBargesModel" "thrown" "I") (List.mem_of_getElem? (i := 1) rfl)) (fun _ h9 => h9) rfl (by decide +kernel) rfl rfl (Nat.le_of_ble_eq_true rfl) dX5_tie_2 (fun H locs hP hD hS => ?_)
  have hP : va_P D vwCl (wMod cA h mm 0 dy co ti ro n nb B G T BA GA TA mo) H := hP
  have hD : va_D A (wMod cA h mm 0 dy co ti ro n nb B G T BA GA TA mo) := hD
  refine lv_aload_n hx hb dX5_tie_5 rfl (lv_at hl 0 rfl) ?_
  refine lv_iload_n hx hb dX5_tie_6 rfl (lv_at hl 1 rfl) ?_
  refine goI ([]) ([(mm 0, I_ cA 64 (pkB B)), (mm 1, I_ cA 15 (pkG G)), (mm 2, I_ cA 3 T), (mm 3, I_ cA 64 (pkB BA)), (mm 4, I_ cA 15 (pkG GA)), (mm 5, I_ cA 3 TA), (mm 6, I_ cA 8 mo)]) hP hD hS hA (rnV (rest := []) (m_isBed sa tb D cA cL l h mm 0 dy co ti ro n nb (nI k) ) ([]) ([(mm 0, I_ cA 64 (pkB B)), (mm 1, I_ cA 15 (pkG G)), (mm 2, I_ cA 3 T), (mm 3, I_ cA 64 (pkB BA)), (mm 4, I_ cA 15 (pkG GA)), (mm 5, I_ cA 3 TA), (mm 6, I_ cA 8 mo)]) hP hD hS hA hE ⟨hx, hb, hml, hown, hts⟩ (cwV 1 hts gX5_tie_X5_isBed rfl rfl rfl (by decide +kernel) ⟨(Nat.le_of_ble_eq_true rfl), (Nat.le_of_ble_eq_true rfl)⟩) 5 0 rfl rfl rfl rfl hl.1 rfl (Nat.le_of_ble_eq_true rfl) dX5_tie_7 ⟨(Nat.le_of_ble_eq_true rfl), (Nat.le_of_ble_eq_true rfl)⟩) (fun _ => rfl) (fun r_7 u_7 H locs hw_7 hP hD hS => ?_)
  have hP : va_P D vwCl (wMod cA h mm 0 dy co ti ro n nb B G T BA GA TA mo) H := hP
  have hD : va_D A (wMod cA h mm 0 dy co ti ro n nb B G T BA GA TA mo) := hD
  obtain rfl : r_7 = bI (isInB (nI k) 0 (nI n - 1)) := hw_7
  refine lv_if_eq (tgt := 35) hx hb dX5_tie_10 (by decide) (fun c_10 => False.elim (by exact absurd ((bI0 c_10).symm.trans (isBed_yes hk (by omega))) (by decide))) (fun c_10 => ?_)
  refine lv_aload_n hx hb dX5_tie_13 rfl (lv_at hl 0 rfl) ?_
  refine lv_bipush (v := 8) hx hb dX5_tie_14 (by decide) ?_
  refine lv_iload_n hx hb dX5_tie_16 rfl (lv_at hl 1 rfl) ?_
  refine rn_mul (a := 8) (b := k) hx hb dX5_tie_17 ?_
  refine lv_iconst (v := 0) hx hb dX5_tie_18 (by decide) ?_
  refine goI ([]) ([]) hP hD hS hA (rnV (rest := []) (m_tieOf0 sa tb D cA cL l h mm 0 dy co ti ro n nb B G T BA GA TA mo k (show k < 8 from by first | omega | assumption | decide)) ([]) ([]) hP hD hS hA hE ⟨hx, hb, hml, hown, hts⟩ (cwV 2 hts gX5_tie_X5_tieOf rfl rfl rfl (by decide +kernel) ⟨(Nat.le_of_ble_eq_true rfl), (Nat.le_of_ble_eq_true rfl)⟩) 5 0 rfl rfl rfl rfl hl.1 rfl (Nat.le_of_ble_eq_true rfl) dX5_tie_19 ⟨(Nat.le_of_ble_eq_true rfl), (Nat.le_of_ble_eq_true rfl)⟩) (fun _ => (show List.map Prod.fst _ = [h, mm 0, mm 1, mm 2, mm 3, mm 4, mm 5, mm 6] from rfl).trans (show [h, mm 0, mm 1, mm 2, mm 3, mm 4, mm 5, mm 6] = List.map Prod.fst _ from rfl)) (fun r_19 u_19 H locs hw_19 hP hD hS => ?_)
  have hP : va_P D vwCl (wMod cA h mm 0 dy co (ti - imin ti (B 4 k)) ro n nb (st (st B 4 k (B 4 k - imin ti (B 4 k))) 6 k (B 6 k + imin ti (B 4 k))) G T BA GA TA mo) H := hP
  have hD : va_D A (wMod cA h mm 0 dy co (ti - imin ti (B 4 k)) ro n nb (st (st B 4 k (B 4 k - imin ti (B 4 k))) 6 k (B 6 k + imin ti (B 4 k))) G T BA GA TA mo) := hD
  generalize hBq1 : st (st B 4 k (B 4 k - imin ti (B 4 k))) 6 k (B 6 k + imin ti (B 4 k)) = Bq1 at hP hD
  generalize htiq2 : ti - imin ti (B 4 k) = tiq2 at hP hD
  have hr_19 : r_19 = imin ti (B 4 k) := hw_19
  refine lv_aload_n hx hb dX5_tie_22 rfl (lv_at hl 0 rfl) ?_
  refine lv_bipush (v := 8) hx hb dX5_tie_23 (by decide) ?_
  refine lv_iload_n hx hb dX5_tie_25 rfl (lv_at hl 1 rfl) ?_
  refine rn_mul (a := 8) (b := k) hx hb dX5_tie_26 ?_
  refine lv_iconst (v := 1) hx hb dX5_tie_27 (by decide) ?_
  refine goI ([]) ([]) hP hD hS hA (rnV (rest := [.int r_19]) (m_tieOf1 sa tb D cA cL l h mm 0 dy co tiq2 ro n nb Bq1 G T BA GA TA mo k (show k < 8 from by first | omega | assumption | decide)) ([]) ([]) hP hD hS hA hE ⟨hx, hb, hml, hown, hts⟩ (cwV 2 hts gX5_tie_X5_tieOf rfl rfl rfl (by decide +kernel) ⟨(Nat.le_of_ble_eq_true rfl), (Nat.le_of_ble_eq_true rfl)⟩) 5 0 rfl rfl rfl rfl hl.1 rfl (Nat.le_of_ble_eq_true rfl) dX5_tie_28 ⟨(Nat.le_of_ble_eq_true rfl), (Nat.le_of_ble_eq_true rfl)⟩) (fun _ => (show List.map Prod.fst _ = [h, mm 0, mm 1, mm 2, mm 3, mm 4, mm 5, mm 6] from rfl).trans (show [h, mm 0, mm 1, mm 2, mm 3, mm 4, mm 5, mm 6] = List.map Prod.fst _ from rfl)) (fun r_28 u_28 H locs hw_28 hP hD hS => ?_)
  have hP : va_P D vwCl (wMod cA h mm 0 dy co (tiq2 - imin tiq2 (Bq1 5 k)) ro n nb (st (st Bq1 5 k (Bq1 5 k - imin tiq2 (Bq1 5 k))) 7 k (Bq1 7 k + imin tiq2 (Bq1 5 k))) G T BA GA TA mo) H := hP
  have hD : va_D A (wMod cA h mm 0 dy co (tiq2 - imin tiq2 (Bq1 5 k)) ro n nb (st (st Bq1 5 k (Bq1 5 k - imin tiq2 (Bq1 5 k))) 7 k (Bq1 7 k + imin tiq2 (Bq1 5 k))) G T BA GA TA mo) := hD
  have hr_28 : r_28 = imin tiq2 (Bq1 5 k) := hw_28
  refine lv_iadd hx hb dX5_tie_31 ?_
  refine lv_goto (tgt := 40) hx hb dX5_tie_32 (by decide) ?_
  have hW_B : tieB B k ti = st (st Bq1 5 k (Bq1 5 k - imin tiq2 (Bq1 5 k))) 7 k (Bq1 7 k + imin tiq2 (Bq1 5 k)) := tie_B' hBq1 htiq2
  rw [← hW_B] at hP
  have hW_ti : ti - (tieS B k ti + tieR B k ti) = tiq2 - imin tiq2 (Bq1 5 k) := tie_t' hBq1 htiq2
  rw [← hW_ti] at hP
  exact enI () hx hb hr hlocks hS hP (by rw [hr_19, hr_28]; exact tie_r' hBq1 htiq2) dX5_tie_40
set_option maxRecDepth 100000 in
set_option maxHeartbeats 4000000 in
theorem m_tie_1 (sa tb : Nat → Nat) (D : va_G) (cA cL : ClassId) (l : Launch) (h : Nat) (mm : Nat → Nat) (th : Int32) (dy : Int32) (co : Int32) (ti : Int32) (ro : Int32) (n : Nat) (nb : Nat) (B : Nat → Nat → Int32) (G : Nat → Nat → Int32) (T : Nat → Int32) (BA : Nat → Nat → Int32) (GA : Nat → Nat → Int32) (TA : Nat → Int32) (mo : Nat → Int32) (x : Int32) (hb0 : x < 0 ∨ ¬ x < nI n) (hn : n ≤ 8) : KM sa tb D cA cL l yX5_tie wsX5_tie ({ frames := 2, cells := 0, slots := 0, locals := 43 }) [.ref h, .int x] (wMod cA h mm th dy co ti ro n nb B G T BA GA TA mo) (qI D (fun (r : Int32) (_ : Unit) => r = 0) (fun _ => wMod cA h mm 1 dy co ti ro n nb B G T BA GA TA mo)) := by
  refine KM.of (cc := cX5_tie) (maxL := 2) (ret := some .int) (by decide) rfl (Nat.le_of_ble_eq_true rfl) ?_
  intro pg e s m args below meth c A hx hb hr hml hlocks hts hown hS hA hE hP hD ls hl
  have hown : s.vm.findClass RX5 = some m.cls := hown
  have hl : lv_has ls 2 [(0, .ref h), (1, .int x)] := hl
  have hwX5 : ∀ w ∈ wsX50, w ∈ wsX5_tie := (fun _ h => List.mem_cons_of_mem _ (List.mem_append_right _ h))
  refine lv_aload_n hx hb dX5_tie_0 rfl (lv_at hl 0 rfl) ?_
  refine lv_iconst (v := 0) hx hb dX5_tie_1 (by decide) ?_
  refine va_put (D := D) (ci := 5) (v := .int 0) (ty := .int) (C := RX5) (T := TX5) (N := 14) hx hb hts hwX5 tyX5 tyX5_ok nmX5 hown hE.K hP hD hS 0 rfl rfl 0 (by decide) (hts (.fieldLink RX5 38 "SedgeBargesModel" "thrown" "I") (List.mem_of_getElem? (i := 1) rfl)) (fun _ h9 => h9) rfl (by decide +kernel) rfl rfl (Nat.le_of_ble_eq_true rfl) dX5_tie_2 (fun H locs hP hD hS => ?_)
  have hP : va_P D vwCl (wMod cA h mm 0 dy co ti ro n nb B G T BA GA TA mo) H := hP
  have hD : va_D A (wMod cA h mm 0 dy co ti ro n nb B G T BA GA TA mo) := hD
  refine lv_aload_n hx hb dX5_tie_5 rfl (lv_at hl 0 rfl) ?_
  refine lv_iload_n hx hb dX5_tie_6 rfl (lv_at hl 1 rfl) ?_
  refine goI ([]) ([(mm 0, I_ cA 64 (pkB B)), (mm 1, I_ cA 15 (pkG G)), (mm 2, I_ cA 3 T), (mm 3, I_ cA 64 (pkB BA)), (mm 4, I_ cA 15 (pkG GA)), (mm 5, I_ cA 3 TA), (mm 6, I_ cA 8 mo)]) hP hD hS hA (rnV (rest := []) (m_isBed sa tb D cA cL l h mm 0 dy co ti ro n nb x ) ([]) ([(mm 0, I_ cA 64 (pkB B)), (mm 1, I_ cA 15 (pkG G)), (mm 2, I_ cA 3 T), (mm 3, I_ cA 64 (pkB BA)), (mm 4, I_ cA 15 (pkG GA)), (mm 5, I_ cA 3 TA), (mm 6, I_ cA 8 mo)]) hP hD hS hA hE ⟨hx, hb, hml, hown, hts⟩ (cwV 1 hts gX5_tie_X5_isBed rfl rfl rfl (by decide +kernel) ⟨(Nat.le_of_ble_eq_true rfl), (Nat.le_of_ble_eq_true rfl)⟩) 5 0 rfl rfl rfl rfl hl.1 rfl (Nat.le_of_ble_eq_true rfl) dX5_tie_7 ⟨(Nat.le_of_ble_eq_true rfl), (Nat.le_of_ble_eq_true rfl)⟩) (fun _ => rfl) (fun r_7 u_7 H locs hw_7 hP hD hS => ?_)
  have hP : va_P D vwCl (wMod cA h mm 0 dy co ti ro n nb B G T BA GA TA mo) H := hP
  have hD : va_D A (wMod cA h mm 0 dy co ti ro n nb B G T BA GA TA mo) := hD
  obtain rfl : r_7 = bI (isInB x 0 (nI n - 1)) := hw_7
  refine lv_if_eq (tgt := 35) hx hb dX5_tie_10 (by decide) (fun c_10 => ?_) (fun c_10 => False.elim (by exact c_10 (congrArg bI (isBed_no hb0 (by omega)))))
  refine lv_aload_n hx hb dX5_tie_35 rfl (lv_at hl 0 rfl) ?_
  refine lv_iconst (v := 1) hx hb dX5_tie_36 (by decide) ?_
  refine goI ([]) ([(mm 0, I_ cA 64 (pkB B)), (mm 1, I_ cA 15 (pkG G)), (mm 2, I_ cA 3 T), (mm 3, I_ cA 64 (pkB BA)), (mm 4, I_ cA 15 (pkG GA)), (mm 5, I_ cA 3 TA), (mm 6, I_ cA 8 mo)]) hP hD hS hA (rnV (rest := []) (m_no sa tb D cA cL l h mm 0 dy co ti ro n nb 1 ) ([]) ([(mm 0, I_ cA 64 (pkB B)), (mm 1, I_ cA 15 (pkG G)), (mm 2, I_ cA 3 T), (mm 3, I_ cA 64 (pkB BA)), (mm 4, I_ cA 15 (pkG GA)), (mm 5, I_ cA 3 TA), (mm 6, I_ cA 8 mo)]) hP hD hS hA hE ⟨hx, hb, hml, hown, hts⟩ (cwV 1 hts gX5_tie_X5_no rfl rfl rfl (by decide +kernel) ⟨(Nat.le_of_ble_eq_true rfl), (Nat.le_of_ble_eq_true rfl)⟩) 5 0 rfl rfl rfl rfl hl.1 rfl (Nat.le_of_ble_eq_true rfl) dX5_tie_37 ⟨(Nat.le_of_ble_eq_true rfl), (Nat.le_of_ble_eq_true rfl)⟩) (fun _ => (show List.map Prod.fst _ = [h] from rfl).trans (show [h] = List.map Prod.fst _ from rfl)) (fun r_37 u_37 H locs hw_37 hP hD hS => ?_)
  have hP : va_P D vwCl (wMod cA h mm 1 dy co ti ro n nb B G T BA GA TA mo) H := hP
  have hD : va_D A (wMod cA h mm 1 dy co ti ro n nb B G T BA GA TA mo) := hD
  obtain rfl : r_37 = 0 := hw_37
  exact enI () hx hb hr hlocks hS hP (rfl) dX5_tie_40
set_option maxRecDepth 100000 in
set_option maxHeartbeats 4000000 in
theorem m_buy (sa tb : Nat → Nat) (D : va_G) (cA cL : ClassId) (l : Launch) (h : Nat) (mm : Nat → Nat) (th : Int32) (dy : Int32) (co : Int32) (ti : Int32) (ro : Int32) (n : Nat) (nb : Nat) (B : Nat → Nat → Int32) (G : Nat → Nat → Int32) (T : Nat → Int32) (BA : Nat → Nat → Int32) (GA : Nat → Nat → Int32) (TA : Nat → Int32) (mo : Nat → Int32) (x : Int32) (q0 : ¬ x < 1) (q1 : x ≤ 500) (q2 : tenth x ≤ co) : KM sa tb D cA cL l yX5_buy wsX5_buy ({ frames := 1, cells := 0, slots := 0, locals := 22 }) [.ref h, .int x] (wMod cA h mm th dy co ti ro n nb B G T BA GA TA mo) (qI D (fun (r : Int32) (_ : Unit) => r = ti + x) (fun _ => wMod cA h mm 0 dy (co - tenth x) (ti + x) ro n nb B G T BA GA TA mo)) := by
  refine KM.of (cc := cX5_buy) (maxL := 2) (ret := some .int) (by decide) rfl (Nat.le_of_ble_eq_true rfl) ?_
  intro pg e s m args below meth c A hx hb hr hml hlocks hts hown hS hA hE hP hD ls hl
  have hown : s.vm.findClass RX5 = some m.cls := hown
  have hl : lv_has ls 2 [(0, .ref h), (1, .int x)] := hl
  have hwX5 : ∀ w ∈ wsX50, w ∈ wsX5_buy := (fun _ h => List.mem_cons_of_mem _ (List.mem_append_right _ h))
  refine lv_aload_n hx hb dX5_buy_0 rfl (lv_at hl 0 rfl) ?_
  refine lv_iconst (v := 0) hx hb dX5_buy_1 (by decide) ?_
  refine va_put (D := D) (ci := 5) (v := .int 0) (ty := .int) (C := RX5) (T := TX5) (N := 14) hx hb hts hwX5 tyX5 tyX5_ok nmX5 hown hE.K hP hD hS 0 rfl rfl 0 (by decide) (hts (.fieldLink RX5 38 "SedgeBargesModel" "thrown" "I") (List.mem_of_getElem? (i := 1) rfl)) (fun _ h9 => h9) rfl (by decide +kernel) rfl rfl (Nat.le_of_ble_eq_true rfl) dX5_buy_2 (fun H locs hP hD hS => ?_)
  have hP : va_P D vwCl (wMod cA h mm 0 dy co ti ro n nb B G T BA GA TA mo) H := hP
  have hD : va_D A (wMod cA h mm 0 dy co ti ro n nb B G T BA GA TA mo) := hD
  refine lv_iload_n hx hb dX5_buy_5 rfl (lv_at hl 1 rfl) ?_
  refine lv_iconst (v := 1) hx hb dX5_buy_6 (by decide) ?_
  refine lv_sipush (v := 500) hx hb dX5_buy_7 (by decide) ?_
  refine goI ([]) (wMod cA h mm 0 dy co ti ro n nb B G T BA GA TA mo) hP hD hS hA (rnS (rest := []) (m_isIn sa tb D cA cL l x 1 500 ) ([]) (wMod cA h mm 0 dy co ti ro n nb B G T BA GA TA mo) hP hD hS hA hE ⟨hx, hb, hml, hown, hts⟩ (va_cwS 3 hts gX5_buy_X5_isIn rfl rfl rfl (by decide +kernel) ⟨(Nat.le_of_ble_eq_true rfl), (Nat.le_of_ble_eq_true rfl)⟩) rfl hl.1 rfl (Nat.le_of_ble_eq_true rfl) dX5_buy_10 ⟨(Nat.le_of_ble_eq_true rfl), (Nat.le_of_ble_eq_true rfl)⟩) (fun _ => rfl) (fun r_10 u_10 H locs hw_10 hP hD hS => ?_)
  have hP : va_P D vwCl (wMod cA h mm 0 dy co ti ro n nb B G T BA GA TA mo) H := hP
  have hD : va_D A (wMod cA h mm 0 dy co ti ro n nb B G T BA GA TA mo) := hD
  obtain rfl : r_10 = bI (isInB x 1 500) := hw_10
  refine lv_if_ne (tgt := 22) hx hb dX5_buy_13 (by decide) (fun c_13 => ?_) (fun c_13 => False.elim (by exact absurd ((bI0 c_13).symm.trans (isIn_yes q0 q1)) (by decide)))
  refine lv_aload_n hx hb dX5_buy_22 rfl (lv_at hl 0 rfl) ?_
  refine va_get (D := D) (ci := 5) (v := .int co) (C := RX5) (T := TX5) (N := 14) hx hb hts hwX5 hown hE.K hP 0 rfl rfl 2 (by decide) (hts (.fieldLink RX5 7 "SedgeBargesModel" "coins" "I") (List.mem_of_getElem? (i := 2) rfl)) (fun _ h9 => h9) rfl dX5_buy_23 ?_
  refine lv_iload_n hx hb dX5_buy_26 rfl (lv_at hl 1 rfl) ?_
  refine lv_bipush (v := 9) hx hb dX5_buy_27 (by decide) ?_
  refine lv_iadd hx hb dX5_buy_29 ?_
  refine lv_bipush (v := 10) hx hb dX5_buy_30 (by decide) ?_
  refine lv_idiv hx hb dX5_buy_32 (by decide) ?_
  refine lv_icmp_ge (tgt := 42) hx hb dX5_buy_33 (by decide) (fun c_33 => ?_) (fun c_33 => False.elim (by exact c_33 q2))
  refine lv_aload_n hx hb dX5_buy_42 rfl (lv_at hl 0 rfl) ?_
  refine lv_dup hx hb dX5_buy_43 rfl ?_
  refine va_get (D := D) (ci := 5) (v := .int co) (C := RX5) (T := TX5) (N := 14) hx hb hts hwX5 hown hE.K hP 0 rfl rfl 2 (by decide) (hts (.fieldLink RX5 7 "SedgeBargesModel" "coins" "I") (List.mem_of_getElem? (i := 2) rfl)) (fun _ h9 => h9) rfl dX5_buy_44 ?_
  refine lv_iload_n hx hb dX5_buy_47 rfl (lv_at hl 1 rfl) ?_
  refine lv_bipush (v := 9) hx hb dX5_buy_48 (by decide) ?_
  refine lv_iadd hx hb dX5_buy_50 ?_
  refine lv_bipush (v := 10) hx hb dX5_buy_51 (by decide) ?_
  refine lv_idiv hx hb dX5_buy_53 (by decide) ?_
  refine lv_isub hx hb dX5_buy_54 ?_
  refine lv_topi (fun z_1 hz_1 => ?_)
  refine va_put (D := D) (ci := 5) (v := .int z_1) (ty := .int) (C := RX5) (T := TX5) (N := 14) hx hb hts hwX5 tyX5 tyX5_ok nmX5 hown hE.K hP hD hS 0 rfl rfl 2 (by decide) (hts (.fieldLink RX5 7 "SedgeBargesModel" "coins" "I") (List.mem_of_getElem? (i := 2) rfl)) (fun _ h9 => h9) rfl (by decide +kernel) rfl rfl (Nat.le_of_ble_eq_true rfl) dX5_buy_55 (fun H locs hP hD hS => ?_)
  have hP : va_P D vwCl (wMod cA h mm 0 dy z_1 ti ro n nb B G T BA GA TA mo) H := hP
  have hD : va_D A (wMod cA h mm 0 dy z_1 ti ro n nb B G T BA GA TA mo) := hD
  refine lv_aload_n hx hb dX5_buy_58 rfl (lv_at hl 0 rfl) ?_
  refine lv_dup hx hb dX5_buy_59 rfl ?_
  refine va_get (D := D) (ci := 5) (v := .int ti) (C := RX5) (T := TX5) (N := 14) hx hb hts hwX5 hown hE.K hP 0 rfl rfl 3 (by decide) (hts (.fieldLink RX5 13 "SedgeBargesModel" "ties" "I") (List.mem_of_getElem? (i := 3) rfl)) (fun _ h9 => h9) rfl dX5_buy_60 ?_
  refine lv_iload_n hx hb dX5_buy_63 rfl (lv_at hl 1 rfl) ?_
  refine lv_iadd hx hb dX5_buy_64 ?_
  refine lv_topi (fun z_2 hz_2 => ?_)
  refine va_put (D := D) (ci := 5) (v := .int z_2) (ty := .int) (C := RX5) (T := TX5) (N := 14) hx hb hts hwX5 tyX5 tyX5_ok nmX5 hown hE.K hP hD hS 0 rfl rfl 3 (by decide) (hts (.fieldLink RX5 13 "SedgeBargesModel" "ties" "I") (List.mem_of_getElem? (i := 3) rfl)) (fun _ h9 => h9) rfl (by decide +kernel) rfl rfl (Nat.le_of_ble_eq_true rfl) dX5_buy_65 (fun H locs hP hD hS => ?_)
  have hP : va_P D vwCl (wMod cA h mm 0 dy z_1 z_2 ro n nb B G T BA GA TA mo) H := hP
  have hD : va_D A (wMod cA h mm 0 dy z_1 z_2 ro n nb B G T BA GA TA mo) := hD
  refine lv_aload_n hx hb dX5_buy_68 rfl (lv_at hl 0 rfl) ?_
  refine va_get (D := D) (ci := 5) (v := .int z_2) (C := RX5) (T := TX5) (N := 14) hx hb hts hwX5 hown hE.K hP 0 rfl rfl 3 (by decide) (hts (.fieldLink RX5 13 "SedgeBargesModel" "ties" "I") (List.mem_of_getElem? (i := 3) rfl)) (fun _ h9 => h9) rfl dX5_buy_69 ?_
  subst hz_2
  subst hz_1
  have hW_co : co - tenth x = (co - ((x + 9) / 10)) := by unfold tenth; rfl
  rw [← hW_co] at hP
  exact enI () hx hb hr hlocks hS hP (rfl) dX5_buy_72
set_option maxRecDepth 100000 in
set_option maxHeartbeats 4000000 in
theorem m_buy_1 (sa tb : Nat → Nat) (D : va_G) (cA cL : ClassId) (l : Launch) (h : Nat) (mm : Nat → Nat) (th : Int32) (dy : Int32) (co : Int32) (ti : Int32) (ro : Int32) (n : Nat) (nb : Nat) (B : Nat → Nat → Int32) (G : Nat → Nat → Int32) (T : Nat → Int32) (BA : Nat → Nat → Int32) (GA : Nat → Nat → Int32) (TA : Nat → Int32) (mo : Nat → Int32) (x : Int32) (hb0 : x < 1 ∨ ¬ x ≤ 500) : KM sa tb D cA cL l yX5_buy wsX5_buy ({ frames := 1, cells := 0, slots := 0, locals := 22 }) [.ref h, .int x] (wMod cA h mm th dy co ti ro n nb B G T BA GA TA mo) (qI D (fun (r : Int32) (_ : Unit) => r = 0) (fun _ => wMod cA h mm 1 dy co ti ro n nb B G T BA GA TA mo)) := by
  refine KM.of (cc := cX5_buy) (maxL := 2) (ret := some .int) (by decide) rfl (Nat.le_of_ble_eq_true rfl) ?_
  intro pg e s m args below meth c A hx hb hr hml hlocks hts hown hS hA hE hP hD ls hl
  have hown : s.vm.findClass RX5 = some m.cls := hown
  have hl : lv_has ls 2 [(0, .ref h), (1, .int x)] := hl
  have hwX5 : ∀ w ∈ wsX50, w ∈ wsX5_buy := (fun _ h => List.mem_cons_of_mem _ (List.mem_append_right _ h))
  refine lv_aload_n hx hb dX5_buy_0 rfl (lv_at hl 0 rfl) ?_
  refine lv_iconst (v := 0) hx hb dX5_buy_1 (by decide) ?_
  refine va_put (D := D) (ci := 5) (v := .int 0) (ty := .int) (C := RX5) (T := TX5) (N := 14) hx hb hts hwX5 tyX5 tyX5_ok nmX5 hown hE.K hP hD hS 0 rfl rfl 0 (by decide) (hts (.fieldLink RX5 38 "SedgeBargesModel" "thrown" "I") (List.mem_of_getElem? (i := 1) rfl)) (fun _ h9 => h9) rfl (by decide +kernel) rfl rfl (Nat.le_of_ble_eq_true rfl) dX5_buy_2 (fun H locs hP hD hS => ?_)
  have hP : va_P D vwCl (wMod cA h mm 0 dy co ti ro n nb B G T BA GA TA mo) H := hP
  have hD : va_D A (wMod cA h mm 0 dy co ti ro n nb B G T BA GA TA mo) := hD
  refine lv_iload_n hx hb dX5_buy_5 rfl (lv_at hl 1 rfl) ?_
  refine lv_iconst (v := 1) hx hb dX5_buy_6 (by decide) ?_
  refine lv_sipush (v := 500) hx hb dX5_buy_7 (by decide) ?_
  refine goI ([]) (wMod cA h mm 0 dy co ti ro n nb B G T BA GA TA mo) hP hD hS hA (rnS (rest := []) (m_isIn sa tb D cA cL l x 1 500 ) ([]) (wMod cA h mm 0 dy co ti ro n nb B G T BA GA TA mo) hP hD hS hA hE ⟨hx, hb, hml, hown, hts⟩ (va_cwS 3 hts gX5_buy_X5_isIn rfl rfl rfl (by decide +kernel) ⟨(Nat.le_of_ble_eq_true rfl), (Nat.le_of_ble_eq_true rfl)⟩) rfl hl.1 rfl (Nat.le_of_ble_eq_true rfl) dX5_buy_10 ⟨(Nat.le_of_ble_eq_true rfl), (Nat.le_of_ble_eq_true rfl)⟩) (fun _ => rfl) (fun r_10 u_10 H locs hw_10 hP hD hS => ?_)
  have hP : va_P D vwCl (wMod cA h mm 0 dy co ti ro n nb B G T BA GA TA mo) H := hP
  have hD : va_D A (wMod cA h mm 0 dy co ti ro n nb B G T BA GA TA mo) := hD
  obtain rfl : r_10 = bI (isInB x 1 500) := hw_10
  refine lv_if_ne (tgt := 22) hx hb dX5_buy_13 (by decide) (fun c_13 => False.elim (by exact c_13 (congrArg bI (isIn_no hb0)))) (fun c_13 => ?_)
  refine lv_aload_n hx hb dX5_buy_16 rfl (lv_at hl 0 rfl) ?_
  refine lv_iconst (v := 1) hx hb dX5_buy_17 (by decide) ?_
  refine goI ([]) ([(mm 0, I_ cA 64 (pkB B)), (mm 1, I_ cA 15 (pkG G)), (mm 2, I_ cA 3 T), (mm 3, I_ cA 64 (pkB BA)), (mm 4, I_ cA 15 (pkG GA)), (mm 5, I_ cA 3 TA), (mm 6, I_ cA 8 mo)]) hP hD hS hA (rnV (rest := []) (m_no sa tb D cA cL l h mm 0 dy co ti ro n nb 1 ) ([]) ([(mm 0, I_ cA 64 (pkB B)), (mm 1, I_ cA 15 (pkG G)), (mm 2, I_ cA 3 T), (mm 3, I_ cA 64 (pkB BA)), (mm 4, I_ cA 15 (pkG GA)), (mm 5, I_ cA 3 TA), (mm 6, I_ cA 8 mo)]) hP hD hS hA hE ⟨hx, hb, hml, hown, hts⟩ (cwV 1 hts gX5_buy_X5_no rfl rfl rfl (by decide +kernel) ⟨(Nat.le_of_ble_eq_true rfl), (Nat.le_of_ble_eq_true rfl)⟩) 5 0 rfl rfl rfl rfl hl.1 rfl (Nat.le_of_ble_eq_true rfl) dX5_buy_18 ⟨(Nat.le_of_ble_eq_true rfl), (Nat.le_of_ble_eq_true rfl)⟩) (fun _ => (show List.map Prod.fst _ = [h] from rfl).trans (show [h] = List.map Prod.fst _ from rfl)) (fun r_18 u_18 H locs hw_18 hP hD hS => ?_)
  have hP : va_P D vwCl (wMod cA h mm 1 dy co ti ro n nb B G T BA GA TA mo) H := hP
  have hD : va_D A (wMod cA h mm 1 dy co ti ro n nb B G T BA GA TA mo) := hD
  obtain rfl : r_18 = 0 := hw_18
  exact enI () hx hb hr hlocks hS hP (rfl) dX5_buy_21
set_option maxRecDepth 100000 in
set_option maxHeartbeats 4000000 in
theorem m_buy_2 (sa tb : Nat → Nat) (D : va_G) (cA cL : ClassId) (l : Launch) (h : Nat) (mm : Nat → Nat) (th : Int32) (dy : Int32) (co : Int32) (ti : Int32) (ro : Int32) (n : Nat) (nb : Nat) (B : Nat → Nat → Int32) (G : Nat → Nat → Int32) (T : Nat → Int32) (BA : Nat → Nat → Int32) (GA : Nat → Nat → Int32) (TA : Nat → Int32) (mo : Nat → Int32) (x : Int32) (q0 : ¬ x < 1) (q1 : x ≤ 500) (q2 : ¬ tenth x ≤ co) : KM sa tb D cA cL l yX5_buy wsX5_buy ({ frames := 1, cells := 0, slots := 0, locals := 22 }) [.ref h, .int x] (wMod cA h mm th dy co ti ro n nb B G T BA GA TA mo) (qI D (fun (r : Int32) (_ : Unit) => r = 0) (fun _ => wMod cA h mm 2 dy co ti ro n nb B G T BA GA TA mo)) := by
  refine KM.of (cc := cX5_buy) (maxL := 2) (ret := some .int) (by decide) rfl (Nat.le_of_ble_eq_true rfl) ?_
  intro pg e s m args below meth c A hx hb hr hml hlocks hts hown hS hA hE hP hD ls hl
  have hown : s.vm.findClass RX5 = some m.cls := hown
  have hl : lv_has ls 2 [(0, .ref h), (1, .int x)] := hl
  have hwX5 : ∀ w ∈ wsX50, w ∈ wsX5_buy := (fun _ h => List.mem_cons_of_mem _ (List.mem_append_right _ h))
  refine lv_aload_n hx hb dX5_buy_0 rfl (lv_at hl 0 rfl) ?_
  refine lv_iconst (v := 0) hx hb dX5_buy_1 (by decide) ?_
  refine va_put (D := D) (ci := 5) (v := .int 0) (ty := .int) (C := RX5) (T := TX5) (N := 14) hx hb hts hwX5 tyX5 tyX5_ok nmX5 hown hE.K hP hD hS 0 rfl rfl 0 (by decide) (hts (.fieldLink RX5 38 "SedgeBargesModel" "thrown" "I") (List.mem_of_getElem? (i := 1) rfl)) (fun _ h9 => h9) rfl (by decide +kernel) rfl rfl (Nat.le_of_ble_eq_true rfl) dX5_buy_2 (fun H locs hP hD hS => ?_)
  have hP : va_P D vwCl (wMod cA h mm 0 dy co ti ro n nb B G T BA GA TA mo) H := hP
  have hD : va_D A (wMod cA h mm 0 dy co ti ro n nb B G T BA GA TA mo) := hD
  refine lv_iload_n hx hb dX5_buy_5 rfl (lv_at hl 1 rfl) ?_
  refine lv_iconst (v := 1) hx hb dX5_buy_6 (by decide) ?_
  refine lv_sipush (v := 500) hx hb dX5_buy_7 (by decide) ?_
  refine goI ([]) (wMod cA h mm 0 dy co ti ro n nb B G T BA GA TA mo) hP hD hS hA (rnS (rest := []) (m_isIn sa tb D cA cL l x 1 500 ) ([]) (wMod cA h mm 0 dy co ti ro n nb B G T BA GA TA mo) hP hD hS hA hE ⟨hx, hb, hml, hown, hts⟩ (va_cwS 3 hts gX5_buy_X5_isIn rfl rfl rfl (by decide +kernel) ⟨(Nat.le_of_ble_eq_true rfl), (Nat.le_of_ble_eq_true rfl)⟩) rfl hl.1 rfl (Nat.le_of_ble_eq_true rfl) dX5_buy_10 ⟨(Nat.le_of_ble_eq_true rfl), (Nat.le_of_ble_eq_true rfl)⟩) (fun _ => rfl) (fun r_10 u_10 H locs hw_10 hP hD hS => ?_)
  have hP : va_P D vwCl (wMod cA h mm 0 dy co ti ro n nb B G T BA GA TA mo) H := hP
  have hD : va_D A (wMod cA h mm 0 dy co ti ro n nb B G T BA GA TA mo) := hD
  obtain rfl : r_10 = bI (isInB x 1 500) := hw_10
  refine lv_if_ne (tgt := 22) hx hb dX5_buy_13 (by decide) (fun c_13 => ?_) (fun c_13 => False.elim (by exact absurd ((bI0 c_13).symm.trans (isIn_yes q0 q1)) (by decide)))
  refine lv_aload_n hx hb dX5_buy_22 rfl (lv_at hl 0 rfl) ?_
  refine va_get (D := D) (ci := 5) (v := .int co) (C := RX5) (T := TX5) (N := 14) hx hb hts hwX5 hown hE.K hP 0 rfl rfl 2 (by decide) (hts (.fieldLink RX5 7 "SedgeBargesModel" "coins" "I") (List.mem_of_getElem? (i := 2) rfl)) (fun _ h9 => h9) rfl dX5_buy_23 ?_
  refine lv_iload_n hx hb dX5_buy_26 rfl (lv_at hl 1 rfl) ?_
  refine lv_bipush (v := 9) hx hb dX5_buy_27 (by decide) ?_
  refine lv_iadd hx hb dX5_buy_29 ?_
  refine lv_bipush (v := 10) hx hb dX5_buy_30 (by decide) ?_
  refine lv_idiv hx hb dX5_buy_32 (by decide) ?_
  refine lv_icmp_ge (tgt := 42) hx hb dX5_buy_33 (by decide) (fun c_33 => False.elim (by exact q2 c_33)) (fun c_33 => ?_)
  refine lv_aload_n hx hb dX5_buy_36 rfl (lv_at hl 0 rfl) ?_
  refine lv_iconst (v := 2) hx hb dX5_buy_37 (by decide) ?_
  refine goI ([]) ([(mm 0, I_ cA 64 (pkB B)), (mm 1, I_ cA 15 (pkG G)), (mm 2, I_ cA 3 T), (mm 3, I_ cA 64 (pkB BA)), (mm 4, I_ cA 15 (pkG GA)), (mm 5, I_ cA 3 TA), (mm 6, I_ cA 8 mo)]) hP hD hS hA (rnV (rest := []) (m_no sa tb D cA cL l h mm 0 dy co ti ro n nb 2 ) ([]) ([(mm 0, I_ cA 64 (pkB B)), (mm 1, I_ cA 15 (pkG G)), (mm 2, I_ cA 3 T), (mm 3, I_ cA 64 (pkB BA)), (mm 4, I_ cA 15 (pkG GA)), (mm 5, I_ cA 3 TA), (mm 6, I_ cA 8 mo)]) hP hD hS hA hE ⟨hx, hb, hml, hown, hts⟩ (cwV 1 hts gX5_buy_X5_no rfl rfl rfl (by decide +kernel) ⟨(Nat.le_of_ble_eq_true rfl), (Nat.le_of_ble_eq_true rfl)⟩) 5 0 rfl rfl rfl rfl hl.1 rfl (Nat.le_of_ble_eq_true rfl) dX5_buy_38 ⟨(Nat.le_of_ble_eq_true rfl), (Nat.le_of_ble_eq_true rfl)⟩) (fun _ => (show List.map Prod.fst _ = [h] from rfl).trans (show [h] = List.map Prod.fst _ from rfl)) (fun r_38 u_38 H locs hw_38 hP hD hS => ?_)
  have hP : va_P D vwCl (wMod cA h mm 2 dy co ti ro n nb B G T BA GA TA mo) H := hP
  have hD : va_D A (wMod cA h mm 2 dy co ti ro n nb B G T BA GA TA mo) := hD
  obtain rfl : r_38 = 0 := hw_38
  exact enI () hx hb hr hlocks hS hP (rfl) dX5_buy_41
set_option maxRecDepth 100000 in
set_option maxHeartbeats 4000000 in
theorem m_bedTold (sa tb : Nat → Nat) (D : va_G) (cA cL : ClassId) (l : Launch) (h : Nat) (mm : Nat → Nat) (th : Int32) (dy : Int32) (co : Int32) (ti : Int32) (ro : Int32) (n : Nat) (nb : Nat) (B : Nat → Nat → Int32) (G : Nat → Nat → Int32) (T : Nat → Int32) (BA : Nat → Nat → Int32) (GA : Nat → Nat → Int32) (TA : Nat → Int32) (mo : Nat → Int32) (k : Nat) (qw : Nat) (hk : k < 8) (hg : ∃ j, j < 10 ∧ B 2 k = nI j) (hw : qw < 10) : KM sa tb D cA cL l yX5_bedTold wsX5_bedTold ({ frames := 2, cells := 0, slots := 0, locals := 42 }) [.ref h, .int (nI k), .int (nI qw)] (wMod cA h mm th dy co ti ro n nb B G T BA GA TA mo) (qI D (fun (r : Int32) (_ : Unit) => r = tellB B k qw) (fun _ => wMod cA h mm th dy co ti ro n nb B G T BA GA TA mo)) := by
  refine KM.of (cc := cX5_bedTold) (maxL := 4) (ret := some .int) (by decide) rfl (Nat.le_of_ble_eq_true rfl) ?_
  intro pg e s m args below meth c A hx hb hr hml hlocks hts hown hS hA hE hP hD ls hl
  have hown : s.vm.findClass RX5 = some m.cls := hown
  have hl : lv_has ls 4 [(0, .ref h), (1, .int (nI k)), (2, .int (nI qw))] := hl
  have hwX5 : ∀ w ∈ wsX50, w ∈ wsX5_bedTold := (fun _ h => List.mem_cons_of_mem _ (List.mem_append_right _ h))
  have hw9 : qw = 0 ∨ qw = 1 ∨ qw = 2 ∨ qw = 3 ∨ qw = 4 ∨ qw = 5 ∨ qw = 6 ∨ qw = 7 ∨ qw = 8 ∨ qw = 9 := by omega
  rcases hw9 with rfl | rfl | rfl | rfl | rfl | rfl | rfl | rfl | rfl | rfl
  · have hl : lv_has ls 4 [(0, .ref h), (1, .int (nI k)), (2, .int 0)] := hl
    refine lv_bipush (v := 8) hx hb dX5_bedTold_0 (by decide) ?_
    refine lv_iload_n hx hb dX5_bedTold_2 rfl (lv_at hl 1 rfl) ?_
    refine rn_mul (a := 8) (b := k) hx hb dX5_bedTold_3 ?_
    refine lv_istore_n (lv' := [(3, .int (nI (8 * k))), (0, .ref h), (1, .int (nI k)), (2, .int 0)]) hx hb dX5_bedTold_4 rfl hl (by decide) rfl (fun ls hl => ?_)
    refine lv_iload_n hx hb dX5_bedTold_5 rfl (lv_at hl 3 rfl) ?_
    refine lv_iconst (v := 4) hx hb dX5_bedTold_6 (by decide) ?_
    refine lv_icmp_ge (tgt := 21) hx hb dX5_bedTold_7 (by decide) (fun q => absurd q (by decide)) (fun _ => ?_)
    refine lv_aload_n hx hb dX5_bedTold_10 rfl (lv_at hl 1 rfl) ?_
    refine va_get (D := D) (ci := 5) (v := .ref (mm 0)) (C := RX5) (T := TX5) (N := 14) hx hb hts hwX5 hown hE.K hP 0 rfl rfl 7 (by decide) (hts (.fieldLink RX5 16 "SedgeBargesModel" "b" "[I") (List.mem_of_getElem? (i := 1) rfl)) (fun _ h9 => h9) rfl dX5_bedTold_11 ?_
    refine lv_iload_n hx hb dX5_bedTold_14 rfl (lv_at hl 0 rfl) ?_
    refine lv_iload_n hx hb dX5_bedTold_15 rfl (lv_at hl 3 rfl) ?_
    refine rn_add (a := 8 * k) (b := 0) hx hb dX5_bedTold_16 ?_
    refine r_ald (f := pkB B) (v := B 0 k) hx hb hE hP 1 (8 * k + 0) rfl (congrArg nI (by omega)) (by omega) (by decide) (pkB_at 0 (k) (by decide)) dX5_bedTold_17 ?_
    refine lv_goto (tgt := 63) hx hb dX5_bedTold_18 (by decide) ?_
    exact enI () hx hb hr hlocks hS hP (rfl) dX5_bedTold_63
  · have hl : lv_has ls 4 [(0, .ref h), (1, .int (nI k)), (2, .int 1)] := hl
    refine lv_bipush (v := 8) hx hb dX5_bedTold_0 (by decide) ?_
    refine lv_iload_n hx hb dX5_bedTold_2 rfl (lv_at hl 1 rfl) ?_
    refine rn_mul (a := 8) (b := k) hx hb dX5_bedTold_3 ?_
    refine lv_istore_n (lv' := [(3, .int (nI (8 * k))), (0, .ref h), (1, .int (nI k)), (2, .int 1)]) hx hb dX5_bedTold_4 rfl hl (by decide) rfl (fun ls hl => ?_)
    refine lv_iload_n hx hb dX5_bedTold_5 rfl (lv_at hl 3 rfl) ?_
    refine lv_iconst (v := 4) hx hb dX5_bedTold_6 (by decide) ?_
    refine lv_icmp_ge (tgt := 21) hx hb dX5_bedTold_7 (by decide) (fun q => absurd q (by decide)) (fun _ => ?_)
    refine lv_aload_n hx hb dX5_bedTold_10 rfl (lv_at hl 1 rfl) ?_
    refine va_get (D := D) (ci := 5) (v := .ref (mm 0)) (C := RX5) (T := TX5) (N := 14) hx hb hts hwX5 hown hE.K hP 0 rfl rfl 7 (by decide) (hts (.fieldLink RX5 16 "SedgeBargesModel" "b" "[I") (List.mem_of_getElem? (i := 1) rfl)) (fun _ h9 => h9) rfl dX5_bedTold_11 ?_
    refine lv_iload_n hx hb dX5_bedTold_14 rfl (lv_at hl 0 rfl) ?_
    refine lv_iload_n hx hb dX5_bedTold_15 rfl (lv_at hl 3 rfl) ?_
    refine rn_add (a := 8 * k) (b := 1) hx hb dX5_bedTold_16 ?_
    refine r_ald (f := pkB B) (v := B 1 k) hx hb hE hP 1 (8 * k + 1) rfl (congrArg nI (by omega)) (by omega) (by decide) (pkB_at 1 (k) (by decide)) dX5_bedTold_17 ?_
    refine lv_goto (tgt := 63) hx hb dX5_bedTold_18 (by decide) ?_
    exact enI () hx hb hr hlocks hS hP (rfl) dX5_bedTold_63
  · have hl : lv_has ls 4 [(0, .ref h), (1, .int (nI k)), (2, .int 2)] := hl
    refine lv_bipush (v := 8) hx hb dX5_bedTold_0 (by decide) ?_
    refine lv_iload_n hx hb dX5_bedTold_2 rfl (lv_at hl 1 rfl) ?_
    refine rn_mul (a := 8) (b := k) hx hb dX5_bedTold_3 ?_
    refine lv_istore_n (lv' := [(3, .int (nI (8 * k))), (0, .ref h), (1, .int (nI k)), (2, .int 2)]) hx hb dX5_bedTold_4 rfl hl (by decide) rfl (fun ls hl => ?_)
    refine lv_iload_n hx hb dX5_bedTold_5 rfl (lv_at hl 3 rfl) ?_
    refine lv_iconst (v := 4) hx hb dX5_bedTold_6 (by decide) ?_
    refine lv_icmp_ge (tgt := 21) hx hb dX5_bedTold_7 (by decide) (fun q => absurd q (by decide)) (fun _ => ?_)
    refine lv_aload_n hx hb dX5_bedTold_10 rfl (lv_at hl 1 rfl) ?_
    refine va_get (D := D) (ci := 5) (v := .ref (mm 0)) (C := RX5) (T := TX5) (N := 14) hx hb hts hwX5 hown hE.K hP 0 rfl rfl 7 (by decide) (hts (.fieldLink RX5 16 "SedgeBargesModel" "b" "[I") (List.mem_of_getElem? (i := 1) rfl)) (fun _ h9 => h9) rfl dX5_bedTold_11 ?_
    refine lv_iload_n hx hb dX5_bedTold_14 rfl (lv_at hl 0 rfl) ?_
    refine lv_iload_n hx hb dX5_bedTold_15 rfl (lv_at hl 3 rfl) ?_
    refine rn_add (a := 8 * k) (b := 2) hx hb dX5_bedTold_16 ?_
    refine r_ald (f := pkB B) (v := B 2 k) hx hb hE hP 1 (8 * k + 2) rfl (congrArg nI (by omega)) (by omega) (by decide) (pkB_at 2 (k) (by decide)) dX5_bedTold_17 ?_
    refine lv_goto (tgt := 63) hx hb dX5_bedTold_18 (by decide) ?_
    exact enI () hx hb hr hlocks hS hP (rfl) dX5_bedTold_63
  · have hl : lv_has ls 4 [(0, .ref h), (1, .int (nI k)), (2, .int 3)] := hl
    refine lv_bipush (v := 8) hx hb dX5_bedTold_0 (by decide) ?_
    refine lv_iload_n hx hb dX5_bedTold_2 rfl (lv_at hl 1 rfl) ?_
    refine rn_mul (a := 8) (b := k) hx hb dX5_bedTold_3 ?_
    refine lv_istore_n (lv' := [(3, .int (nI (8 * k))), (0, .ref h), (1, .int (nI k)), (2, .int 3)]) hx hb dX5_bedTold_4 rfl hl (by decide) rfl (fun ls hl => ?_)
    refine lv_iload_n hx hb dX5_bedTold_5 rfl (lv_at hl 3 rfl) ?_
    refine lv_iconst (v := 4) hx hb dX5_bedTold_6 (by decide) ?_
    refine lv_icmp_ge (tgt := 21) hx hb dX5_bedTold_7 (by decide) (fun q => absurd q (by decide)) (fun _ => ?_)
    refine lv_aload_n hx hb dX5_bedTold_10 rfl (lv_at hl 1 rfl) ?_
    refine va_get (D := D) (ci := 5) (v := .ref (mm 0)) (C := RX5) (T := TX5) (N := 14) hx hb hts hwX5 hown hE.K hP 0 rfl rfl 7 (by decide) (hts (.fieldLink RX5 16 "SedgeBargesModel" "b" "[I") (List.mem_of_getElem? (i := 1) rfl)) (fun _ h9 => h9) rfl dX5_bedTold_11 ?_
    refine lv_iload_n hx hb dX5_bedTold_14 rfl (lv_at hl 0 rfl) ?_
    refine lv_iload_n hx hb dX5_bedTold_15 rfl (lv_at hl 3 rfl) ?_
    refine rn_add (a := 8 * k) (b := 3) hx hb dX5_bedTold_16 ?_
    refine r_ald (f := pkB B) (v := B 3 k) hx hb hE hP 1 (8 * k + 3) rfl (congrArg nI (by omega)) (by omega) (by decide) (pkB_at 3 (k) (by decide)) dX5_bedTold_17 ?_
    refine lv_goto (tgt := 63) hx hb dX5_bedTold_18 (by decide) ?_
    exact enI () hx hb hr hlocks hS hP (rfl) dX5_bedTold_63
  · have hl : lv_has ls 4 [(0, .ref h), (1, .int (nI k)), (2, .int 4)] := hl
    refine lv_bipush (v := 8) hx hb dX5_bedTold_0 (by decide) ?_
    refine lv_iload_n hx hb dX5_bedTold_2 rfl (lv_at hl 1 rfl) ?_
    refine rn_mul (a := 8) (b := k) hx hb dX5_bedTold_3 ?_
    refine lv_istore_n (lv' := [(3, .int (nI (8 * k))), (0, .ref h), (1, .int (nI k)), (2, .int 4)]) hx hb dX5_bedTold_4 rfl hl (by decide) rfl (fun ls hl => ?_)
    refine lv_iload_n hx hb dX5_bedTold_5 rfl (lv_at hl 3 rfl) ?_
    refine lv_iconst (v := 4) hx hb dX5_bedTold_6 (by decide) ?_
    refine lv_icmp_ge (tgt := 21) hx hb dX5_bedTold_7 (by decide) (fun _ => ?_) (fun q => absurd (by decide) q)
    refine lv_iload_n hx hb dX5_bedTold_21 rfl (lv_at hl 3 rfl) ?_
    refine lv_iconst (v := 4) hx hb dX5_bedTold_22 (by decide) ?_
    refine lv_icmp_ne (tgt := 37) hx hb dX5_bedTold_23 (by decide) (fun q => absurd q (by decide)) (fun _ => ?_)
    refine lv_aload_n hx hb dX5_bedTold_26 rfl (lv_at hl 1 rfl) ?_
    refine va_get (D := D) (ci := 5) (v := .ref (mm 0)) (C := RX5) (T := TX5) (N := 14) hx hb hts hwX5 hown hE.K hP 0 rfl rfl 7 (by decide) (hts (.fieldLink RX5 16 "SedgeBargesModel" "b" "[I") (List.mem_of_getElem? (i := 1) rfl)) (fun _ h9 => h9) rfl dX5_bedTold_27 ?_
    refine lv_iload_n hx hb dX5_bedTold_30 rfl (lv_at hl 0 rfl) ?_
    have hPq : va_P D vwCl ([] ++ (([(mm 0, I_ cA 64 (pkB B))]) ++ ([(h, .inr (5, [.int th, .int dy, .int co, .int ti, .int ro, .int (nI n), .int (nI nb), .ref (mm 0), .ref (mm 1), .ref (mm 2), .ref (mm 3), .ref (mm 4), .ref (mm 5), .ref (mm 6)])), (mm 1, I_ cA 15 (pkG G)), (mm 2, I_ cA 3 T), (mm 3, I_ cA 64 (pkB BA)), (mm 4, I_ cA 15 (pkG GA)), (mm 5, I_ cA 3 TA), (mm 6, I_ cA 8 mo)]))) _ := hP.sub [1, 0, 2, 3, 4, 5, 6, 7] rfl
    have hDq : va_D A ([] ++ (([(mm 0, I_ cA 64 (pkB B))]) ++ ([(h, .inr (5, [.int th, .int dy, .int co, .int ti, .int ro, .int (nI n), .int (nI nb), .ref (mm 0), .ref (mm 1), .ref (mm 2), .ref (mm 3), .ref (mm 4), .ref (mm 5), .ref (mm 6)])), (mm 1, I_ cA 15 (pkG G)), (mm 2, I_ cA 3 T), (mm 3, I_ cA 64 (pkB BA)), (mm 4, I_ cA 15 (pkG GA)), (mm 5, I_ cA 3 TA), (mm 6, I_ cA 8 mo)]))) := hD.sub [1, 0, 2, 3, 4, 5, 6, 7] (by decide) rfl
    refine goI ([]) ([(h, .inr (5, [.int th, .int dy, .int co, .int ti, .int ro, .int (nI n), .int (nI nb), .ref (mm 0), .ref (mm 1), .ref (mm 2), .ref (mm 3), .ref (mm 4), .ref (mm 5), .ref (mm 6)])), (mm 1, I_ cA 15 (pkG G)), (mm 2, I_ cA 3 T), (mm 3, I_ cA 64 (pkB BA)), (mm 4, I_ cA 15 (pkG GA)), (mm 5, I_ cA 3 TA), (mm 6, I_ cA 8 mo)]) hPq hDq hS hA (rnS (rest := []) (m_gives sa tb D cA cL l (mm 0) B k (show k < 8 from by first | omega | assumption | decide) (show ∃ j, j < 10 ∧ B 2 k = nI j from by first | omega | assumption | decide)) ([]) ([(h, .inr (5, [.int th, .int dy, .int co, .int ti, .int ro, .int (nI n), .int (nI nb), .ref (mm 0), .ref (mm 1), .ref (mm 2), .ref (mm 3), .ref (mm 4), .ref (mm 5), .ref (mm 6)])), (mm 1, I_ cA 15 (pkG G)), (mm 2, I_ cA 3 T), (mm 3, I_ cA 64 (pkB BA)), (mm 4, I_ cA 15 (pkG GA)), (mm 5, I_ cA 3 TA), (mm 6, I_ cA 8 mo)]) hPq hDq hS hA hE ⟨hx, hb, hml, hown, hts⟩ (va_cwS 2 hts gX5_bedTold_X5_gives rfl rfl rfl (by decide +kernel) ⟨(Nat.le_of_ble_eq_true rfl), (Nat.le_of_ble_eq_true rfl)⟩) rfl hl.1 rfl (Nat.le_of_ble_eq_true rfl) dX5_bedTold_31 ⟨(Nat.le_of_ble_eq_true rfl), (Nat.le_of_ble_eq_true rfl)⟩) (fun _ => rfl) (fun r_31 u_31 H locs hw_31 hP hD hS => ?_)
    have hP : va_P D vwCl (wMod cA h mm th dy co ti ro n nb B G T BA GA TA mo) H := hP.sub [1, 0, 2, 3, 4, 5, 6, 7] rfl
    have hD : va_D A (wMod cA h mm th dy co ti ro n nb B G T BA GA TA mo) := hD.sub [1, 0, 2, 3, 4, 5, 6, 7] (by decide) rfl
    obtain rfl : r_31 = given B k := hw_31
    refine lv_goto (tgt := 63) hx hb dX5_bedTold_34 (by decide) ?_
    exact enI () hx hb hr hlocks hS hP (rfl) dX5_bedTold_63
  · have hl : lv_has ls 4 [(0, .ref h), (1, .int (nI k)), (2, .int 5)] := hl
    refine lv_bipush (v := 8) hx hb dX5_bedTold_0 (by decide) ?_
    refine lv_iload_n hx hb dX5_bedTold_2 rfl (lv_at hl 1 rfl) ?_
    refine rn_mul (a := 8) (b := k) hx hb dX5_bedTold_3 ?_
    refine lv_istore_n (lv' := [(3, .int (nI (8 * k))), (0, .ref h), (1, .int (nI k)), (2, .int 5)]) hx hb dX5_bedTold_4 rfl hl (by decide) rfl (fun ls hl => ?_)
    refine lv_iload_n hx hb dX5_bedTold_5 rfl (lv_at hl 3 rfl) ?_
    refine lv_iconst (v := 4) hx hb dX5_bedTold_6 (by decide) ?_
    refine lv_icmp_ge (tgt := 21) hx hb dX5_bedTold_7 (by decide) (fun _ => ?_) (fun q => absurd (by decide) q)
    refine lv_iload_n hx hb dX5_bedTold_21 rfl (lv_at hl 3 rfl) ?_
    refine lv_iconst (v := 4) hx hb dX5_bedTold_22 (by decide) ?_
    refine lv_icmp_ne (tgt := 37) hx hb dX5_bedTold_23 (by decide) (fun _ => ?_) (fun q => absurd q (by decide))
    refine lv_iload_n hx hb dX5_bedTold_37 rfl (lv_at hl 3 rfl) ?_
    refine lv_iconst (v := 5) hx hb dX5_bedTold_38 (by decide) ?_
    refine lv_icmp_ne (tgt := 53) hx hb dX5_bedTold_39 (by decide) (fun q => absurd q (by decide)) (fun _ => ?_)
    refine lv_aload_n hx hb dX5_bedTold_42 rfl (lv_at hl 1 rfl) ?_
    refine va_get (D := D) (ci := 5) (v := .ref (mm 0)) (C := RX5) (T := TX5) (N := 14) hx hb hts hwX5 hown hE.K hP 0 rfl rfl 7 (by decide) (hts (.fieldLink RX5 16 "SedgeBargesModel" "b" "[I") (List.mem_of_getElem? (i := 1) rfl)) (fun _ h9 => h9) rfl dX5_bedTold_43 ?_
    refine lv_iload_n hx hb dX5_bedTold_46 rfl (lv_at hl 0 rfl) ?_
    have hPq : va_P D vwCl ([] ++ (([(mm 0, I_ cA 64 (pkB B))]) ++ ([(h, .inr (5, [.int th, .int dy, .int co, .int ti, .int ro, .int (nI n), .int (nI nb), .ref (mm 0), .ref (mm 1), .ref (mm 2), .ref (mm 3), .ref (mm 4), .ref (mm 5), .ref (mm 6)])), (mm 1, I_ cA 15 (pkG G)), (mm 2, I_ cA 3 T), (mm 3, I_ cA 64 (pkB BA)), (mm 4, I_ cA 15 (pkG GA)), (mm 5, I_ cA 3 TA), (mm 6, I_ cA 8 mo)]))) _ := hP.sub [1, 0, 2, 3, 4, 5, 6, 7] rfl
    have hDq : va_D A ([] ++ (([(mm 0, I_ cA 64 (pkB B))]) ++ ([(h, .inr (5, [.int th, .int dy, .int co, .int ti, .int ro, .int (nI n), .int (nI nb), .ref (mm 0), .ref (mm 1), .ref (mm 2), .ref (mm 3), .ref (mm 4), .ref (mm 5), .ref (mm 6)])), (mm 1, I_ cA 15 (pkG G)), (mm 2, I_ cA 3 T), (mm 3, I_ cA 64 (pkB BA)), (mm 4, I_ cA 15 (pkG GA)), (mm 5, I_ cA 3 TA), (mm 6, I_ cA 8 mo)]))) := hD.sub [1, 0, 2, 3, 4, 5, 6, 7] (by decide) rfl
    refine goI ([]) ([(h, .inr (5, [.int th, .int dy, .int co, .int ti, .int ro, .int (nI n), .int (nI nb), .ref (mm 0), .ref (mm 1), .ref (mm 2), .ref (mm 3), .ref (mm 4), .ref (mm 5), .ref (mm 6)])), (mm 1, I_ cA 15 (pkG G)), (mm 2, I_ cA 3 T), (mm 3, I_ cA 64 (pkB BA)), (mm 4, I_ cA 15 (pkG GA)), (mm 5, I_ cA 3 TA), (mm 6, I_ cA 8 mo)]) hPq hDq hS hA (rnS (rest := []) (m_givesSedge sa tb D cA cL l (mm 0) B k (show k < 8 from by first | omega | assumption | decide) (show ∃ j, j < 10 ∧ B 2 k = nI j from by first | omega | assumption | decide)) ([]) ([(h, .inr (5, [.int th, .int dy, .int co, .int ti, .int ro, .int (nI n), .int (nI nb), .ref (mm 0), .ref (mm 1), .ref (mm 2), .ref (mm 3), .ref (mm 4), .ref (mm 5), .ref (mm 6)])), (mm 1, I_ cA 15 (pkG G)), (mm 2, I_ cA 3 T), (mm 3, I_ cA 64 (pkB BA)), (mm 4, I_ cA 15 (pkG GA)), (mm 5, I_ cA 3 TA), (mm 6, I_ cA 8 mo)]) hPq hDq hS hA hE ⟨hx, hb, hml, hown, hts⟩ (va_cwS 2 hts gX5_bedTold_X5_givesSedge rfl rfl rfl (by decide +kernel) ⟨(Nat.le_of_ble_eq_true rfl), (Nat.le_of_ble_eq_true rfl)⟩) rfl hl.1 rfl (Nat.le_of_ble_eq_true rfl) dX5_bedTold_47 ⟨(Nat.le_of_ble_eq_true rfl), (Nat.le_of_ble_eq_true rfl)⟩) (fun _ => rfl) (fun r_47 u_47 H locs hw_47 hP hD hS => ?_)
    have hP : va_P D vwCl (wMod cA h mm th dy co ti ro n nb B G T BA GA TA mo) H := hP.sub [1, 0, 2, 3, 4, 5, 6, 7] rfl
    have hD : va_D A (wMod cA h mm th dy co ti ro n nb B G T BA GA TA mo) := hD.sub [1, 0, 2, 3, 4, 5, 6, 7] (by decide) rfl
    obtain rfl : r_47 = sgiv B k := hw_47
    refine lv_goto (tgt := 63) hx hb dX5_bedTold_50 (by decide) ?_
    exact enI () hx hb hr hlocks hS hP (rfl) dX5_bedTold_63
  · have hl : lv_has ls 4 [(0, .ref h), (1, .int (nI k)), (2, .int 6)] := hl
    refine lv_bipush (v := 8) hx hb dX5_bedTold_0 (by decide) ?_
    refine lv_iload_n hx hb dX5_bedTold_2 rfl (lv_at hl 1 rfl) ?_
    refine rn_mul (a := 8) (b := k) hx hb dX5_bedTold_3 ?_
    refine lv_istore_n (lv' := [(3, .int (nI (8 * k))), (0, .ref h), (1, .int (nI k)), (2, .int 6)]) hx hb dX5_bedTold_4 rfl hl (by decide) rfl (fun ls hl => ?_)
    refine lv_iload_n hx hb dX5_bedTold_5 rfl (lv_at hl 3 rfl) ?_
    refine lv_iconst (v := 4) hx hb dX5_bedTold_6 (by decide) ?_
    refine lv_icmp_ge (tgt := 21) hx hb dX5_bedTold_7 (by decide) (fun _ => ?_) (fun q => absurd (by decide) q)
    refine lv_iload_n hx hb dX5_bedTold_21 rfl (lv_at hl 3 rfl) ?_
    refine lv_iconst (v := 4) hx hb dX5_bedTold_22 (by decide) ?_
    refine lv_icmp_ne (tgt := 37) hx hb dX5_bedTold_23 (by decide) (fun _ => ?_) (fun q => absurd q (by decide))
    refine lv_iload_n hx hb dX5_bedTold_37 rfl (lv_at hl 3 rfl) ?_
    refine lv_iconst (v := 5) hx hb dX5_bedTold_38 (by decide) ?_
    refine lv_icmp_ne (tgt := 53) hx hb dX5_bedTold_39 (by decide) (fun _ => ?_) (fun q => absurd q (by decide))
    refine lv_aload_n hx hb dX5_bedTold_53 rfl (lv_at hl 1 rfl) ?_
    refine va_get (D := D) (ci := 5) (v := .ref (mm 0)) (C := RX5) (T := TX5) (N := 14) hx hb hts hwX5 hown hE.K hP 0 rfl rfl 7 (by decide) (hts (.fieldLink RX5 16 "SedgeBargesModel" "b" "[I") (List.mem_of_getElem? (i := 1) rfl)) (fun _ h9 => h9) rfl dX5_bedTold_54 ?_
    refine lv_iload_n hx hb dX5_bedTold_57 rfl (lv_at hl 0 rfl) ?_
    refine lv_iload_n hx hb dX5_bedTold_58 rfl (lv_at hl 3 rfl) ?_
    refine rn_add (a := 8 * k) (b := 6) hx hb dX5_bedTold_59 ?_
    refine lv_iconst (v := 2) hx hb dX5_bedTold_60 (by decide) ?_
    refine rn_sub (a := (8 * k) + 6) (b := 2) (c1 := (8 * k) + 4) (by omega) hx hb dX5_bedTold_61 ?_
    refine r_ald (f := pkB B) (v := B 4 k) hx hb hE hP 1 (8 * k + 4) rfl (congrArg nI (by omega)) (by omega) (by decide) (pkB_at 4 (k) (by decide)) dX5_bedTold_62 ?_
    exact enI () hx hb hr hlocks hS hP (rfl) dX5_bedTold_63
  · have hl : lv_has ls 4 [(0, .ref h), (1, .int (nI k)), (2, .int 7)] := hl
    refine lv_bipush (v := 8) hx hb dX5_bedTold_0 (by decide) ?_
    refine lv_iload_n hx hb dX5_bedTold_2 rfl (lv_at hl 1 rfl) ?_
    refine rn_mul (a := 8) (b := k) hx hb dX5_bedTold_3 ?_
    refine lv_istore_n (lv' := [(3, .int (nI (8 * k))), (0, .ref h), (1, .int (nI k)), (2, .int 7)]) hx hb dX5_bedTold_4 rfl hl (by decide) rfl (fun ls hl => ?_)
    refine lv_iload_n hx hb dX5_bedTold_5 rfl (lv_at hl 3 rfl) ?_
    refine lv_iconst (v := 4) hx hb dX5_bedTold_6 (by decide) ?_
    refine lv_icmp_ge (tgt := 21) hx hb dX5_bedTold_7 (by decide) (fun _ => ?_) (fun q => absurd (by decide) q)
    refine lv_iload_n hx hb dX5_bedTold_21 rfl (lv_at hl 3 rfl) ?_
    refine lv_iconst (v := 4) hx hb dX5_bedTold_22 (by decide) ?_
    refine lv_icmp_ne (tgt := 37) hx hb dX5_bedTold_23 (by decide) (fun _ => ?_) (fun q => absurd q (by decide))
    refine lv_iload_n hx hb dX5_bedTold_37 rfl (lv_at hl 3 rfl) ?_
    refine lv_iconst (v := 5) hx hb dX5_bedTold_38 (by decide) ?_
    refine lv_icmp_ne (tgt := 53) hx hb dX5_bedTold_39 (by decide) (fun _ => ?_) (fun q => absurd q (by decide))
    refine lv_aload_n hx hb dX5_bedTold_53 rfl (lv_at hl 1 rfl) ?_
    refine va_get (D := D) (ci := 5) (v := .ref (mm 0)) (C := RX5) (T := TX5) (N := 14) hx hb hts hwX5 hown hE.K hP 0 rfl rfl 7 (by decide) (hts (.fieldLink RX5 16 "SedgeBargesModel" "b" "[I") (List.mem_of_getElem? (i := 1) rfl)) (fun _ h9 => h9) rfl dX5_bedTold_54 ?_
    refine lv_iload_n hx hb dX5_bedTold_57 rfl (lv_at hl 0 rfl) ?_
    refine lv_iload_n hx hb dX5_bedTold_58 rfl (lv_at hl 3 rfl) ?_
    refine rn_add (a := 8 * k) (b := 7) hx hb dX5_bedTold_59 ?_
    refine lv_iconst (v := 2) hx hb dX5_bedTold_60 (by decide) ?_
    refine rn_sub (a := (8 * k) + 7) (b := 2) (c1 := (8 * k) + 5) (by omega) hx hb dX5_bedTold_61 ?_
    refine r_ald (f := pkB B) (v := B 5 k) hx hb hE hP 1 (8 * k + 5) rfl (congrArg nI (by omega)) (by omega) (by decide) (pkB_at 5 (k) (by decide)) dX5_bedTold_62 ?_
    exact enI () hx hb hr hlocks hS hP (rfl) dX5_bedTold_63
  · have hl : lv_has ls 4 [(0, .ref h), (1, .int (nI k)), (2, .int 8)] := hl
    refine lv_bipush (v := 8) hx hb dX5_bedTold_0 (by decide) ?_
    refine lv_iload_n hx hb dX5_bedTold_2 rfl (lv_at hl 1 rfl) ?_
    refine rn_mul (a := 8) (b := k) hx hb dX5_bedTold_3 ?_
    refine lv_istore_n (lv' := [(3, .int (nI (8 * k))), (0, .ref h), (1, .int (nI k)), (2, .int 8)]) hx hb dX5_bedTold_4 rfl hl (by decide) rfl (fun ls hl => ?_)
    refine lv_iload_n hx hb dX5_bedTold_5 rfl (lv_at hl 3 rfl) ?_
    refine lv_iconst (v := 4) hx hb dX5_bedTold_6 (by decide) ?_
    refine lv_icmp_ge (tgt := 21) hx hb dX5_bedTold_7 (by decide) (fun _ => ?_) (fun q => absurd (by decide) q)
    refine lv_iload_n hx hb dX5_bedTold_21 rfl (lv_at hl 3 rfl) ?_
    refine lv_iconst (v := 4) hx hb dX5_bedTold_22 (by decide) ?_
    refine lv_icmp_ne (tgt := 37) hx hb dX5_bedTold_23 (by decide) (fun _ => ?_) (fun q => absurd q (by decide))
    refine lv_iload_n hx hb dX5_bedTold_37 rfl (lv_at hl 3 rfl) ?_
    refine lv_iconst (v := 5) hx hb dX5_bedTold_38 (by decide) ?_
    refine lv_icmp_ne (tgt := 53) hx hb dX5_bedTold_39 (by decide) (fun _ => ?_) (fun q => absurd q (by decide))
    refine lv_aload_n hx hb dX5_bedTold_53 rfl (lv_at hl 1 rfl) ?_
    refine va_get (D := D) (ci := 5) (v := .ref (mm 0)) (C := RX5) (T := TX5) (N := 14) hx hb hts hwX5 hown hE.K hP 0 rfl rfl 7 (by decide) (hts (.fieldLink RX5 16 "SedgeBargesModel" "b" "[I") (List.mem_of_getElem? (i := 1) rfl)) (fun _ h9 => h9) rfl dX5_bedTold_54 ?_
    refine lv_iload_n hx hb dX5_bedTold_57 rfl (lv_at hl 0 rfl) ?_
    refine lv_iload_n hx hb dX5_bedTold_58 rfl (lv_at hl 3 rfl) ?_
    refine rn_add (a := 8 * k) (b := 8) hx hb dX5_bedTold_59 ?_
    refine lv_iconst (v := 2) hx hb dX5_bedTold_60 (by decide) ?_
    refine rn_sub (a := (8 * k) + 8) (b := 2) (c1 := (8 * k) + 6) (by omega) hx hb dX5_bedTold_61 ?_
    refine r_ald (f := pkB B) (v := B 6 k) hx hb hE hP 1 (8 * k + 6) rfl (congrArg nI (by omega)) (by omega) (by decide) (pkB_at 6 (k) (by decide)) dX5_bedTold_62 ?_
    exact enI () hx hb hr hlocks hS hP (rfl) dX5_bedTold_63
  · have hl : lv_has ls 4 [(0, .ref h), (1, .int (nI k)), (2, .int 9)] := hl
    refine lv_bipush (v := 8) hx hb dX5_bedTold_0 (by decide) ?_
    refine lv_iload_n hx hb dX5_bedTold_2 rfl (lv_at hl 1 rfl) ?_
    refine rn_mul (a := 8) (b := k) hx hb dX5_bedTold_3 ?_
    refine lv_istore_n (lv' := [(3, .int (nI (8 * k))), (0, .ref h), (1, .int (nI k)), (2, .int 9)]) hx hb dX5_bedTold_4 rfl hl (by decide) rfl (fun ls hl => ?_)
    refine lv_iload_n hx hb dX5_bedTold_5 rfl (lv_at hl 3 rfl) ?_
    refine lv_iconst (v := 4) hx hb dX5_bedTold_6 (by decide) ?_
    refine lv_icmp_ge (tgt := 21) hx hb dX5_bedTold_7 (by decide) (fun _ => ?_) (fun q => absurd (by decide) q)
    refine lv_iload_n hx hb dX5_bedTold_21 rfl (lv_at hl 3 rfl) ?_
    refine lv_iconst (v := 4) hx hb dX5_bedTold_22 (by decide) ?_
    refine lv_icmp_ne (tgt := 37) hx hb dX5_bedTold_23 (by decide) (fun _ => ?_) (fun q => absurd q (by decide))
    refine lv_iload_n hx hb dX5_bedTold_37 rfl (lv_at hl 3 rfl) ?_
    refine lv_iconst (v := 5) hx hb dX5_bedTold_38 (by decide) ?_
    refine lv_icmp_ne (tgt := 53) hx hb dX5_bedTold_39 (by decide) (fun _ => ?_) (fun q => absurd q (by decide))
    refine lv_aload_n hx hb dX5_bedTold_53 rfl (lv_at hl 1 rfl) ?_
    refine va_get (D := D) (ci := 5) (v := .ref (mm 0)) (C := RX5) (T := TX5) (N := 14) hx hb hts hwX5 hown hE.K hP 0 rfl rfl 7 (by decide) (hts (.fieldLink RX5 16 "SedgeBargesModel" "b" "[I") (List.mem_of_getElem? (i := 1) rfl)) (fun _ h9 => h9) rfl dX5_bedTold_54 ?_
    refine lv_iload_n hx hb dX5_bedTold_57 rfl (lv_at hl 0 rfl) ?_
    refine lv_iload_n hx hb dX5_bedTold_58 rfl (lv_at hl 3 rfl) ?_
    refine rn_add (a := 8 * k) (b := 9) hx hb dX5_bedTold_59 ?_
    refine lv_iconst (v := 2) hx hb dX5_bedTold_60 (by decide) ?_
    refine rn_sub (a := (8 * k) + 9) (b := 2) (c1 := (8 * k) + 7) (by omega) hx hb dX5_bedTold_61 ?_
    refine r_ald (f := pkB B) (v := B 7 k) hx hb hE hP 1 (8 * k + 7) rfl (congrArg nI (by omega)) (by omega) (by decide) (pkB_at 7 (k) (by decide)) dX5_bedTold_62 ?_
    exact enI () hx hb hr hlocks hS hP (rfl) dX5_bedTold_63
set_option maxRecDepth 100000 in
set_option maxHeartbeats 4000000 in
theorem m_about (sa tb : Nat → Nat) (D : va_G) (cA cL : ClassId) (l : Launch) (h : Nat) (mm : Nat → Nat) (th : Int32) (dy : Int32) (co : Int32) (ti : Int32) (ro : Int32) (n : Nat) (nb : Nat) (B : Nat → Nat → Int32) (G : Nat → Nat → Int32) (T : Nat → Int32) (BA : Nat → Nat → Int32) (GA : Nat → Nat → Int32) (TA : Nat → Int32) (mo : Nat → Int32) (k : Nat) (qw : Nat) (hk : k < n) (hn : n ≤ 8) (hI : Inv n nb B G) (hw : qw < 10) : KM sa tb D cA cL l yX5_about wsX5_about ({ frames := 3, cells := 0, slots := 0, locals := 65 }) [.ref h, .int (nI k), .int (nI qw)] (wMod cA h mm th dy co ti ro n nb B G T BA GA TA mo) (qI D (fun (r : Int32) (_ : Unit) => r = tellB B k qw) (fun _ => wMod cA h mm 0 dy co ti ro n nb B G T BA GA TA mo)) := by
  refine KM.of (cc := cX5_about) (maxL := 3) (ret := some .int) (by decide) rfl (Nat.le_of_ble_eq_true rfl) ?_
  intro pg e s m args below meth c A hx hb hr hml hlocks hts hown hS hA hE hP hD ls hl
  have hown : s.vm.findClass RX5 = some m.cls := hown
  have hl : lv_has ls 3 [(0, .ref h), (1, .int (nI k)), (2, .int (nI qw))] := hl
  have hwX5 : ∀ w ∈ wsX50, w ∈ wsX5_about := (fun _ h => List.mem_cons_of_mem _ (List.mem_append_right _ h))
  refine lv_aload_n hx hb dX5_about_0 rfl (lv_at hl 0 rfl) ?_
  refine lv_iconst (v := 0) hx hb dX5_about_1 (by decide) ?_
  refine va_put (D := D) (ci := 5) (v := .int 0) (ty := .int) (C := RX5) (T := TX5) (N := 14) hx hb hts hwX5 tyX5 tyX5_ok nmX5 hown hE.K hP hD hS 0 rfl rfl 0 (by decide) (hts (.fieldLink RX5 38 "SedgeBargesModel" "thrown" "I") (List.mem_of_getElem? (i := 1) rfl)) (fun _ h9 => h9) rfl (by decide +kernel) rfl rfl (Nat.le_of_ble_eq_true rfl) dX5_about_2 (fun H locs hP hD hS => ?_)
  have hP : va_P D vwCl (wMod cA h mm 0 dy co ti ro n nb B G T BA GA TA mo) H := hP
  have hD : va_D A (wMod cA h mm 0 dy co ti ro n nb B G T BA GA TA mo) := hD
  refine lv_aload_n hx hb dX5_about_5 rfl (lv_at hl 0 rfl) ?_
  refine lv_iload_n hx hb dX5_about_6 rfl (lv_at hl 1 rfl) ?_
  refine goI ([]) ([(mm 0, I_ cA 64 (pkB B)), (mm 1, I_ cA 15 (pkG G)), (mm 2, I_ cA 3 T), (mm 3, I_ cA 64 (pkB BA)), (mm 4, I_ cA 15 (pkG GA)), (mm 5, I_ cA 3 TA), (mm 6, I_ cA 8 mo)]) hP hD hS hA (rnV (rest := []) (m_isBed sa tb D cA cL l h mm 0 dy co ti ro n nb (nI k) ) ([]) ([(mm 0, I_ cA 64 (pkB B)), (mm 1, I_ cA 15 (pkG G)), (mm 2, I_ cA 3 T), (mm 3, I_ cA 64 (pkB BA)), (mm 4, I_ cA 15 (pkG GA)), (mm 5, I_ cA 3 TA), (mm 6, I_ cA 8 mo)]) hP hD hS hA hE ⟨hx, hb, hml, hown, hts⟩ (cwV 1 hts gX5_about_X5_isBed rfl rfl rfl (by decide +kernel) ⟨(Nat.le_of_ble_eq_true rfl), (Nat.le_of_ble_eq_true rfl)⟩) 5 0 rfl rfl rfl rfl hl.1 rfl (Nat.le_of_ble_eq_true rfl) dX5_about_7 ⟨(Nat.le_of_ble_eq_true rfl), (Nat.le_of_ble_eq_true rfl)⟩) (fun _ => rfl) (fun r_7 u_7 H locs hw_7 hP hD hS => ?_)
  have hP : va_P D vwCl (wMod cA h mm 0 dy co ti ro n nb B G T BA GA TA mo) H := hP
  have hD : va_D A (wMod cA h mm 0 dy co ti ro n nb B G T BA GA TA mo) := hD
  obtain rfl : r_7 = bI (isInB (nI k) 0 (nI n - 1)) := hw_7
  refine lv_if_eq (tgt := 32) hx hb dX5_about_10 (by decide) (fun c_10 => False.elim (by exact absurd ((bI0 c_10).symm.trans (isBed_yes hk (by omega))) (by decide))) (fun c_10 => ?_)
  refine lv_iload_n hx hb dX5_about_13 rfl (lv_at hl 2 rfl) ?_
  refine lv_iconst (v := 0) hx hb dX5_about_14 (by decide) ?_
  refine lv_bipush (v := 9) hx hb dX5_about_15 (by decide) ?_
  refine goI ([]) (wMod cA h mm 0 dy co ti ro n nb B G T BA GA TA mo) hP hD hS hA (rnS (rest := []) (m_isIn sa tb D cA cL l (nI qw) 0 9 ) ([]) (wMod cA h mm 0 dy co ti ro n nb B G T BA GA TA mo) hP hD hS hA hE ⟨hx, hb, hml, hown, hts⟩ (va_cwS 3 hts gX5_about_X5_isIn rfl rfl rfl (by decide +kernel) ⟨(Nat.le_of_ble_eq_true rfl), (Nat.le_of_ble_eq_true rfl)⟩) rfl hl.1 rfl (Nat.le_of_ble_eq_true rfl) dX5_about_17 ⟨(Nat.le_of_ble_eq_true rfl), (Nat.le_of_ble_eq_true rfl)⟩) (fun _ => rfl) (fun r_17 u_17 H locs hw_17 hP hD hS => ?_)
  have hP : va_P D vwCl (wMod cA h mm 0 dy co ti ro n nb B G T BA GA TA mo) H := hP
  have hD : va_D A (wMod cA h mm 0 dy co ti ro n nb B G T BA GA TA mo) := hD
  obtain rfl : r_17 = bI (isInB (nI qw) 0 9) := hw_17
  refine lv_if_eq (tgt := 32) hx hb dX5_about_20 (by decide) (fun c_20 => False.elim (by exact absurd ((bI0 c_20).symm.trans (isIn_N (q := qw) (m := 9) (by omega) (by decide))) (by decide))) (fun c_20 => ?_)
  refine lv_aload_n hx hb dX5_about_23 rfl (lv_at hl 0 rfl) ?_
  refine lv_iload_n hx hb dX5_about_24 rfl (lv_at hl 1 rfl) ?_
  refine lv_iload_n hx hb dX5_about_25 rfl (lv_at hl 2 rfl) ?_
  refine goI ([]) ([]) hP hD hS hA (rnV (rest := []) (m_bedTold sa tb D cA cL l h mm 0 dy co ti ro n nb B G T BA GA TA mo k qw (show k < 8 from by first | omega | assumption | decide) (show ∃ j, j < 10 ∧ B 2 k = nI j from (hI.1 k hk).2.1) (show qw < 10 from by first | omega | assumption | decide)) ([]) ([]) hP hD hS hA hE ⟨hx, hb, hml, hown, hts⟩ (cwV 2 hts gX5_about_X5_bedTold rfl rfl rfl (by decide +kernel) ⟨(Nat.le_of_ble_eq_true rfl), (Nat.le_of_ble_eq_true rfl)⟩) 5 0 rfl rfl rfl rfl hl.1 rfl (Nat.le_of_ble_eq_true rfl) dX5_about_26 ⟨(Nat.le_of_ble_eq_true rfl), (Nat.le_of_ble_eq_true rfl)⟩) (fun _ => rfl) (fun r_26 u_26 H locs hw_26 hP hD hS => ?_)
  have hP : va_P D vwCl (wMod cA h mm 0 dy co ti ro n nb B G T BA GA TA mo) H := hP
  have hD : va_D A (wMod cA h mm 0 dy co ti ro n nb B G T BA GA TA mo) := hD
  obtain rfl : r_26 = tellB B k qw := hw_26
  refine lv_goto (tgt := 37) hx hb dX5_about_29 (by decide) ?_
  exact enI () hx hb hr hlocks hS hP (rfl) dX5_about_37
set_option maxRecDepth 100000 in
set_option maxHeartbeats 4000000 in
theorem m_about_1 (sa tb : Nat → Nat) (D : va_G) (cA cL : ClassId) (l : Launch) (h : Nat) (mm : Nat → Nat) (th : Int32) (dy : Int32) (co : Int32) (ti : Int32) (ro : Int32) (n : Nat) (nb : Nat) (B : Nat → Nat → Int32) (G : Nat → Nat → Int32) (T : Nat → Int32) (BA : Nat → Nat → Int32) (GA : Nat → Nat → Int32) (TA : Nat → Int32) (mo : Nat → Int32) (x : Int32) (y : Int32) (hb0 : x < 0 ∨ ¬ x < nI n) (hn : n ≤ 8) : KM sa tb D cA cL l yX5_about wsX5_about ({ frames := 2, cells := 0, slots := 0, locals := 43 }) [.ref h, .int x, .int y] (wMod cA h mm th dy co ti ro n nb B G T BA GA TA mo) (qI D (fun (r : Int32) (_ : Unit) => r = 0) (fun _ => wMod cA h mm 1 dy co ti ro n nb B G T BA GA TA mo)) := by
  refine KM.of (cc := cX5_about) (maxL := 3) (ret := some .int) (by decide) rfl (Nat.le_of_ble_eq_true rfl) ?_
  intro pg e s m args below meth c A hx hb hr hml hlocks hts hown hS hA hE hP hD ls hl
  have hown : s.vm.findClass RX5 = some m.cls := hown
  have hl : lv_has ls 3 [(0, .ref h), (1, .int x), (2, .int y)] := hl
  have hwX5 : ∀ w ∈ wsX50, w ∈ wsX5_about := (fun _ h => List.mem_cons_of_mem _ (List.mem_append_right _ h))
  refine lv_aload_n hx hb dX5_about_0 rfl (lv_at hl 0 rfl) ?_
  refine lv_iconst (v := 0) hx hb dX5_about_1 (by decide) ?_
  refine va_put (D := D) (ci := 5) (v := .int 0) (ty := .int) (C := RX5) (T := TX5) (N := 14) hx hb hts hwX5 tyX5 tyX5_ok nmX5 hown hE.K hP hD hS 0 rfl rfl 0 (by decide) (hts (.fieldLink RX5 38 "SedgeBargesModel" "thrown" "I") (List.mem_of_getElem? (i := 1) rfl)) (fun _ h9 => h9) rfl (by decide +kernel) rfl rfl (Nat.le_of_ble_eq_true rfl) dX5_about_2 (fun H locs hP hD hS => ?_)
  have hP : va_P D vwCl (wMod cA h mm 0 dy co ti ro n nb B G T BA GA TA mo) H := hP
  have hD : va_D A (wMod cA h mm 0 dy co ti ro n nb B G T BA GA TA mo) := hD
  refine lv_aload_n hx hb dX5_about_5 rfl (lv_at hl 0 rfl) ?_
  refine lv_iload_n hx hb dX5_about_6 rfl (lv_at hl 1 rfl) ?_
  refine goI ([]) ([(mm 0, I_ cA 64 (pkB B)), (mm 1, I_ cA 15 (pkG G)), (mm 2, I_ cA 3 T), (mm 3, I_ cA 64 (pkB BA)), (mm 4, I_ cA 15 (pkG GA)), (mm 5, I_ cA 3 TA), (mm 6, I_ cA 8 mo)]) hP hD hS hA (rnV (rest := []) (m_isBed sa tb D cA cL l h mm 0 dy co ti ro n nb x ) ([]) ([(mm 0, I_ cA 64 (pkB B)), (mm 1, I_ cA 15 (pkG G)), (mm 2, I_ cA 3 T), (mm 3, I_ cA 64 (pkB BA)), (mm 4, I_ cA 15 (pkG GA)), (mm 5, I_ cA 3 TA), (mm 6, I_ cA 8 mo)]) hP hD hS hA hE ⟨hx, hb, hml, hown, hts⟩ (cwV 1 hts gX5_about_X5_isBed rfl rfl rfl (by decide +kernel) ⟨(Nat.le_of_ble_eq_true rfl), (Nat.le_of_ble_eq_true rfl)⟩) 5 0 rfl rfl rfl rfl hl.1 rfl (Nat.le_of_ble_eq_true rfl) dX5_about_7 ⟨(Nat.le_of_ble_eq_true rfl), (Nat.le_of_ble_eq_true rfl)⟩) (fun _ => rfl) (fun r_7 u_7 H locs hw_7 hP hD hS => ?_)
  have hP : va_P D vwCl (wMod cA h mm 0 dy co ti ro n nb B G T BA GA TA mo) H := hP
  have hD : va_D A (wMod cA h mm 0 dy co ti ro n nb B G T BA GA TA mo) := hD
  obtain rfl : r_7 = bI (isInB x 0 (nI n - 1)) := hw_7
  refine lv_if_eq (tgt := 32) hx hb dX5_about_10 (by decide) (fun c_10 => ?_) (fun c_10 => False.elim (by exact c_10 (congrArg bI (isBed_no hb0 (by omega)))))
  refine lv_aload_n hx hb dX5_about_32 rfl (lv_at hl 0 rfl) ?_
  refine lv_iconst (v := 1) hx hb dX5_about_33 (by decide) ?_
  refine goI ([]) ([(mm 0, I_ cA 64 (pkB B)), (mm 1, I_ cA 15 (pkG G)), (mm 2, I_ cA 3 T), (mm 3, I_ cA 64 (pkB BA)), (mm 4, I_ cA 15 (pkG GA)), (mm 5, I_ cA 3 TA), (mm 6, I_ cA 8 mo)]) hP hD hS hA (rnV (rest := []) (m_no sa tb D cA cL l h mm 0 dy co ti ro n nb 1 ) ([]) ([(mm 0, I_ cA 64 (pkB B)), (mm 1, I_ cA 15 (pkG G)), (mm 2, I_ cA 3 T), (mm 3, I_ cA 64 (pkB BA)), (mm 4, I_ cA 15 (pkG GA)), (mm 5, I_ cA 3 TA), (mm 6, I_ cA 8 mo)]) hP hD hS hA hE ⟨hx, hb, hml, hown, hts⟩ (cwV 1 hts gX5_about_X5_no rfl rfl rfl (by decide +kernel) ⟨(Nat.le_of_ble_eq_true rfl), (Nat.le_of_ble_eq_true rfl)⟩) 5 0 rfl rfl rfl rfl hl.1 rfl (Nat.le_of_ble_eq_true rfl) dX5_about_34 ⟨(Nat.le_of_ble_eq_true rfl), (Nat.le_of_ble_eq_true rfl)⟩) (fun _ => (show List.map Prod.fst _ = [h] from rfl).trans (show [h] = List.map Prod.fst _ from rfl)) (fun r_34 u_34 H locs hw_34 hP hD hS => ?_)
  have hP : va_P D vwCl (wMod cA h mm 1 dy co ti ro n nb B G T BA GA TA mo) H := hP
  have hD : va_D A (wMod cA h mm 1 dy co ti ro n nb B G T BA GA TA mo) := hD
  obtain rfl : r_34 = 0 := hw_34
  exact enI () hx hb hr hlocks hS hP (rfl) dX5_about_37
set_option maxRecDepth 100000 in
set_option maxHeartbeats 4000000 in
theorem m_about_2 (sa tb : Nat → Nat) (D : va_G) (cA cL : ClassId) (l : Launch) (h : Nat) (mm : Nat → Nat) (th : Int32) (dy : Int32) (co : Int32) (ti : Int32) (ro : Int32) (n : Nat) (nb : Nat) (B : Nat → Nat → Int32) (G : Nat → Nat → Int32) (T : Nat → Int32) (BA : Nat → Nat → Int32) (GA : Nat → Nat → Int32) (TA : Nat → Int32) (mo : Nat → Int32) (k : Nat) (y : Int32) (hk : k < n) (hn : n ≤ 8) (hb1 : y < 0 ∨ ¬ y < 10) : KM sa tb D cA cL l yX5_about wsX5_about ({ frames := 2, cells := 0, slots := 0, locals := 43 }) [.ref h, .int (nI k), .int y] (wMod cA h mm th dy co ti ro n nb B G T BA GA TA mo) (qI D (fun (r : Int32) (_ : Unit) => r = 0) (fun _ => wMod cA h mm 1 dy co ti ro n nb B G T BA GA TA mo)) := by
  refine KM.of (cc := cX5_about) (maxL := 3) (ret := some .int) (by decide) rfl (Nat.le_of_ble_eq_true rfl) ?_
  intro pg e s m args below meth c A hx hb hr hml hlocks hts hown hS hA hE hP hD ls hl
  have hown : s.vm.findClass RX5 = some m.cls := hown
  have hl : lv_has ls 3 [(0, .ref h), (1, .int (nI k)), (2, .int y)] := hl
  have hwX5 : ∀ w ∈ wsX50, w ∈ wsX5_about := (fun _ h => List.mem_cons_of_mem _ (List.mem_append_right _ h))
  refine lv_aload_n hx hb dX5_about_0 rfl (lv_at hl 0 rfl) ?_
  refine lv_iconst (v := 0) hx hb dX5_about_1 (by decide) ?_
  refine va_put (D := D) (ci := 5) (v := .int 0) (ty := .int) (C := RX5) (T := TX5) (N := 14) hx hb hts hwX5 tyX5 tyX5_ok nmX5 hown hE.K hP hD hS 0 rfl rfl 0 (by decide) (hts (.fieldLink RX5 38 "SedgeBargesModel" "thrown" "I") (List.mem_of_getElem? (i := 1) rfl)) (fun _ h9 => h9) rfl (by decide +kernel) rfl rfl (Nat.le_of_ble_eq_true rfl) dX5_about_2 (fun H locs hP hD hS => ?_)
  have hP : va_P D vwCl (wMod cA h mm 0 dy co ti ro n nb B G T BA GA TA mo) H := hP
  have hD : va_D A (wMod cA h mm 0 dy co ti ro n nb B G T BA GA TA mo) := hD
  refine lv_aload_n hx hb dX5_about_5 rfl (lv_at hl 0 rfl) ?_
  refine lv_iload_n hx hb dX5_about_6 rfl (lv_at hl 1 rfl) ?_
  refine goI ([]) ([(mm 0, I_ cA 64 (pkB B)), (mm 1, I_ cA 15 (pkG G)), (mm 2, I_ cA 3 T), (mm 3, I_ cA 64 (pkB BA)), (mm 4, I_ cA 15 (pkG GA)), (mm 5, I_ cA 3 TA), (mm 6, I_ cA 8 mo)]) hP hD hS hA (rnV (rest := []) (m_isBed sa tb D cA cL l h mm 0 dy co ti ro n nb (nI k) ) ([]) ([(mm 0, I_ cA 64 (pkB B)), (mm 1, I_ cA 15 (pkG G)), (mm 2, I_ cA 3 T), (mm 3, I_ cA 64 (pkB BA)), (mm 4, I_ cA 15 (pkG GA)), (mm 5, I_ cA 3 TA), (mm 6, I_ cA 8 mo)]) hP hD hS hA hE ⟨hx, hb, hml, hown, hts⟩ (cwV 1 hts gX5_about_X5_isBed rfl rfl rfl (by decide +kernel) ⟨(Nat.le_of_ble_eq_true rfl), (Nat.le_of_ble_eq_true rfl)⟩) 5 0 rfl rfl rfl rfl hl.1 rfl (Nat.le_of_ble_eq_true rfl) dX5_about_7 ⟨(Nat.le_of_ble_eq_true rfl), (Nat.le_of_ble_eq_true rfl)⟩) (fun _ => rfl) (fun r_7 u_7 H locs hw_7 hP hD hS => ?_)
  have hP : va_P D vwCl (wMod cA h mm 0 dy co ti ro n nb B G T BA GA TA mo) H := hP
  have hD : va_D A (wMod cA h mm 0 dy co ti ro n nb B G T BA GA TA mo) := hD
  obtain rfl : r_7 = bI (isInB (nI k) 0 (nI n - 1)) := hw_7
  refine lv_if_eq (tgt := 32) hx hb dX5_about_10 (by decide) (fun c_10 => False.elim (by exact absurd ((bI0 c_10).symm.trans (isBed_yes hk (by omega))) (by decide))) (fun c_10 => ?_)
  refine lv_iload_n hx hb dX5_about_13 rfl (lv_at hl 2 rfl) ?_
  refine lv_iconst (v := 0) hx hb dX5_about_14 (by decide) ?_
  refine lv_bipush (v := 9) hx hb dX5_about_15 (by decide) ?_
  refine goI ([]) (wMod cA h mm 0 dy co ti ro n nb B G T BA GA TA mo) hP hD hS hA (rnS (rest := []) (m_isIn sa tb D cA cL l y 0 9 ) ([]) (wMod cA h mm 0 dy co ti ro n nb B G T BA GA TA mo) hP hD hS hA hE ⟨hx, hb, hml, hown, hts⟩ (va_cwS 3 hts gX5_about_X5_isIn rfl rfl rfl (by decide +kernel) ⟨(Nat.le_of_ble_eq_true rfl), (Nat.le_of_ble_eq_true rfl)⟩) rfl hl.1 rfl (Nat.le_of_ble_eq_true rfl) dX5_about_17 ⟨(Nat.le_of_ble_eq_true rfl), (Nat.le_of_ble_eq_true rfl)⟩) (fun _ => rfl) (fun r_17 u_17 H locs hw_17 hP hD hS => ?_)
  have hP : va_P D vwCl (wMod cA h mm 0 dy co ti ro n nb B G T BA GA TA mo) H := hP
  have hD : va_D A (wMod cA h mm 0 dy co ti ro n nb B G T BA GA TA mo) := hD
  obtain rfl : r_17 = bI (isInB y 0 9) := hw_17
  refine lv_if_eq (tgt := 32) hx hb dX5_about_20 (by decide) (fun c_20 => ?_) (fun c_20 => False.elim (by exact c_20 (congrArg bI (isIn_no (lt_le (by decide) hb1)))))
  refine lv_aload_n hx hb dX5_about_32 rfl (lv_at hl 0 rfl) ?_
  refine lv_iconst (v := 1) hx hb dX5_about_33 (by decide) ?_
  refine goI ([]) ([(mm 0, I_ cA 64 (pkB B)), (mm 1, I_ cA 15 (pkG G)), (mm 2, I_ cA 3 T), (mm 3, I_ cA 64 (pkB BA)), (mm 4, I_ cA 15 (pkG GA)), (mm 5, I_ cA 3 TA), (mm 6, I_ cA 8 mo)]) hP hD hS hA (rnV (rest := []) (m_no sa tb D cA cL l h mm 0 dy co ti ro n nb 1 ) ([]) ([(mm 0, I_ cA 64 (pkB B)), (mm 1, I_ cA 15 (pkG G)), (mm 2, I_ cA 3 T), (mm 3, I_ cA 64 (pkB BA)), (mm 4, I_ cA 15 (pkG GA)), (mm 5, I_ cA 3 TA), (mm 6, I_ cA 8 mo)]) hP hD hS hA hE ⟨hx, hb, hml, hown, hts⟩ (cwV 1 hts gX5_about_X5_no rfl rfl rfl (by decide +kernel) ⟨(Nat.le_of_ble_eq_true rfl), (Nat.le_of_ble_eq_true rfl)⟩) 5 0 rfl rfl rfl rfl hl.1 rfl (Nat.le_of_ble_eq_true rfl) dX5_about_34 ⟨(Nat.le_of_ble_eq_true rfl), (Nat.le_of_ble_eq_true rfl)⟩) (fun _ => (show List.map Prod.fst _ = [h] from rfl).trans (show [h] = List.map Prod.fst _ from rfl)) (fun r_34 u_34 H locs hw_34 hP hD hS => ?_)
  have hP : va_P D vwCl (wMod cA h mm 1 dy co ti ro n nb B G T BA GA TA mo) H := hP
  have hD : va_D A (wMod cA h mm 1 dy co ti ro n nb B G T BA GA TA mo) := hD
  obtain rfl : r_34 = 0 := hw_34
  exact enI () hx hb hr hlocks hS hP (rfl) dX5_about_37
set_option maxRecDepth 100000 in
set_option maxHeartbeats 4000000 in
theorem m_hasReed (sa tb : Nat → Nat) (D : va_G) (cA cL : ClassId) (l : Launch) (h : Nat) (mm : Nat → Nat) (th : Int32) (dy : Int32) (co : Int32) (ti : Int32) (ro : Int32) (n : Nat) (nb : Nat) (xb : Nat) (B : Nat → Nat → Int32) (k : Nat) (hk : k < n) (hn : n ≤ 8) (hB0 : BInv n B) : KM sa tb D cA cL l yX5_hasReedBeside wsX5_hasReedBeside ({ frames := 1, cells := 0, slots := 0, locals := 24 }) [.ref h, .ref xb, .int (nI k)] ([oMod h mm th dy co ti ro n nb, (xb, I_ cA 64 (pkB B))]) (qI D (fun (r : Int32) (_ : Unit) => r = bI (crp B k n)) (fun _ => [oMod h mm th dy co ti ro n nb, (xb, I_ cA 64 (pkB B))])) := by
  refine KM.of (cc := cX5_hasReedBeside) (maxL := 5) (ret := some .boolean) (by decide) rfl (Nat.le_of_ble_eq_true rfl) ?_
  intro pg e s m args below meth c A hx hb hr hml hlocks hts hown hS hA hE hP hD ls hl
  have hown : s.vm.findClass RX5 = some m.cls := hown
  have hl : lv_has ls 5 [(0, .ref h), (1, .ref xb), (2, .int (nI k))] := hl
  have hwX5 : ∀ w ∈ wsX50, w ∈ wsX5_hasReedBeside := (fun _ h => List.mem_cons_of_mem _ (List.mem_append_right _ h))
  refine lv_iconst (v := 0) hx hb dX5_hasReedBeside_0 (by decide) ?_
  refine lv_istore_n (lv' := [(3, .int 0), (0, .ref h), (1, .ref xb), (2, .int (nI k))]) hx hb dX5_hasReedBeside_1 rfl hl (by decide) rfl (fun ls hl => ?_)
  refine lv_iconst (v := 0) hx hb dX5_hasReedBeside_2 (by decide) ?_
  refine lv_istore (lv' := [(4, .int 0), (3, .int 0), (0, .ref h), (1, .ref xb), (2, .int (nI k))]) hx hb dX5_hasReedBeside_3 hl (by decide) rfl (fun ls hl => ?_)
  have loop_5 : ∀ (f_5 : Nat) (i : Nat) (hv : Int32), (n - i) < f_5 → (i ≤ n) → (hv = bI (crp B k i)) → ∀ (H : Heap) (locs : List Loc), va_P D vwCl ([oMod h mm th dy co ti ro n nb, (xb, I_ cA 64 (pkB B))]) H → va_D A ([oMod h mm th dy co ti ro n nb, (xb, I_ cA 64 (pkB B))]) → va_S A s.heap H locs → ∀ ls : Array Slot, lv_has ls 5 [(0, .ref h), (1, .ref xb), (2, .int (nI k)), (3, .int hv), (4, .int (nI i))] → W pg l e ({ frames := 1, cells := 0, slots := 0, locals := 24 }) s m args below meth c H locs 0 0 (MQ below (qI D (fun (r : Int32) (_ : Unit) => r = bI (crp B k n)) (fun _ => [oMod h mm th dy co ti ro n nb, (xb, I_ cA 64 (pkB B))]) A) args s 0 0 A) (F0 m 5 ls []) := by
    intro f_5
    induction f_5 with
    | zero => intro i hv h_f; exact absurd h_f (Nat.not_lt_zero _)
    | succ f_5 ih_5 =>
      intro i hv h_f5 hi hhv H locs hP hD hS ls hl
      refine lv_iload hx hb dX5_hasReedBeside_5 (lv_at hl 4 rfl) ?_
      refine lv_aload_n hx hb dX5_hasReedBeside_7 rfl (lv_at hl 0 rfl) ?_
      refine va_get (D := D) (ci := 5) (v := .int (nI n)) (C := RX5) (T := TX5) (N := 14) hx hb hts hwX5 hown hE.K hP 0 rfl rfl 5 (by decide) (hts (.fieldLink RX5 41 "SedgeBargesModel" "beds" "I") (List.mem_of_getElem? (i := 1) rfl)) (fun _ h9 => h9) rfl dX5_hasReedBeside_8 ?_
      refine rc_ge (tgt := 78) (a := i) (b := n) hx hb (by omega) (by omega) dX5_hasReedBeside_11 (by decide) (fun c_11 => ?_) (fun c_11 => ?_)
      · refine lv_iload_n hx hb dX5_hasReedBeside_78 rfl (lv_at hl 3 rfl) ?_
        rw [show i = n from by omega] at hhv
        subst hhv
        exact enZ () hx hb hr hlocks hS hP (nar_bI _) (rfl) dX5_hasReedBeside_79
      · refine lv_iload_n hx hb dX5_hasReedBeside_14 rfl (lv_at hl 3 rfl) ?_
        refine lv_iload hx hb dX5_hasReedBeside_15 (lv_at hl 4 rfl) ?_
        refine lv_iload_n hx hb dX5_hasReedBeside_17 rfl (lv_at hl 2 rfl) ?_
        refine rc_eq (tgt := 69) (a := i) (b := k) hx hb (by omega) (by omega) dX5_hasReedBeside_18 (by decide) (fun c_18 => ?_) (fun c_18 => ?_)
        · refine lv_iconst (v := 0) hx hb dX5_hasReedBeside_69 (by decide) ?_
          refine lv_ior hx hb dX5_hasReedBeside_70 ?_
          refine lv_istore_n (lv' := [(3, .int (hv ||| 0)), (0, .ref h), (1, .ref xb), (2, .int (nI k)), (4, .int (nI i))]) hx hb dX5_hasReedBeside_71 rfl hl (by decide) rfl (fun ls hl => ?_)
          refine lv_iinc (v := (nI (i + 1))) (lv' := [(4, .int (nI (i + 1))), (3, .int (hv ||| 0)), (0, .ref h), (1, .ref xb), (2, .int (nI k))]) (k := 4) hx hb dX5_hasReedBeside_72 hl rfl (iinc1 _) (by decide) rfl (fun ls hl => ?_)
          refine lv_goto (tgt := 5) hx hb dX5_hasReedBeside_75 (by decide) ?_
          exact ih_5  (i + 1) (hv ||| 0) (show n - (i + 1) < f_5 from by omega) (show (i + 1) ≤ n from by omega) (show (hv ||| 0) = bI (crp B k (i + 1)) from by rw [hhv]; first | exact bI_or1 (reed_yes hB0 hk (by omega) c_39 c_62) | exact bI_or0 (reed_far c_39) | exact bI_or0 (reed_low hB0 hk (by omega) c_62) | (rw [show i = k from c_18]; exact bI_or0 crp1_self)) _ _ hP hD hS ls (lv_sub hl [2, 3, 4, 1, 0] rfl)
        · refine lv_aload_n hx hb dX5_hasReedBeside_21 rfl (lv_at hl 1 rfl) ?_
          refine lv_bipush (v := 8) hx hb dX5_hasReedBeside_22 (by decide) ?_
          refine lv_iload hx hb dX5_hasReedBeside_24 (lv_at hl 4 rfl) ?_
          refine rn_mul (a := 8) (b := i) hx hb dX5_hasReedBeside_26 ?_
          refine r_ald (f := pkB B) (v := B 0 i) hx hb hE hP 1 (8 * i + 0) rfl (congrArg nI (by omega)) (by omega) (by decide) (pkB_at 0 (i) (by decide)) dX5_hasReedBeside_27 ?_
          refine lv_aload_n hx hb dX5_hasReedBeside_28 rfl (lv_at hl 1 rfl) ?_
          refine lv_bipush (v := 8) hx hb dX5_hasReedBeside_29 (by decide) ?_
          refine lv_iload_n hx hb dX5_hasReedBeside_31 rfl (lv_at hl 2 rfl) ?_
          refine rn_mul (a := 8) (b := k) hx hb dX5_hasReedBeside_32 ?_
          refine r_ald (f := pkB B) (v := B 0 k) hx hb hE hP 1 (8 * k + 0) rfl (congrArg nI (by omega)) (by omega) (by decide) (pkB_at 0 (k) (by decide)) dX5_hasReedBeside_33 ?_
          refine lv_isub hx hb dX5_hasReedBeside_34 ?_
          refine r_mabs hx hb (hml.trans hl.1.symm) hown (hts (.methodLink RX5 88 Lib.Math.abs.name) (List.mem_of_getElem? (i := 2) rfl)) (hts (.static Lib.Math.abs.name) (List.mem_of_getElem? (i := 3) rfl)) (hts (.initialized "java/lang/Math") (List.mem_of_getElem? (i := 4) rfl)) (hts (.code Lib.Math.abs.name Lib.Math.abs.code 1 (some .int)) (List.mem_of_getElem? (i := 5) rfl)) (Nat.le_of_ble_eq_true rfl) (Nat.le_of_ble_eq_true rfl) (Nat.le_of_ble_eq_true rfl) (Nat.le_of_ble_eq_true rfl) dX5_hasReedBeside_35 ?_
          refine lv_iconst (v := 4) hx hb dX5_hasReedBeside_38 (by decide) ?_
          refine lv_icmp_gt (tgt := 69) hx hb dX5_hasReedBeside_39 (by decide) (fun c_39 => ?_) (fun c_39 => ?_)
          · refine lv_iconst (v := 0) hx hb dX5_hasReedBeside_69 (by decide) ?_
            refine lv_ior hx hb dX5_hasReedBeside_70 ?_
            refine lv_istore_n (lv' := [(3, .int (hv ||| 0)), (0, .ref h), (1, .ref xb), (2, .int (nI k)), (4, .int (nI i))]) hx hb dX5_hasReedBeside_71 rfl hl (by decide) rfl (fun ls hl => ?_)
            refine lv_iinc (v := (nI (i + 1))) (lv' := [(4, .int (nI (i + 1))), (3, .int (hv ||| 0)), (0, .ref h), (1, .ref xb), (2, .int (nI k))]) (k := 4) hx hb dX5_hasReedBeside_72 hl rfl (iinc1 _) (by decide) rfl (fun ls hl => ?_)
            refine lv_goto (tgt := 5) hx hb dX5_hasReedBeside_75 (by decide) ?_
            exact ih_5  (i + 1) (hv ||| 0) (show n - (i + 1) < f_5 from by omega) (show (i + 1) ≤ n from by omega) (show (hv ||| 0) = bI (crp B k (i + 1)) from by rw [hhv]; first | exact bI_or1 (reed_yes hB0 hk (by omega) c_39 c_62) | exact bI_or0 (reed_far c_39) | exact bI_or0 (reed_low hB0 hk (by omega) c_62) | (rw [show i = k from c_18]; exact bI_or0 crp1_self)) _ _ hP hD hS ls (lv_sub hl [2, 3, 4, 1, 0] rfl)
          · refine lv_aload_n hx hb dX5_hasReedBeside_42 rfl (lv_at hl 1 rfl) ?_
            refine lv_bipush (v := 8) hx hb dX5_hasReedBeside_43 (by decide) ?_
            refine lv_iload hx hb dX5_hasReedBeside_45 (lv_at hl 4 rfl) ?_
            refine rn_mul (a := 8) (b := i) hx hb dX5_hasReedBeside_47 ?_
            refine lv_iconst (v := 3) hx hb dX5_hasReedBeside_48 (by decide) ?_
            refine rn_add (a := 8 * i) (b := 3) hx hb dX5_hasReedBeside_49 ?_
            refine r_ald (f := pkB B) (v := B 3 i) hx hb hE hP 1 (8 * i + 3) rfl (congrArg nI (by omega)) (by omega) (by decide) (pkB_at 3 (i) (by decide)) dX5_hasReedBeside_50 ?_
            refine lv_aload_n hx hb dX5_hasReedBeside_51 rfl (lv_at hl 1 rfl) ?_
            refine lv_bipush (v := 8) hx hb dX5_hasReedBeside_52 (by decide) ?_
            refine lv_iload_n hx hb dX5_hasReedBeside_54 rfl (lv_at hl 2 rfl) ?_
            refine rn_mul (a := 8) (b := k) hx hb dX5_hasReedBeside_55 ?_
            refine lv_iconst (v := 3) hx hb dX5_hasReedBeside_56 (by decide) ?_
            refine rn_add (a := 8 * k) (b := 3) hx hb dX5_hasReedBeside_57 ?_
            refine r_ald (f := pkB B) (v := B 3 k) hx hb hE hP 1 (8 * k + 3) rfl (congrArg nI (by omega)) (by omega) (by decide) (pkB_at 3 (k) (by decide)) dX5_hasReedBeside_58 ?_
            refine lv_bipush (v := 30) hx hb dX5_hasReedBeside_59 (by decide) ?_
            refine lv_isub hx hb dX5_hasReedBeside_61 ?_
            refine lv_icmp_gt (tgt := 69) hx hb dX5_hasReedBeside_62 (by decide) (fun c_62 => ?_) (fun c_62 => ?_)
            · refine lv_iconst (v := 0) hx hb dX5_hasReedBeside_69 (by decide) ?_
              refine lv_ior hx hb dX5_hasReedBeside_70 ?_
              refine lv_istore_n (lv' := [(3, .int (hv ||| 0)), (0, .ref h), (1, .ref xb), (2, .int (nI k)), (4, .int (nI i))]) hx hb dX5_hasReedBeside_71 rfl hl (by decide) rfl (fun ls hl => ?_)
              refine lv_iinc (v := (nI (i + 1))) (lv' := [(4, .int (nI (i + 1))), (3, .int (hv ||| 0)), (0, .ref h), (1, .ref xb), (2, .int (nI k))]) (k := 4) hx hb dX5_hasReedBeside_72 hl rfl (iinc1 _) (by decide) rfl (fun ls hl => ?_)
              refine lv_goto (tgt := 5) hx hb dX5_hasReedBeside_75 (by decide) ?_
              exact ih_5  (i + 1) (hv ||| 0) (show n - (i + 1) < f_5 from by omega) (show (i + 1) ≤ n from by omega) (show (hv ||| 0) = bI (crp B k (i + 1)) from by rw [hhv]; first | exact bI_or1 (reed_yes hB0 hk (by omega) c_39 c_62) | exact bI_or0 (reed_far c_39) | exact bI_or0 (reed_low hB0 hk (by omega) c_62) | (rw [show i = k from c_18]; exact bI_or0 crp1_self)) _ _ hP hD hS ls (lv_sub hl [2, 3, 4, 1, 0] rfl)
            · refine lv_iconst (v := 1) hx hb dX5_hasReedBeside_65 (by decide) ?_
              refine lv_goto (tgt := 70) hx hb dX5_hasReedBeside_66 (by decide) ?_
              refine lv_ior hx hb dX5_hasReedBeside_70 ?_
              refine lv_istore_n (lv' := [(3, .int (hv ||| 1)), (0, .ref h), (1, .ref xb), (2, .int (nI k)), (4, .int (nI i))]) hx hb dX5_hasReedBeside_71 rfl hl (by decide) rfl (fun ls hl => ?_)
              refine lv_iinc (v := (nI (i + 1))) (lv' := [(4, .int (nI (i + 1))), (3, .int (hv ||| 1)), (0, .ref h), (1, .ref xb), (2, .int (nI k))]) (k := 4) hx hb dX5_hasReedBeside_72 hl rfl (iinc1 _) (by decide) rfl (fun ls hl => ?_)
              refine lv_goto (tgt := 5) hx hb dX5_hasReedBeside_75 (by decide) ?_
              exact ih_5  (i + 1) (hv ||| 1) (show n - (i + 1) < f_5 from by omega) (show (i + 1) ≤ n from by omega) (show (hv ||| 1) = bI (crp B k (i + 1)) from by rw [hhv]; first | exact bI_or1 (reed_yes hB0 hk (by omega) c_39 c_62) | exact bI_or0 (reed_far c_39) | exact bI_or0 (reed_low hB0 hk (by omega) c_62) | (rw [show i = k from c_18]; exact bI_or0 crp1_self)) _ _ hP hD hS ls (lv_sub hl [2, 3, 4, 1, 0] rfl)
  exact loop_5 ((n - 0) + 1) 0 0 (Nat.lt_succ_self _) (show 0 ≤ n from by omega) (show 0 = bI (crp B k 0) from rfl) _ _ hP hD hS ls (lv_sub hl [2, 3, 4, 1, 0] rfl)
set_option maxRecDepth 100000 in
set_option maxHeartbeats 4000000 in
theorem m_endYear (sa tb : Nat → Nat) (D : va_G) (cA cL : ClassId) (l : Launch) (h : Nat) (mm : Nat → Nat) (th : Int32) (dy : Int32) (co : Int32) (ti : Int32) (ro : Int32) (n : Nat) (nb : Nat) (xb : Nat) (B : Nat → Nat → Int32) (mo : Nat → Int32) (hn : n ≤ 8) (hB0 : BInv n B) : KM sa tb D cA cL l yX5_endYear wsX5_endYear ({ frames := 2, cells := 0, slots := 0, locals := 48 }) [.ref h, .ref xb] ([oMod h mm th dy co ti ro n nb, (xb, I_ cA 64 (pkB B)), (mm 6, I_ cA 8 mo)]) (qV D (fun (cx : Nat → Int32) => True) (fun cx => [oMod h mm th dy co ti ro n nb, (xb, I_ cA 64 (pkB (yearB n B))), (mm 6, I_ cA 8 cx)])) := by
  refine KM.of (cc := cX5_endYear) (maxL := 4) (ret := none) (by decide) rfl (Nat.le_of_ble_eq_true rfl) ?_
  intro pg e s m args below meth c A hx hb hr hml hlocks hts hown hS hA hE hP hD ls hl
  have hown : s.vm.findClass RX5 = some m.cls := hown
  have hl : lv_has ls 4 [(0, .ref h), (1, .ref xb)] := hl
  have hwX5 : ∀ w ∈ wsX50, w ∈ wsX5_endYear := (fun _ h => List.mem_cons_of_mem _ (List.mem_append_right _ h))
  refine lv_iconst (v := 0) hx hb dX5_endYear_0 (by decide) ?_
  refine lv_istore_n (lv' := [(2, .int 0), (0, .ref h), (1, .ref xb)]) hx hb dX5_endYear_1 rfl hl (by decide) rfl (fun ls hl => ?_)
  have loop_2 : ∀ (f_2 : Nat) (i : Nat) (cx : Nat → Int32), (n - i) < f_2 → (i ≤ n) → (∀ j, j < i → cx j = chF B n j) → ∀ (H : Heap) (locs : List Loc), va_P D vwCl ([oMod h mm th dy co ti ro n nb, (xb, I_ cA 64 (pkB B)), (mm 6, I_ cA 8 cx)]) H → va_D A ([oMod h mm th dy co ti ro n nb, (xb, I_ cA 64 (pkB B)), (mm 6, I_ cA 8 cx)]) → va_S A s.heap H locs → ∀ ls : Array Slot, lv_has ls 4 [(0, .ref h), (1, .ref xb), (2, .int (nI i))] → W pg l e ({ frames := 2, cells := 0, slots := 0, locals := 48 }) s m args below meth c H locs 0 0 (MQ below (qV D (fun (cx : Nat → Int32) => True) (fun cx => [oMod h mm th dy co ti ro n nb, (xb, I_ cA 64 (pkB (yearB n B))), (mm 6, I_ cA 8 cx)]) A) args s 0 0 A) (F0 m 2 ls []) := by
    intro f_2
    induction f_2 with
    | zero => intro i cx h_f; exact absurd h_f (Nat.not_lt_zero _)
    | succ f_2 ih_2 =>
      intro i cx h_f2 hi hch H locs hP hD hS ls hl
      refine lv_iload_n hx hb dX5_endYear_2 rfl (lv_at hl 2 rfl) ?_
      refine lv_aload_n hx hb dX5_endYear_3 rfl (lv_at hl 0 rfl) ?_
      refine va_get (D := D) (ci := 5) (v := .int (nI n)) (C := RX5) (T := TX5) (N := 14) hx hb hts hwX5 hown hE.K hP 0 rfl rfl 5 (by decide) (hts (.fieldLink RX5 41 "SedgeBargesModel" "beds" "I") (List.mem_of_getElem? (i := 1) rfl)) (fun _ h9 => h9) rfl dX5_endYear_4 ?_
      refine rc_ge (tgt := 67) (a := i) (b := n) hx hb (by omega) (by omega) dX5_endYear_7 (by decide) (fun c_7 => ?_) (fun c_7 => ?_)
      · refine lv_iconst (v := 0) hx hb dX5_endYear_67 (by decide) ?_
        refine lv_istore_n (lv' := [(2, .int 0), (0, .ref h), (1, .ref xb)]) hx hb dX5_endYear_68 rfl hl (by decide) rfl (fun ls hl => ?_)
        have loop_69 : ∀ (f_69 : Nat) (i : Nat) (Bx : Nat → Nat → Int32), (n - i) < f_69 → (i ≤ n) → (Bx = mapC (yearC (chF B n)) i B) → ∀ (H : Heap) (locs : List Loc), va_P D vwCl ([oMod h mm th dy co ti ro n nb, (xb, I_ cA 64 (pkB Bx)), (mm 6, I_ cA 8 cx)]) H → va_D A ([oMod h mm th dy co ti ro n nb, (xb, I_ cA 64 (pkB Bx)), (mm 6, I_ cA 8 cx)]) → va_S A s.heap H locs → ∀ ls : Array Slot, lv_has ls 4 [(0, .ref h), (1, .ref xb), (2, .int (nI i))] → W pg l e ({ frames := 2, cells := 0, slots := 0, locals := 48 }) s m args below meth c H locs 0 0 (MQ below (qV D (fun (cx : Nat → Int32) => True) (fun cx => [oMod h mm th dy co ti ro n nb, (xb, I_ cA 64 (pkB (yearB n B))), (mm 6, I_ cA 8 cx)]) A) args s 0 0 A) (F0 m 69 ls []) := by
          intro f_69
          induction f_69 with
          | zero => intro i Bx h_f; exact absurd h_f (Nat.not_lt_zero _)
          | succ f_69 ih_69 =>
            intro i Bx h_f69 hi hB H locs hP hD hS ls hl
            refine lv_iload_n hx hb dX5_endYear_69 rfl (lv_at hl 2 rfl) ?_
            refine lv_aload_n hx hb dX5_endYear_70 rfl (lv_at hl 0 rfl) ?_
            refine va_get (D := D) (ci := 5) (v := .int (nI n)) (C := RX5) (T := TX5) (N := 14) hx hb hts hwX5 hown hE.K hP 0 rfl rfl 5 (by decide) (hts (.fieldLink RX5 41 "SedgeBargesModel" "beds" "I") (List.mem_of_getElem? (i := 1) rfl)) (fun _ h9 => h9) rfl dX5_endYear_71 ?_
            refine rc_ge (tgt := 138) (a := i) (b := n) hx hb (by omega) (by omega) dX5_endYear_74 (by decide) (fun c_74 => ?_) (fun c_74 => ?_)
            · rw [show i = n from by omega] at hB
              subst hB
              exact enV cx hx hb hr hlocks hS hP (trivial) dX5_endYear_138
            · refine lv_aload_n hx hb dX5_endYear_77 rfl (lv_at hl 1 rfl) ?_
              refine lv_bipush (v := 8) hx hb dX5_endYear_78 (by decide) ?_
              refine lv_iload_n hx hb dX5_endYear_80 rfl (lv_at hl 2 rfl) ?_
              refine rn_mul (a := 8) (b := i) hx hb dX5_endYear_81 ?_
              refine lv_iconst (v := 3) hx hb dX5_endYear_82 (by decide) ?_
              refine rn_add (a := 8 * i) (b := 3) hx hb dX5_endYear_83 ?_
              refine lv_iconst (v := 0) hx hb dX5_endYear_84 (by decide) ?_
              refine lv_bipush (v := 100) hx hb dX5_endYear_85 (by decide) ?_
              refine lv_aload_n hx hb dX5_endYear_87 rfl (lv_at hl 1 rfl) ?_
              refine lv_bipush (v := 8) hx hb dX5_endYear_88 (by decide) ?_
              refine lv_iload_n hx hb dX5_endYear_90 rfl (lv_at hl 2 rfl) ?_
              refine rn_mul (a := 8) (b := i) hx hb dX5_endYear_91 ?_
              refine lv_iconst (v := 3) hx hb dX5_endYear_92 (by decide) ?_
              refine rn_add (a := 8 * i) (b := 3) hx hb dX5_endYear_93 ?_
              refine r_ald (f := pkB Bx) (v := Bx 3 i) hx hb hE hP 1 (8 * i + 3) rfl (congrArg nI (by omega)) (by omega) (by decide) (pkB_at 3 (i) (by decide)) dX5_endYear_94 ?_
              refine lv_aload_n hx hb dX5_endYear_95 rfl (lv_at hl 0 rfl) ?_
              refine va_get (D := D) (ci := 5) (v := .ref (mm 6)) (C := RX5) (T := TX5) (N := 14) hx hb hts hwX5 hown hE.K hP 0 rfl rfl 13 (by decide) (hts (.fieldLink RX5 35 "SedgeBargesModel" "more" "[I") (List.mem_of_getElem? (i := 2) rfl)) (fun _ h9 => h9) rfl dX5_endYear_96 ?_
              refine lv_iload_n hx hb dX5_endYear_99 rfl (lv_at hl 2 rfl) ?_
              refine r_ald (f := cx) (v := cx i) hx hb hE hP 2 (i) rfl rfl (by omega) (by decide) rfl dX5_endYear_100 ?_
              refine lv_iadd hx hb dX5_endYear_101 ?_
              refine r_mmin hx hb (hml.trans hl.1.symm) hown (hts (.methodLink RX5 73 Lib.Math.min.name) (List.mem_of_getElem? (i := 3) rfl)) (hts (.static Lib.Math.min.name) (List.mem_of_getElem? (i := 4) rfl)) (hts (.initialized "java/lang/Math") (List.mem_of_getElem? (i := 5) rfl)) (hts (.code Lib.Math.min.name Lib.Math.min.code 2 (some .int)) (List.mem_of_getElem? (i := 6) rfl)) (Nat.le_of_ble_eq_true rfl) (Nat.le_of_ble_eq_true rfl) (Nat.le_of_ble_eq_true rfl) (Nat.le_of_ble_eq_true rfl) dX5_endYear_102 ?_
              refine r_mmax hx hb (hml.trans hl.1.symm) hown (hts (.methodLink RX5 110 Lib.Math.max.name) (List.mem_of_getElem? (i := 7) rfl)) (hts (.static Lib.Math.max.name) (List.mem_of_getElem? (i := 8) rfl)) (hts (.initialized "java/lang/Math") (List.mem_of_getElem? (i := 5) rfl)) (hts (.code Lib.Math.max.name Lib.Math.max.code 2 (some .int)) (List.mem_of_getElem? (i := 9) rfl)) (Nat.le_of_ble_eq_true rfl) (Nat.le_of_ble_eq_true rfl) (Nat.le_of_ble_eq_true rfl) (Nat.le_of_ble_eq_true rfl) dX5_endYear_105 ?_
              refine lv_topi (fun z_1 hz_1 => ?_)
              refine r_ast (f := pkB Bx) (g := pkB (st Bx 3 i z_1)) hx hb hE hP hD hS 1 (8 * i + 3) rfl (congrArg nI (by omega)) (by omega) (by decide) (pkB_up 3 (i) _ (by decide)) dX5_endYear_108 (fun H locs hP hD hS => ?_)
              have hP : va_P D vwCl ([oMod h mm th dy co ti ro n nb, (xb, I_ cA 64 (pkB (st Bx 3 i z_1))), (mm 6, I_ cA 8 cx)]) H := hP
              have hD : va_D A ([oMod h mm th dy co ti ro n nb, (xb, I_ cA 64 (pkB (st Bx 3 i z_1))), (mm 6, I_ cA 8 cx)]) := hD
              generalize hB_2 : st Bx 3 i z_1 = B_2 at hP hD
              refine lv_aload_n hx hb dX5_endYear_109 rfl (lv_at hl 1 rfl) ?_
              refine lv_bipush (v := 8) hx hb dX5_endYear_110 (by decide) ?_
              refine lv_iload_n hx hb dX5_endYear_112 rfl (lv_at hl 2 rfl) ?_
              refine rn_mul (a := 8) (b := i) hx hb dX5_endYear_113 ?_
              refine lv_iconst (v := 2) hx hb dX5_endYear_114 (by decide) ?_
              refine rn_add (a := 8 * i) (b := 2) hx hb dX5_endYear_115 ?_
              refine lv_bipush (v := 9) hx hb dX5_endYear_116 (by decide) ?_
              refine lv_aload_n hx hb dX5_endYear_118 rfl (lv_at hl 1 rfl) ?_
              refine lv_bipush (v := 8) hx hb dX5_endYear_119 (by decide) ?_
              refine lv_iload_n hx hb dX5_endYear_121 rfl (lv_at hl 2 rfl) ?_
              refine rn_mul (a := 8) (b := i) hx hb dX5_endYear_122 ?_
              refine lv_iconst (v := 2) hx hb dX5_endYear_123 (by decide) ?_
              refine rn_add (a := 8 * i) (b := 2) hx hb dX5_endYear_124 ?_
              refine r_ald (f := pkB B_2) (v := Bx 2 i) hx hb hE hP 1 (8 * i + 2) rfl (congrArg nI (by omega)) (by omega) (by decide) ((pkB_at 2 (i) (by decide)).trans (st_colE hB_2 (by decide))) dX5_endYear_125 ?_
              refine lv_iconst (v := 1) hx hb dX5_endYear_126 (by decide) ?_
              refine lv_iadd hx hb dX5_endYear_127 ?_
              refine r_mmin hx hb (hml.trans hl.1.symm) hown (hts (.methodLink RX5 73 Lib.Math.min.name) (List.mem_of_getElem? (i := 3) rfl)) (hts (.static Lib.Math.min.name) (List.mem_of_getElem? (i := 4) rfl)) (hts (.initialized "java/lang/Math") (List.mem_of_getElem? (i := 5) rfl)) (hts (.code Lib.Math.min.name Lib.Math.min.code 2 (some .int)) (List.mem_of_getElem? (i := 6) rfl)) (Nat.le_of_ble_eq_true rfl) (Nat.le_of_ble_eq_true rfl) (Nat.le_of_ble_eq_true rfl) (Nat.le_of_ble_eq_true rfl) dX5_endYear_128 ?_
              refine lv_topi (fun z_3 hz_3 => ?_)
              refine r_ast (f := pkB B_2) (g := pkB (st B_2 2 i z_3)) hx hb hE hP hD hS 1 (8 * i + 2) rfl (congrArg nI (by omega)) (by omega) (by decide) (pkB_up 2 (i) _ (by decide)) dX5_endYear_131 (fun H locs hP hD hS => ?_)
              have hP : va_P D vwCl ([oMod h mm th dy co ti ro n nb, (xb, I_ cA 64 (pkB (st B_2 2 i z_3))), (mm 6, I_ cA 8 cx)]) H := hP
              have hD : va_D A ([oMod h mm th dy co ti ro n nb, (xb, I_ cA 64 (pkB (st B_2 2 i z_3))), (mm 6, I_ cA 8 cx)]) := hD
              generalize hB_4 : st B_2 2 i z_3 = B_4 at hP hD
              refine lv_iinc (v := (nI (i + 1))) (lv' := [(2, .int (nI (i + 1))), (0, .ref h), (1, .ref xb)]) (k := 2) hx hb dX5_endYear_132 hl rfl (iinc1 _) (by decide) rfl (fun ls hl => ?_)
              refine lv_goto (tgt := 69) hx hb dX5_endYear_135 (by decide) ?_
              subst hB_4
              subst hz_3
              subst hB_2
              subst hz_1
              exact ih_69  (i + 1) (st (st Bx 3 i (imax 0 (imin 100 ((Bx 3 i) + (cx i))))) 2 i (imin 9 ((Bx 2 i) + 1))) (show n - (i + 1) < f_69 from by omega) (show (i + 1) ≤ n from by omega) (show (st (st Bx 3 i (imax 0 (imin 100 ((Bx 3 i) + (cx i))))) 2 i (imin 9 ((Bx 2 i) + 1))) = mapC (yearC (chF B n)) (i + 1) B from by subst hB; exact mapC_step (fun j k hk => by simp only [st_ne hk]) (fun j => by simp only [st_eq, mapC_ge (Nat.le_refl i), hch i (by omega)]; rfl)) _ _ hP hD hS ls (lv_sub hl [1, 2, 0] rfl)
        exact loop_69 ((n - 0) + 1) 0 B (Nat.lt_succ_self _) (show 0 ≤ n from by omega) (show B = mapC (yearC (chF B n)) 0 B from mapC_0.symm) _ _ hP hD hS ls (lv_sub hl [1, 2, 0] rfl)
      · refine lv_aload_n hx hb dX5_endYear_10 rfl (lv_at hl 1 rfl) ?_
        refine lv_bipush (v := 8) hx hb dX5_endYear_11 (by decide) ?_
        refine lv_iload_n hx hb dX5_endYear_13 rfl (lv_at hl 2 rfl) ?_
        refine rn_mul (a := 8) (b := i) hx hb dX5_endYear_14 ?_
        refine lv_iconst (v := 2) hx hb dX5_endYear_15 (by decide) ?_
        refine rn_add (a := 8 * i) (b := 2) hx hb dX5_endYear_16 ?_
        refine r_ald (f := pkB B) (v := B 2 i) hx hb hE hP 1 (8 * i + 2) rfl (congrArg nI (by omega)) (by omega) (by decide) (pkB_at 2 (i) (by decide)) dX5_endYear_17 ?_
        refine lv_istore_n (lv' := [(3, .int (B 2 i)), (0, .ref h), (1, .ref xb), (2, .int (nI i))]) hx hb dX5_endYear_18 rfl hl (by decide) rfl (fun ls hl => ?_)
        refine lv_aload_n hx hb dX5_endYear_19 rfl (lv_at hl 1 rfl) ?_
        refine va_get (D := D) (ci := 5) (v := .ref (mm 6)) (C := RX5) (T := TX5) (N := 14) hx hb hts hwX5 hown hE.K hP 0 rfl rfl 13 (by decide) (hts (.fieldLink RX5 35 "SedgeBargesModel" "more" "[I") (List.mem_of_getElem? (i := 2) rfl)) (fun _ h9 => h9) rfl dX5_endYear_20 ?_
        refine lv_iload_n hx hb dX5_endYear_23 rfl (lv_at hl 3 rfl) ?_
        refine lv_iload_n hx hb dX5_endYear_24 rfl (lv_at hl 0 rfl) ?_
        refine lv_bipush (v := 6) hx hb dX5_endYear_25 (by decide) ?_
        refine lv_icmp_lt (tgt := 35) hx hb dX5_endYear_27 (by decide) (fun c_27 => ?_) (fun c_27 => ?_)
        · refine lv_iload_n hx hb dX5_endYear_35 rfl (lv_at hl 0 rfl) ?_
          refine lv_iconst (v := 1) hx hb dX5_endYear_36 (by decide) ?_
          refine lv_icmp_lt (tgt := 44) hx hb dX5_endYear_37 (by decide) (fun c_37 => ?_) (fun c_37 => ?_)
          · refine lv_iconst (v := 0) hx hb dX5_endYear_44 (by decide) ?_
            refine lv_aload_n hx hb dX5_endYear_45 rfl (lv_at hl 1 rfl) ?_
            refine lv_aload_n hx hb dX5_endYear_46 rfl (lv_at hl 2 rfl) ?_
            refine lv_iload_n hx hb dX5_endYear_47 rfl (lv_at hl 3 rfl) ?_
            refine goI ([]) ([(mm 6, I_ cA 8 cx)]) hP hD hS hA (rnV (rest := [.int 0, .int (nI i), .ref (mm 6)]) (m_hasReed sa tb D cA cL l h mm th dy co ti ro n nb xb B i (show i < n from by first | omega | assumption | decide) (show n ≤ 8 from by first | omega | assumption | decide) (show BInv n B from hB0)) ([]) ([(mm 6, I_ cA 8 cx)]) hP hD hS hA hE ⟨hx, hb, hml, hown, hts⟩ (cwV 2 hts gX5_endYear_X5_hasReedBeside rfl rfl rfl (by decide +kernel) ⟨(Nat.le_of_ble_eq_true rfl), (Nat.le_of_ble_eq_true rfl)⟩) 5 0 rfl rfl rfl rfl hl.1 rfl (Nat.le_of_ble_eq_true rfl) dX5_endYear_48 ⟨(Nat.le_of_ble_eq_true rfl), (Nat.le_of_ble_eq_true rfl)⟩) (fun _ => rfl) (fun r_48 u_48 H locs hw_48 hP hD hS => ?_)
            have hP : va_P D vwCl ([oMod h mm th dy co ti ro n nb, (xb, I_ cA 64 (pkB B)), (mm 6, I_ cA 8 cx)]) H := hP
            have hD : va_D A ([oMod h mm th dy co ti ro n nb, (xb, I_ cA 64 (pkB B)), (mm 6, I_ cA 8 cx)]) := hD
            obtain rfl : r_48 = bI (crp B i n) := hw_48
            refine lv_if_eq (tgt := 58) hx hb dX5_endYear_51 (by decide) (fun c_51 => ?_) (fun c_51 => ?_)
            · refine lv_iconst (v := 0) hx hb dX5_endYear_58 (by decide) ?_
              refine lv_isub hx hb dX5_endYear_59 ?_
              refine lv_topi (fun z_5 hz_5 => ?_)
              refine r_ast (f := cx) (g := upd cx i z_5) hx hb hE hP hD hS 2 (i) rfl rfl (by omega) (by decide) rfl dX5_endYear_60 (fun H locs hP hD hS => ?_)
              have hP : va_P D vwCl ([oMod h mm th dy co ti ro n nb, (xb, I_ cA 64 (pkB B)), (mm 6, I_ cA 8 (upd cx i z_5))]) H := hP
              have hD : va_D A ([oMod h mm th dy co ti ro n nb, (xb, I_ cA 64 (pkB B)), (mm 6, I_ cA 8 (upd cx i z_5))]) := hD
              refine lv_iinc (v := (nI (i + 1))) (lv' := [(2, .int (nI (i + 1))), (3, .int (B 2 i)), (0, .ref h), (1, .ref xb)]) (k := 3) hx hb dX5_endYear_61 hl rfl (iinc1 _) (by decide) rfl (fun ls hl => ?_)
              refine lv_goto (tgt := 2) hx hb dX5_endYear_64 (by decide) ?_
              subst hz_5
              exact ih_2  (i + 1) (upd cx i (0 - 0)) (show n - (i + 1) < f_2 from by omega) (show (i + 1) ≤ n from by omega) (show ∀ j, j < (i + 1) → (upd cx i (0 - 0)) j = chF B n j from by refine ch_step hch ?_; unfold chF; (first | rw [bI0 c_51] | rw [bI1 c_51]); unfold chgA; (first | (rw [if_pos (Int32.not_lt.mp c_27)]; rfl) | (rw [if_neg (Int32.not_le.mpr c_27), if_pos (Int32.not_lt.mp c_37)]; rfl) | (rw [if_neg (Int32.not_le.mpr c_27), if_neg (Int32.not_le.mpr c_37)]; rfl))) _ _ hP hD hS ls (lv_sub hl [2, 3, 0] rfl)
            · refine lv_iconst (v := 3) hx hb dX5_endYear_54 (by decide) ?_
              refine lv_goto (tgt := 59) hx hb dX5_endYear_55 (by decide) ?_
              refine lv_isub hx hb dX5_endYear_59 ?_
              refine lv_topi (fun z_6 hz_6 => ?_)
              refine r_ast (f := cx) (g := upd cx i z_6) hx hb hE hP hD hS 2 (i) rfl rfl (by omega) (by decide) rfl dX5_endYear_60 (fun H locs hP hD hS => ?_)
              have hP : va_P D vwCl ([oMod h mm th dy co ti ro n nb, (xb, I_ cA 64 (pkB B)), (mm 6, I_ cA 8 (upd cx i z_6))]) H := hP
              have hD : va_D A ([oMod h mm th dy co ti ro n nb, (xb, I_ cA 64 (pkB B)), (mm 6, I_ cA 8 (upd cx i z_6))]) := hD
              refine lv_iinc (v := (nI (i + 1))) (lv' := [(2, .int (nI (i + 1))), (3, .int (B 2 i)), (0, .ref h), (1, .ref xb)]) (k := 3) hx hb dX5_endYear_61 hl rfl (iinc1 _) (by decide) rfl (fun ls hl => ?_)
              refine lv_goto (tgt := 2) hx hb dX5_endYear_64 (by decide) ?_
              subst hz_6
              exact ih_2  (i + 1) (upd cx i (0 - 3)) (show n - (i + 1) < f_2 from by omega) (show (i + 1) ≤ n from by omega) (show ∀ j, j < (i + 1) → (upd cx i (0 - 3)) j = chF B n j from by refine ch_step hch ?_; unfold chF; (first | rw [bI0 c_51] | rw [bI1 c_51]); unfold chgA; (first | (rw [if_pos (Int32.not_lt.mp c_27)]; rfl) | (rw [if_neg (Int32.not_le.mpr c_27), if_pos (Int32.not_lt.mp c_37)]; rfl) | (rw [if_neg (Int32.not_le.mpr c_27), if_neg (Int32.not_le.mpr c_37)]; rfl))) _ _ hP hD hS ls (lv_sub hl [2, 3, 0] rfl)
          · refine lv_iconst (v := 2) hx hb dX5_endYear_40 (by decide) ?_
            refine lv_goto (tgt := 45) hx hb dX5_endYear_41 (by decide) ?_
            refine lv_aload_n hx hb dX5_endYear_45 rfl (lv_at hl 1 rfl) ?_
            refine lv_aload_n hx hb dX5_endYear_46 rfl (lv_at hl 2 rfl) ?_
            refine lv_iload_n hx hb dX5_endYear_47 rfl (lv_at hl 3 rfl) ?_
            refine goI ([]) ([(mm 6, I_ cA 8 cx)]) hP hD hS hA (rnV (rest := [.int 2, .int (nI i), .ref (mm 6)]) (m_hasReed sa tb D cA cL l h mm th dy co ti ro n nb xb B i (show i < n from by first | omega | assumption | decide) (show n ≤ 8 from by first | omega | assumption | decide) (show BInv n B from hB0)) ([]) ([(mm 6, I_ cA 8 cx)]) hP hD hS hA hE ⟨hx, hb, hml, hown, hts⟩ (cwV 2 hts gX5_endYear_X5_hasReedBeside rfl rfl rfl (by decide +kernel) ⟨(Nat.le_of_ble_eq_true rfl), (Nat.le_of_ble_eq_true rfl)⟩) 5 0 rfl rfl rfl rfl hl.1 rfl (Nat.le_of_ble_eq_true rfl) dX5_endYear_48 ⟨(Nat.le_of_ble_eq_true rfl), (Nat.le_of_ble_eq_true rfl)⟩) (fun _ => rfl) (fun r_48 u_48 H locs hw_48 hP hD hS => ?_)
            have hP : va_P D vwCl ([oMod h mm th dy co ti ro n nb, (xb, I_ cA 64 (pkB B)), (mm 6, I_ cA 8 cx)]) H := hP
            have hD : va_D A ([oMod h mm th dy co ti ro n nb, (xb, I_ cA 64 (pkB B)), (mm 6, I_ cA 8 cx)]) := hD
            obtain rfl : r_48 = bI (crp B i n) := hw_48
            refine lv_if_eq (tgt := 58) hx hb dX5_endYear_51 (by decide) (fun c_51 => ?_) (fun c_51 => ?_)
            · refine lv_iconst (v := 0) hx hb dX5_endYear_58 (by decide) ?_
              refine lv_isub hx hb dX5_endYear_59 ?_
              refine lv_topi (fun z_7 hz_7 => ?_)
              refine r_ast (f := cx) (g := upd cx i z_7) hx hb hE hP hD hS 2 (i) rfl rfl (by omega) (by decide) rfl dX5_endYear_60 (fun H locs hP hD hS => ?_)
              have hP : va_P D vwCl ([oMod h mm th dy co ti ro n nb, (xb, I_ cA 64 (pkB B)), (mm 6, I_ cA 8 (upd cx i z_7))]) H := hP
              have hD : va_D A ([oMod h mm th dy co ti ro n nb, (xb, I_ cA 64 (pkB B)), (mm 6, I_ cA 8 (upd cx i z_7))]) := hD
              refine lv_iinc (v := (nI (i + 1))) (lv' := [(2, .int (nI (i + 1))), (3, .int (B 2 i)), (0, .ref h), (1, .ref xb)]) (k := 3) hx hb dX5_endYear_61 hl rfl (iinc1 _) (by decide) rfl (fun ls hl => ?_)
              refine lv_goto (tgt := 2) hx hb dX5_endYear_64 (by decide) ?_
              subst hz_7
              exact ih_2  (i + 1) (upd cx i (2 - 0)) (show n - (i + 1) < f_2 from by omega) (show (i + 1) ≤ n from by omega) (show ∀ j, j < (i + 1) → (upd cx i (2 - 0)) j = chF B n j from by refine ch_step hch ?_; unfold chF; (first | rw [bI0 c_51] | rw [bI1 c_51]); unfold chgA; (first | (rw [if_pos (Int32.not_lt.mp c_27)]; rfl) | (rw [if_neg (Int32.not_le.mpr c_27), if_pos (Int32.not_lt.mp c_37)]; rfl) | (rw [if_neg (Int32.not_le.mpr c_27), if_neg (Int32.not_le.mpr c_37)]; rfl))) _ _ hP hD hS ls (lv_sub hl [2, 3, 0] rfl)
            · refine lv_iconst (v := 3) hx hb dX5_endYear_54 (by decide) ?_
              refine lv_goto (tgt := 59) hx hb dX5_endYear_55 (by decide) ?_
              refine lv_isub hx hb dX5_endYear_59 ?_
              refine lv_topi (fun z_8 hz_8 => ?_)
              refine r_ast (f := cx) (g := upd cx i z_8) hx hb hE hP hD hS 2 (i) rfl rfl (by omega) (by decide) rfl dX5_endYear_60 (fun H locs hP hD hS => ?_)
              have hP : va_P D vwCl ([oMod h mm th dy co ti ro n nb, (xb, I_ cA 64 (pkB B)), (mm 6, I_ cA 8 (upd cx i z_8))]) H := hP
              have hD : va_D A ([oMod h mm th dy co ti ro n nb, (xb, I_ cA 64 (pkB B)), (mm 6, I_ cA 8 (upd cx i z_8))]) := hD
              refine lv_iinc (v := (nI (i + 1))) (lv' := [(2, .int (nI (i + 1))), (3, .int (B 2 i)), (0, .ref h), (1, .ref xb)]) (k := 3) hx hb dX5_endYear_61 hl rfl (iinc1 _) (by decide) rfl (fun ls hl => ?_)
              refine lv_goto (tgt := 2) hx hb dX5_endYear_64 (by decide) ?_
              subst hz_8
              exact ih_2  (i + 1) (upd cx i (2 - 3)) (show n - (i + 1) < f_2 from by omega) (show (i + 1) ≤ n from by omega) (show ∀ j, j < (i + 1) → (upd cx i (2 - 3)) j = chF B n j from by refine ch_step hch ?_; unfold chF; (first | rw [bI0 c_51] | rw [bI1 c_51]); unfold chgA; (first | (rw [if_pos (Int32.not_lt.mp c_27)]; rfl) | (rw [if_neg (Int32.not_le.mpr c_27), if_pos (Int32.not_lt.mp c_37)]; rfl) | (rw [if_neg (Int32.not_le.mpr c_27), if_neg (Int32.not_le.mpr c_37)]; rfl))) _ _ hP hD hS ls (lv_sub hl [2, 3, 0] rfl)
        · refine lv_bipush (v := (-6)) hx hb dX5_endYear_30 (by decide) ?_
          refine lv_goto (tgt := 45) hx hb dX5_endYear_32 (by decide) ?_
          refine lv_aload_n hx hb dX5_endYear_45 rfl (lv_at hl 1 rfl) ?_
          refine lv_aload_n hx hb dX5_endYear_46 rfl (lv_at hl 2 rfl) ?_
          refine lv_iload_n hx hb dX5_endYear_47 rfl (lv_at hl 3 rfl) ?_
          refine goI ([]) ([(mm 6, I_ cA 8 cx)]) hP hD hS hA (rnV (rest := [.int (-6), .int (nI i), .ref (mm 6)]) (m_hasReed sa tb D cA cL l h mm th dy co ti ro n nb xb B i (show i < n from by first | omega | assumption | decide) (show n ≤ 8 from by first | omega | assumption | decide) (show BInv n B from hB0)) ([]) ([(mm 6, I_ cA 8 cx)]) hP hD hS hA hE ⟨hx, hb, hml, hown, hts⟩ (cwV 2 hts gX5_endYear_X5_hasReedBeside rfl rfl rfl (by decide +kernel) ⟨(Nat.le_of_ble_eq_true rfl), (Nat.le_of_ble_eq_true rfl)⟩) 5 0 rfl rfl rfl rfl hl.1 rfl (Nat.le_of_ble_eq_true rfl) dX5_endYear_48 ⟨(Nat.le_of_ble_eq_true rfl), (Nat.le_of_ble_eq_true rfl)⟩) (fun _ => rfl) (fun r_48 u_48 H locs hw_48 hP hD hS => ?_)
          have hP : va_P D vwCl ([oMod h mm th dy co ti ro n nb, (xb, I_ cA 64 (pkB B)), (mm 6, I_ cA 8 cx)]) H := hP
          have hD : va_D A ([oMod h mm th dy co ti ro n nb, (xb, I_ cA 64 (pkB B)), (mm 6, I_ cA 8 cx)]) := hD
          obtain rfl : r_48 = bI (crp B i n) := hw_48
          refine lv_if_eq (tgt := 58) hx hb dX5_endYear_51 (by decide) (fun c_51 => ?_) (fun c_51 => ?_)
          · refine lv_iconst (v := 0) hx hb dX5_endYear_58 (by decide) ?_
            refine lv_isub hx hb dX5_endYear_59 ?_
            refine lv_topi (fun z_9 hz_9 => ?_)
            refine r_ast (f := cx) (g := upd cx i z_9) hx hb hE hP hD hS 2 (i) rfl rfl (by omega) (by decide) rfl dX5_endYear_60 (fun H locs hP hD hS => ?_)
            have hP : va_P D vwCl ([oMod h mm th dy co ti ro n nb, (xb, I_ cA 64 (pkB B)), (mm 6, I_ cA 8 (upd cx i z_9))]) H := hP
            have hD : va_D A ([oMod h mm th dy co ti ro n nb, (xb, I_ cA 64 (pkB B)), (mm 6, I_ cA 8 (upd cx i z_9))]) := hD
            refine lv_iinc (v := (nI (i + 1))) (lv' := [(2, .int (nI (i + 1))), (3, .int (B 2 i)), (0, .ref h), (1, .ref xb)]) (k := 3) hx hb dX5_endYear_61 hl rfl (iinc1 _) (by decide) rfl (fun ls hl => ?_)
            refine lv_goto (tgt := 2) hx hb dX5_endYear_64 (by decide) ?_
            subst hz_9
            exact ih_2  (i + 1) (upd cx i ((-6) - 0)) (show n - (i + 1) < f_2 from by omega) (show (i + 1) ≤ n from by omega) (show ∀ j, j < (i + 1) → (upd cx i ((-6) - 0)) j = chF B n j from by refine ch_step hch ?_; unfold chF; (first | rw [bI0 c_51] | rw [bI1 c_51]); unfold chgA; (first | (rw [if_pos (Int32.not_lt.mp c_27)]; rfl) | (rw [if_neg (Int32.not_le.mpr c_27), if_pos (Int32.not_lt.mp c_37)]; rfl) | (rw [if_neg (Int32.not_le.mpr c_27), if_neg (Int32.not_le.mpr c_37)]; rfl))) _ _ hP hD hS ls (lv_sub hl [2, 3, 0] rfl)
          · refine lv_iconst (v := 3) hx hb dX5_endYear_54 (by decide) ?_
            refine lv_goto (tgt := 59) hx hb dX5_endYear_55 (by decide) ?_
            refine lv_isub hx hb dX5_endYear_59 ?_
            refine lv_topi (fun z_10 hz_10 => ?_)
            refine r_ast (f := cx) (g := upd cx i z_10) hx hb hE hP hD hS 2 (i) rfl rfl (by omega) (by decide) rfl dX5_endYear_60 (fun H locs hP hD hS => ?_)
            have hP : va_P D vwCl ([oMod h mm th dy co ti ro n nb, (xb, I_ cA 64 (pkB B)), (mm 6, I_ cA 8 (upd cx i z_10))]) H := hP
            have hD : va_D A ([oMod h mm th dy co ti ro n nb, (xb, I_ cA 64 (pkB B)), (mm 6, I_ cA 8 (upd cx i z_10))]) := hD
            refine lv_iinc (v := (nI (i + 1))) (lv' := [(2, .int (nI (i + 1))), (3, .int (B 2 i)), (0, .ref h), (1, .ref xb)]) (k := 3) hx hb dX5_endYear_61 hl rfl (iinc1 _) (by decide) rfl (fun ls hl => ?_)
            refine lv_goto (tgt := 2) hx hb dX5_endYear_64 (by decide) ?_
            subst hz_10
            exact ih_2  (i + 1) (upd cx i ((-6) - 3)) (show n - (i + 1) < f_2 from by omega) (show (i + 1) ≤ n from by omega) (show ∀ j, j < (i + 1) → (upd cx i ((-6) - 3)) j = chF B n j from by refine ch_step hch ?_; unfold chF; (first | rw [bI0 c_51] | rw [bI1 c_51]); unfold chgA; (first | (rw [if_pos (Int32.not_lt.mp c_27)]; rfl) | (rw [if_neg (Int32.not_le.mpr c_27), if_pos (Int32.not_lt.mp c_37)]; rfl) | (rw [if_neg (Int32.not_le.mpr c_27), if_neg (Int32.not_le.mpr c_37)]; rfl))) _ _ hP hD hS ls (lv_sub hl [2, 3, 0] rfl)
  exact loop_2 ((n - 0) + 1) 0 mo (Nat.lt_succ_self _) (show 0 ≤ n from by omega) (show ∀ j, j < 0 → mo j = chF B n j from fun j hj => absurd hj (Nat.not_lt_zero _)) _ _ hP hD hS ls (lv_sub hl [1, 2, 0] rfl)
