set_option maxRecDepth 100000 in
set_option maxHeartbeats 4000000 in
theorem c_tenth (sa : Nat × Nat × (Nat → Int32)) (tb : Nat → Nat) (D : va_G) (cA cL : ClassId) (l : Launch) (x : Int32)  : KM sa tb D cA cL l yX4_tenthRoundedUp wsX4_tenthRoundedUp ({ frames := 0, cells := 0, slots := 0, locals := 0 }) [.int x] ([]) (qI D (fun (r : Int32) (_ : Unit) => r = tenth x) (fun _ => [])) := by
  refine KM.of (cc := cX4_tenthRoundedUp) (maxL := 1) (ret := some .int) (by decide) rfl (Nat.le_of_ble_eq_true rfl) ?_
  intro pg e s m args below meth c A hx hb hr hml hlocks hts hown hS hA hE hP hD ls hl
  have hown : s.vm.findClass RX4 = some m.cls := hown
  have hl : lv_has ls 1 [(0, .int x)] := hl
  refine lv_iload_n hx hb dX4_tenthRoundedUp_0 rfl (lv_at hl 0 rfl) ?_
  refine lv_bipush (v := 9) hx hb dX4_tenthRoundedUp_1 (by decide) ?_
  refine lv_iadd hx hb dX4_tenthRoundedUp_3 ?_
  refine lv_bipush (v := 10) hx hb dX4_tenthRoundedUp_4 (by decide) ?_
  refine lv_idiv hx hb dX4_tenthRoundedUp_6 (by decide) ?_
  exact enI () hx hb hr hlocks hS hP (rfl) dX4_tenthRoundedUp_7
set_option maxRecDepth 100000 in
set_option maxHeartbeats 4000000 in
theorem c_twent (sa : Nat × Nat × (Nat → Int32)) (tb : Nat → Nat) (D : va_G) (cA cL : ClassId) (l : Launch) (x : Int32)  : KM sa tb D cA cL l yX4_twentiethRoundedUp wsX4_twentiethRoundedUp ({ frames := 0, cells := 0, slots := 0, locals := 0 }) [.int x] ([]) (qI D (fun (r : Int32) (_ : Unit) => r = twent x) (fun _ => [])) := by
  refine KM.of (cc := cX4_twentiethRoundedUp) (maxL := 1) (ret := some .int) (by decide) rfl (Nat.le_of_ble_eq_true rfl) ?_
  intro pg e s m args below meth c A hx hb hr hml hlocks hts hown hS hA hE hP hD ls hl
  have hown : s.vm.findClass RX4 = some m.cls := hown
  have hl : lv_has ls 1 [(0, .int x)] := hl
  refine lv_iload_n hx hb dX4_twentiethRoundedUp_0 rfl (lv_at hl 0 rfl) ?_
  refine lv_bipush (v := 19) hx hb dX4_twentiethRoundedUp_1 (by decide) ?_
  refine lv_iadd hx hb dX4_twentiethRoundedUp_3 ?_
  refine lv_bipush (v := 20) hx hb dX4_twentiethRoundedUp_4 (by decide) ?_
  refine lv_idiv hx hb dX4_twentiethRoundedUp_6 (by decide) ?_
  exact enI () hx hb hr hlocks hS hP (rfl) dX4_twentiethRoundedUp_7
set_option maxRecDepth 100000 in
set_option maxHeartbeats 4000000 in
theorem c_Beds_areFull (sa : Nat × Nat × (Nat → Int32)) (tb : Nat → Nat) (D : va_G) (cA cL : ClassId) (l : Launch) (h : Nat) (u : Nat → Nat) (n : Nat) (B : Nat → Nat → Int32) (ch : Nat → Int32) (hn : n ≤ 8) : KM sa tb D cA cL l yX1_areFull wsX1_areFull ({ frames := 0, cells := 0, slots := 0, locals := 0 }) [.ref h] (wBeds cA h u n B ch) (qI D (fun (r : Int32) (_ : Unit) => r = bI (decide (8 ≤ n))) (fun _ => wBeds cA h u n B ch)) := by
  refine KM.of (cc := cX1_areFull) (maxL := 1) (ret := some .boolean) (by decide) rfl (Nat.le_of_ble_eq_true rfl) ?_
  intro pg e s m args below meth c A hx hb hr hml hlocks hts hown hS hA hE hP hD ls hl
  have hown : s.vm.findClass RX1 = some m.cls := hown
  have hl : lv_has ls 1 [(0, .ref h)] := hl
  have hwX1 : ∀ w ∈ wsX10, w ∈ wsX1_areFull := (fun _ h => List.mem_cons_of_mem _ (List.mem_append_right _ h))
  refine lv_aload_n hx hb dX1_areFull_0 rfl (lv_at hl 0 rfl) ?_
  refine va_get (D := D) (ci := 1) (v := .int (nI n)) (C := RX1) (T := TX1) (N := 10) hx hb hts hwX1 hown hE.K hP 0 rfl rfl 0 (by decide) (hts (.fieldLink RX1 39 "SedgeBarges$Beds" "number" "I") (List.mem_of_getElem? (i := 1) rfl)) (fun _ h9 => h9) rfl dX1_areFull_1 ?_
  refine lv_bipush (v := 8) hx hb dX1_areFull_4 (by decide) ?_
  refine rc_lt (tgt := 13) (a := n) (b := 8) hx hb (by omega) (by omega) dX1_areFull_6 (by decide) (fun c_6 => ?_) (fun c_6 => ?_)
  · refine lv_iconst (v := 0) hx hb dX1_areFull_13 (by decide) ?_
    exact enZ () hx hb hr hlocks hS hP (by first | rfl | decide) (by first | exact (congrArg bI (decide_eq_false (by omega))).symm | exact (congrArg bI (decide_eq_true (by omega))).symm) dX1_areFull_14
  · refine lv_iconst (v := 1) hx hb dX1_areFull_9 (by decide) ?_
    refine lv_goto (tgt := 14) hx hb dX1_areFull_10 (by decide) ?_
    exact enZ () hx hb hr hlocks hS hP (by first | rfl | decide) (by first | exact (congrArg bI (decide_eq_false (by omega))).symm | exact (congrArg bI (decide_eq_true (by omega))).symm) dX1_areFull_14
set_option maxRecDepth 100000 in
set_option maxHeartbeats 4000000 in
theorem c_Beds_given (sa : Nat × Nat × (Nat → Int32)) (tb : Nat → Nat) (D : va_G) (cA cL : ClassId) (l : Launch) (h : Nat) (u : Nat → Nat) (n : Nat) (B : Nat → Nat → Int32) (ch : Nat → Int32) (k : Nat) (hk : k < 8) : KM sa tb D cA cL l yX1_given wsX1_given ({ frames := 0, cells := 0, slots := 0, locals := 0 }) [.ref h, .int (nI k)] (wBeds cA h u n B ch) (qI D (fun (r : Int32) (_ : Unit) => r = given B k) (fun _ => wBeds cA h u n B ch)) := by
  refine KM.of (cc := cX1_given) (maxL := 4) (ret := some .int) (by decide) rfl (Nat.le_of_ble_eq_true rfl) ?_
  intro pg e s m args below meth c A hx hb hr hml hlocks hts hown hS hA hE hP hD ls hl
  have hown : s.vm.findClass RX1 = some m.cls := hown
  have hl : lv_has ls 4 [(0, .ref h), (1, .int (nI k))] := hl
  have hwX1 : ∀ w ∈ wsX10, w ∈ wsX1_given := (fun _ h => List.mem_cons_of_mem _ (List.mem_append_right _ h))
  refine lv_aload_n hx hb dX1_given_0 rfl (lv_at hl 0 rfl) ?_
  refine va_get (D := D) (ci := 1) (v := .ref (u 2)) (C := RX1) (T := TX1) (N := 10) hx hb hts hwX1 hown hE.K hP 0 rfl rfl 3 (by decide) (hts (.fieldLink RX1 18 "SedgeBarges$Beds" "age" "[I") (List.mem_of_getElem? (i := 1) rfl)) (fun _ h9 => h9) rfl dX1_given_1 ?_
  refine lv_iload_n hx hb dX1_given_4 rfl (lv_at hl 1 rfl) ?_
  refine r_ald (f := B 2) (v := (B 2) k) hx hb hE hP 3 (k) rfl rfl (by omega) (by decide) rfl dX1_given_5 ?_
  refine lv_istore_n (lv' := [(2, .int ((B 2) k)), (0, .ref h), (1, .int (nI k))]) hx hb dX1_given_6 rfl hl (by decide) rfl (fun ls hl => ?_)
  refine lv_iload_n hx hb dX1_given_7 rfl (lv_at hl 0 rfl) ?_
  refine lv_if_lt (tgt := 27) hx hb dX1_given_8 (by decide) (fun c_8 => ?_) (fun c_8 => ?_)
  · refine lv_iconst (v := 0) hx hb dX1_given_27 (by decide) ?_
    refine lv_istore_n (lv' := [(3, .int 0), (2, .int ((B 2) k)), (0, .ref h), (1, .int (nI k))]) hx hb dX1_given_28 rfl hl (by decide) rfl (fun ls hl => ?_)
    refine lv_iconst (v := 3) hx hb dX1_given_29 (by decide) ?_
    refine lv_aload_n hx hb dX1_given_30 rfl (lv_at hl 2 rfl) ?_
    refine va_get (D := D) (ci := 1) (v := .ref (u 1)) (C := RX1) (T := TX1) (N := 10) hx hb hts hwX1 hown hE.K hP 0 rfl rfl 2 (by decide) (hts (.fieldLink RX1 15 "SedgeBarges$Beds" "size" "[I") (List.mem_of_getElem? (i := 2) rfl)) (fun _ h9 => h9) rfl dX1_given_31 ?_
    refine lv_iload_n hx hb dX1_given_34 rfl (lv_at hl 3 rfl) ?_
    refine r_ald (f := B 1) (v := (B 1) k) hx hb hE hP 2 (k) rfl rfl (by omega) (by decide) rfl dX1_given_35 ?_
    refine lv_imul hx hb dX1_given_36 ?_
    refine lv_iload_n hx hb dX1_given_37 rfl (lv_at hl 0 rfl) ?_
    refine lv_imul hx hb dX1_given_38 ?_
    exact enI () hx hb hr hlocks hS hP (by first | exact congrArg (3 * B 1 k * ·) (gro_lo c_8).symm | exact congrArg (3 * B 1 k * ·) (gro_hi c_16).symm | rfl) dX1_given_39
  · refine lv_iload_n hx hb dX1_given_11 rfl (lv_at hl 0 rfl) ?_
    refine va_getsN hx hb (hE.2.2.2.1.1).1 hS hown (nf_9 hE) (fun _ h9 => h9) dX1_given_12 ?_
    refine va_tlen (v := 10) hx hb (hE.2.2.2.1.1).2 hS rfl dX1_given_15 ?_
    refine lv_icmp_ge (tgt := 27) hx hb dX1_given_16 (by decide) (fun c_16 => ?_) (fun c_16 => ?_)
    · refine lv_iconst (v := 0) hx hb dX1_given_27 (by decide) ?_
      refine lv_istore_n (lv' := [(3, .int 0), (2, .int ((B 2) k)), (0, .ref h), (1, .int (nI k))]) hx hb dX1_given_28 rfl hl (by decide) rfl (fun ls hl => ?_)
      refine lv_iconst (v := 3) hx hb dX1_given_29 (by decide) ?_
      refine lv_aload_n hx hb dX1_given_30 rfl (lv_at hl 2 rfl) ?_
      refine va_get (D := D) (ci := 1) (v := .ref (u 1)) (C := RX1) (T := TX1) (N := 10) hx hb hts hwX1 hown hE.K hP 0 rfl rfl 2 (by decide) (hts (.fieldLink RX1 15 "SedgeBarges$Beds" "size" "[I") (List.mem_of_getElem? (i := 2) rfl)) (fun _ h9 => h9) rfl dX1_given_31 ?_
      refine lv_iload_n hx hb dX1_given_34 rfl (lv_at hl 3 rfl) ?_
      refine r_ald (f := B 1) (v := (B 1) k) hx hb hE hP 2 (k) rfl rfl (by omega) (by decide) rfl dX1_given_35 ?_
      refine lv_imul hx hb dX1_given_36 ?_
      refine lv_iload_n hx hb dX1_given_37 rfl (lv_at hl 0 rfl) ?_
      refine lv_imul hx hb dX1_given_38 ?_
      exact enI () hx hb hr hlocks hS hP (by first | exact congrArg (3 * B 1 k * ·) (gro_lo c_8).symm | exact congrArg (3 * B 1 k * ·) (gro_hi c_16).symm | rfl) dX1_given_39
    · refine va_getsN hx hb (hE.2.2.2.1.1).1 hS hown (nf_9 hE) (fun _ h9 => h9) dX1_given_19 ?_
      refine lv_iload_n hx hb dX1_given_22 rfl (lv_at hl 0 rfl) ?_
      obtain ⟨j_1, hj_1, ej_1⟩ : ∃ j : Nat, j < 10 ∧ ((B 2) k : Int32) = nI j := tab_ix rfl (by decide) c_8 c_16
      refine r_tld (v := gro ((B 2) k)) hx hb (hE.2.2.2.1.1) hS j_1 ej_1 hj_1 (by decide) (gro_in ej_1 (by omega)).symm dX1_given_23 ?_
      refine lv_goto (tgt := 28) hx hb dX1_given_24 (by decide) ?_
      refine lv_istore_n (lv' := [(3, .int (gro ((B 2) k))), (2, .int ((B 2) k)), (0, .ref h), (1, .int (nI k))]) hx hb dX1_given_28 rfl hl (by decide) rfl (fun ls hl => ?_)
      refine lv_iconst (v := 3) hx hb dX1_given_29 (by decide) ?_
      refine lv_aload_n hx hb dX1_given_30 rfl (lv_at hl 2 rfl) ?_
      refine va_get (D := D) (ci := 1) (v := .ref (u 1)) (C := RX1) (T := TX1) (N := 10) hx hb hts hwX1 hown hE.K hP 0 rfl rfl 2 (by decide) (hts (.fieldLink RX1 15 "SedgeBarges$Beds" "size" "[I") (List.mem_of_getElem? (i := 2) rfl)) (fun _ h9 => h9) rfl dX1_given_31 ?_
      refine lv_iload_n hx hb dX1_given_34 rfl (lv_at hl 3 rfl) ?_
      refine r_ald (f := B 1) (v := (B 1) k) hx hb hE hP 2 (k) rfl rfl (by omega) (by decide) rfl dX1_given_35 ?_
      refine lv_imul hx hb dX1_given_36 ?_
      refine lv_iload_n hx hb dX1_given_37 rfl (lv_at hl 0 rfl) ?_
      refine lv_imul hx hb dX1_given_38 ?_
      exact enI () hx hb hr hlocks hS hP (by first | exact congrArg (3 * B 1 k * ·) (gro_lo c_8).symm | exact congrArg (3 * B 1 k * ·) (gro_hi c_16).symm | rfl) dX1_given_39
set_option maxRecDepth 100000 in
set_option maxHeartbeats 4000000 in
theorem c_Beds_sedgeGiven (sa : Nat × Nat × (Nat → Int32)) (tb : Nat → Nat) (D : va_G) (cA cL : ClassId) (l : Launch) (h : Nat) (u : Nat → Nat) (n : Nat) (B : Nat → Nat → Int32) (ch : Nat → Int32) (k : Nat) (hk : k < 8) : KM sa tb D cA cL l yX1_sedgeGiven wsX1_sedgeGiven ({ frames := 1, cells := 0, slots := 0, locals := 23 }) [.ref h, .int (nI k)] (wBeds cA h u n B ch) (qI D (fun (r : Int32) (_ : Unit) => r = sgiv B k) (fun _ => wBeds cA h u n B ch)) := by
  refine KM.of (cc := cX1_sedgeGiven) (maxL := 2) (ret := some .int) (by decide) rfl (Nat.le_of_ble_eq_true rfl) ?_
  intro pg e s m args below meth c A hx hb hr hml hlocks hts hown hS hA hE hP hD ls hl
  have hown : s.vm.findClass RX1 = some m.cls := hown
  have hl : lv_has ls 2 [(0, .ref h), (1, .int (nI k))] := hl
  have hwX1 : ∀ w ∈ wsX10, w ∈ wsX1_sedgeGiven := (fun _ h => List.mem_cons_of_mem _ (List.mem_append_right _ h))
  refine lv_aload_n hx hb dX1_sedgeGiven_0 rfl (lv_at hl 0 rfl) ?_
  refine lv_iload_n hx hb dX1_sedgeGiven_1 rfl (lv_at hl 1 rfl) ?_
  refine goI ([]) ([]) hP hD hS hA (rnV (rest := []) (c_Beds_given sa tb D cA cL l h u n B ch k (show k < 8 from by first | omega | assumption | decide)) ([]) ([]) hP hD hS hA hE ⟨hx, hb, hml, hown, hts⟩ (cwV 1 hts gX1_sedgeGiven_X1_given rfl rfl rfl (by decide +kernel) ⟨(Nat.le_of_ble_eq_true rfl), (Nat.le_of_ble_eq_true rfl)⟩) 1 0 rfl rfl rfl rfl hl.1 rfl (Nat.le_of_ble_eq_true rfl) dX1_sedgeGiven_2 ⟨(Nat.le_of_ble_eq_true rfl), (Nat.le_of_ble_eq_true rfl)⟩) (fun _ => rfl) (fun r_2 u_2 H locs hw_2 hP hD hS => ?_)
  have hP : va_P D vwCl (wBeds cA h u n B ch) H := hP
  have hD : va_D A (wBeds cA h u n B ch) := hD
  obtain rfl : r_2 = given B k := hw_2
  refine lv_aload_n hx hb dX1_sedgeGiven_5 rfl (lv_at hl 0 rfl) ?_
  refine va_get (D := D) (ci := 1) (v := .ref (u 3)) (C := RX1) (T := TX1) (N := 10) hx hb hts hwX1 hown hE.K hP 0 rfl rfl 4 (by decide) (hts (.fieldLink RX1 21 "SedgeBarges$Beds" "sedge" "[I") (List.mem_of_getElem? (i := 1) rfl)) (fun _ h9 => h9) rfl dX1_sedgeGiven_6 ?_
  refine lv_iload_n hx hb dX1_sedgeGiven_9 rfl (lv_at hl 1 rfl) ?_
  refine r_ald (f := B 3) (v := (B 3) k) hx hb hE hP 4 (k) rfl rfl (by omega) (by decide) rfl dX1_sedgeGiven_10 ?_
  refine lv_imul hx hb dX1_sedgeGiven_11 ?_
  refine lv_bipush (v := 100) hx hb dX1_sedgeGiven_12 (by decide) ?_
  refine lv_idiv hx hb dX1_sedgeGiven_14 (by decide) ?_
  exact enI () hx hb hr hlocks hS hP (rfl) dX1_sedgeGiven_15
set_option maxRecDepth 100000 in
set_option maxHeartbeats 4000000 in
theorem c_Beds_cutDown (sa : Nat × Nat × (Nat → Int32)) (tb : Nat → Nat) (D : va_G) (cA cL : ClassId) (l : Launch) (h : Nat) (u : Nat → Nat) (n : Nat) (B : Nat → Nat → Int32) (ch : Nat → Int32) (k : Nat) (hk : k < 8) : KM sa tb D cA cL l yX1_cutDown wsX1_cutDown ({ frames := 2, cells := 0, slots := 0, locals := 44 }) [.ref h, .int (nI k)] (wBeds cA h u n B ch) (qI D (fun (r : Int32) (_ : Unit) => r = given B k) (fun _ => wBeds cA h u n (cutB B k) ch)) := by
  refine KM.of (cc := cX1_cutDown) (maxL := 4) (ret := some .int) (by decide) rfl (Nat.le_of_ble_eq_true rfl) ?_
  intro pg e s m args below meth c A hx hb hr hml hlocks hts hown hS hA hE hP hD ls hl
  have hown : s.vm.findClass RX1 = some m.cls := hown
  have hl : lv_has ls 4 [(0, .ref h), (1, .int (nI k))] := hl
  have hwX1 : ∀ w ∈ wsX10, w ∈ wsX1_cutDown := (fun _ h => List.mem_cons_of_mem _ (List.mem_append_right _ h))
  refine lv_aload_n hx hb dX1_cutDown_0 rfl (lv_at hl 0 rfl) ?_
  refine lv_iload_n hx hb dX1_cutDown_1 rfl (lv_at hl 1 rfl) ?_
  refine goI ([]) ([]) hP hD hS hA (rnV (rest := []) (c_Beds_given sa tb D cA cL l h u n B ch k (show k < 8 from by first | omega | assumption | decide)) ([]) ([]) hP hD hS hA hE ⟨hx, hb, hml, hown, hts⟩ (cwV 1 hts gX1_cutDown_X1_given rfl rfl rfl (by decide +kernel) ⟨(Nat.le_of_ble_eq_true rfl), (Nat.le_of_ble_eq_true rfl)⟩) 1 0 rfl rfl rfl rfl hl.1 rfl (Nat.le_of_ble_eq_true rfl) dX1_cutDown_2 ⟨(Nat.le_of_ble_eq_true rfl), (Nat.le_of_ble_eq_true rfl)⟩) (fun _ => rfl) (fun r_2 u_2 H locs hw_2 hP hD hS => ?_)
  have hP : va_P D vwCl (wBeds cA h u n B ch) H := hP
  have hD : va_D A (wBeds cA h u n B ch) := hD
  obtain rfl : r_2 = given B k := hw_2
  refine lv_istore_n (lv' := [(2, .int (given B k)), (0, .ref h), (1, .int (nI k))]) hx hb dX1_cutDown_5 rfl hl (by decide) rfl (fun ls hl => ?_)
  refine lv_aload_n hx hb dX1_cutDown_6 rfl (lv_at hl 1 rfl) ?_
  refine lv_iload_n hx hb dX1_cutDown_7 rfl (lv_at hl 2 rfl) ?_
  refine goI ([]) ([]) hP hD hS hA (rnV (rest := []) (c_Beds_sedgeGiven sa tb D cA cL l h u n B ch k (show k < 8 from by first | omega | assumption | decide)) ([]) ([]) hP hD hS hA hE ⟨hx, hb, hml, hown, hts⟩ (cwV 1 hts gX1_cutDown_X1_sedgeGiven rfl rfl rfl (by decide +kernel) ⟨(Nat.le_of_ble_eq_true rfl), (Nat.le_of_ble_eq_true rfl)⟩) 1 0 rfl rfl rfl rfl hl.1 rfl (Nat.le_of_ble_eq_true rfl) dX1_cutDown_8 ⟨(Nat.le_of_ble_eq_true rfl), (Nat.le_of_ble_eq_true rfl)⟩) (fun _ => rfl) (fun r_8 u_8 H locs hw_8 hP hD hS => ?_)
  have hP : va_P D vwCl (wBeds cA h u n B ch) H := hP
  have hD : va_D A (wBeds cA h u n B ch) := hD
  obtain rfl : r_8 = sgiv B k := hw_8
  refine lv_istore_n (lv' := [(3, .int (sgiv B k)), (2, .int (given B k)), (0, .ref h), (1, .int (nI k))]) hx hb dX1_cutDown_11 rfl hl (by decide) rfl (fun ls hl => ?_)
  refine lv_aload_n hx hb dX1_cutDown_12 rfl (lv_at hl 2 rfl) ?_
  refine va_get (D := D) (ci := 1) (v := .ref (u 4)) (C := RX1) (T := TX1) (N := 10) hx hb hts hwX1 hown hE.K hP 0 rfl rfl 5 (by decide) (hts (.fieldLink RX1 24 "SedgeBarges$Beds" "untiedSedge" "[I") (List.mem_of_getElem? (i := 1) rfl)) (fun _ h9 => h9) rfl dX1_cutDown_13 ?_
  refine lv_iload_n hx hb dX1_cutDown_16 rfl (lv_at hl 3 rfl) ?_
  refine lv_dup2_11 hx hb dX1_cutDown_17 rfl rfl ?_
  refine r_ald (f := B 4) (v := (B 4) k) hx hb hE hP 5 (k) rfl rfl (by omega) (by decide) rfl dX1_cutDown_18 ?_
  refine lv_iload_n hx hb dX1_cutDown_19 rfl (lv_at hl 0 rfl) ?_
  refine lv_iadd hx hb dX1_cutDown_20 ?_
  refine lv_topi (fun z_1 hz_1 => ?_)
  refine r_ast (f := B 4) (g := upd (B 4) k z_1) hx hb hE hP hD hS 5 (k) rfl rfl (by omega) (by decide) rfl dX1_cutDown_21 (fun H locs hP hD hS => ?_)
  have hP : va_P D vwCl (wBeds cA h u n (st B 4 k z_1) ch) H := hP
  have hD : va_D A (wBeds cA h u n (st B 4 k z_1) ch) := hD
  generalize hB_2 : st B 4 k z_1 = B_2 at hP hD
  refine lv_aload_n hx hb dX1_cutDown_22 rfl (lv_at hl 2 rfl) ?_
  refine va_get (D := D) (ci := 1) (v := .ref (u 5)) (C := RX1) (T := TX1) (N := 10) hx hb hts hwX1 hown hE.K hP 0 rfl rfl 6 (by decide) (hts (.fieldLink RX1 27 "SedgeBarges$Beds" "untiedReed" "[I") (List.mem_of_getElem? (i := 2) rfl)) (fun _ h9 => h9) rfl dX1_cutDown_23 ?_
  refine lv_iload_n hx hb dX1_cutDown_26 rfl (lv_at hl 3 rfl) ?_
  refine lv_dup2_11 hx hb dX1_cutDown_27 rfl rfl ?_
  refine r_ald (f := B_2 5) (v := B 5 k) hx hb hE hP 6 (k) rfl rfl (by omega) (by decide) (st_colE hB_2 (by decide)) dX1_cutDown_28 ?_
  refine lv_iload_n hx hb dX1_cutDown_29 rfl (lv_at hl 1 rfl) ?_
  refine lv_iload_n hx hb dX1_cutDown_30 rfl (lv_at hl 0 rfl) ?_
  refine lv_isub hx hb dX1_cutDown_31 ?_
  refine lv_iadd hx hb dX1_cutDown_32 ?_
  refine lv_topi (fun z_3 hz_3 => ?_)
  refine r_ast (f := B_2 5) (g := upd (B_2 5) k z_3) hx hb hE hP hD hS 6 (k) rfl rfl (by omega) (by decide) rfl dX1_cutDown_33 (fun H locs hP hD hS => ?_)
  have hP : va_P D vwCl (wBeds cA h u n (st B_2 5 k z_3) ch) H := hP
  have hD : va_D A (wBeds cA h u n (st B_2 5 k z_3) ch) := hD
  generalize hB_4 : st B_2 5 k z_3 = B_4 at hP hD
  refine lv_aload_n hx hb dX1_cutDown_34 rfl (lv_at hl 2 rfl) ?_
  refine va_get (D := D) (ci := 1) (v := .ref (u 2)) (C := RX1) (T := TX1) (N := 10) hx hb hts hwX1 hown hE.K hP 0 rfl rfl 3 (by decide) (hts (.fieldLink RX1 18 "SedgeBarges$Beds" "age" "[I") (List.mem_of_getElem? (i := 3) rfl)) (fun _ h9 => h9) rfl dX1_cutDown_35 ?_
  refine lv_iload_n hx hb dX1_cutDown_38 rfl (lv_at hl 3 rfl) ?_
  refine lv_iconst (v := 0) hx hb dX1_cutDown_39 (by decide) ?_
  refine r_ast (f := B_4 2) (g := upd (B_4 2) k 0) hx hb hE hP hD hS 3 (k) rfl rfl (by omega) (by decide) rfl dX1_cutDown_40 (fun H locs hP hD hS => ?_)
  have hP : va_P D vwCl (wBeds cA h u n (st B_4 2 k 0) ch) H := hP
  have hD : va_D A (wBeds cA h u n (st B_4 2 k 0) ch) := hD
  generalize hB_5 : st B_4 2 k 0 = B_5 at hP hD
  refine lv_iload_n hx hb dX1_cutDown_41 rfl (lv_at hl 1 rfl) ?_
  subst hB_5
  subst hB_4
  subst hz_3
  subst hB_2
  subst hz_1
  exact enI () hx hb hr hlocks hS hP (rfl) dX1_cutDown_42
set_option maxRecDepth 100000 in
set_option maxHeartbeats 4000000 in
theorem c_Beds_tieUp (sa : Nat × Nat × (Nat → Int32)) (tb : Nat → Nat) (D : va_G) (cA cL : ClassId) (l : Launch) (h : Nat) (u : Nat → Nat) (n : Nat) (B : Nat → Nat → Int32) (ch : Nat → Int32) (k : Nat) (ti : Int32) (hk : k < 8) : KM sa tb D cA cL l yX1_tieUp wsX1_tieUp ({ frames := 1, cells := 0, slots := 0, locals := 24 }) [.ref h, .int (nI k), .int ti] (wBeds cA h u n B ch) (qI D (fun (r : Int32) (_ : Unit) => r = tieS B k ti + tieR B k ti) (fun _ => wBeds cA h u n (tieB B k ti) ch)) := by
  refine KM.of (cc := cX1_tieUp) (maxL := 5) (ret := some .int) (by decide) rfl (Nat.le_of_ble_eq_true rfl) ?_
  intro pg e s m args below meth c A hx hb hr hml hlocks hts hown hS hA hE hP hD ls hl
  have hown : s.vm.findClass RX1 = some m.cls := hown
  have hl : lv_has ls 5 [(0, .ref h), (1, .int (nI k)), (2, .int ti)] := hl
  have hwX1 : ∀ w ∈ wsX10, w ∈ wsX1_tieUp := (fun _ h => List.mem_cons_of_mem _ (List.mem_append_right _ h))
  refine lv_aload_n hx hb dX1_tieUp_0 rfl (lv_at hl 0 rfl) ?_
  refine va_get (D := D) (ci := 1) (v := .ref (u 4)) (C := RX1) (T := TX1) (N := 10) hx hb hts hwX1 hown hE.K hP 0 rfl rfl 5 (by decide) (hts (.fieldLink RX1 24 "SedgeBarges$Beds" "untiedSedge" "[I") (List.mem_of_getElem? (i := 1) rfl)) (fun _ h9 => h9) rfl dX1_tieUp_1 ?_
  refine lv_iload_n hx hb dX1_tieUp_4 rfl (lv_at hl 1 rfl) ?_
  refine r_ald (f := B 4) (v := (B 4) k) hx hb hE hP 5 (k) rfl rfl (by omega) (by decide) rfl dX1_tieUp_5 ?_
  refine lv_iload_n hx hb dX1_tieUp_6 rfl (lv_at hl 2 rfl) ?_
  refine r_mmin hx hb (hml.trans hl.1.symm) hown (hts (.methodLink RX1 53 Lib.Math.min.name) (List.mem_of_getElem? (i := 2) rfl)) (hts (.static Lib.Math.min.name) (List.mem_of_getElem? (i := 3) rfl)) (hts (.initialized "java/lang/Math") (List.mem_of_getElem? (i := 4) rfl)) (hts (.code Lib.Math.min.name Lib.Math.min.code 2 (some .int)) (List.mem_of_getElem? (i := 5) rfl)) (Nat.le_of_ble_eq_true rfl) (Nat.le_of_ble_eq_true rfl) (Nat.le_of_ble_eq_true rfl) (Nat.le_of_ble_eq_true rfl) dX1_tieUp_7 ?_
  refine lv_topi (fun z_1 hz_1 => ?_)
  refine lv_istore_n (lv' := [(3, .int z_1), (0, .ref h), (1, .int (nI k)), (2, .int ti)]) hx hb dX1_tieUp_10 rfl hl (by decide) rfl (fun ls hl => ?_)
  refine lv_aload_n hx hb dX1_tieUp_11 rfl (lv_at hl 1 rfl) ?_
  refine va_get (D := D) (ci := 1) (v := .ref (u 5)) (C := RX1) (T := TX1) (N := 10) hx hb hts hwX1 hown hE.K hP 0 rfl rfl 6 (by decide) (hts (.fieldLink RX1 27 "SedgeBarges$Beds" "untiedReed" "[I") (List.mem_of_getElem? (i := 6) rfl)) (fun _ h9 => h9) rfl dX1_tieUp_12 ?_
  refine lv_iload_n hx hb dX1_tieUp_15 rfl (lv_at hl 2 rfl) ?_
  refine r_ald (f := B 5) (v := (B 5) k) hx hb hE hP 6 (k) rfl rfl (by omega) (by decide) rfl dX1_tieUp_16 ?_
  refine lv_iload_n hx hb dX1_tieUp_17 rfl (lv_at hl 3 rfl) ?_
  refine lv_iload_n hx hb dX1_tieUp_18 rfl (lv_at hl 0 rfl) ?_
  refine lv_isub hx hb dX1_tieUp_19 ?_
  refine r_mmin hx hb (hml.trans hl.1.symm) hown (hts (.methodLink RX1 53 Lib.Math.min.name) (List.mem_of_getElem? (i := 2) rfl)) (hts (.static Lib.Math.min.name) (List.mem_of_getElem? (i := 3) rfl)) (hts (.initialized "java/lang/Math") (List.mem_of_getElem? (i := 4) rfl)) (hts (.code Lib.Math.min.name Lib.Math.min.code 2 (some .int)) (List.mem_of_getElem? (i := 5) rfl)) (Nat.le_of_ble_eq_true rfl) (Nat.le_of_ble_eq_true rfl) (Nat.le_of_ble_eq_true rfl) (Nat.le_of_ble_eq_true rfl) dX1_tieUp_20 ?_
  refine lv_topi (fun z_2 hz_2 => ?_)
  refine lv_istore (lv' := [(4, .int z_2), (3, .int z_1), (0, .ref h), (1, .int (nI k)), (2, .int ti)]) hx hb dX1_tieUp_23 hl (by decide) rfl (fun ls hl => ?_)
  refine lv_aload_n hx hb dX1_tieUp_25 rfl (lv_at hl 2 rfl) ?_
  refine va_get (D := D) (ci := 1) (v := .ref (u 4)) (C := RX1) (T := TX1) (N := 10) hx hb hts hwX1 hown hE.K hP 0 rfl rfl 5 (by decide) (hts (.fieldLink RX1 24 "SedgeBarges$Beds" "untiedSedge" "[I") (List.mem_of_getElem? (i := 1) rfl)) (fun _ h9 => h9) rfl dX1_tieUp_26 ?_
  refine lv_iload_n hx hb dX1_tieUp_29 rfl (lv_at hl 3 rfl) ?_
  refine lv_dup2_11 hx hb dX1_tieUp_30 rfl rfl ?_
  refine r_ald (f := B 4) (v := (B 4) k) hx hb hE hP 5 (k) rfl rfl (by omega) (by decide) rfl dX1_tieUp_31 ?_
  refine lv_iload_n hx hb dX1_tieUp_32 rfl (lv_at hl 1 rfl) ?_
  refine lv_isub hx hb dX1_tieUp_33 ?_
  refine lv_topi (fun z_3 hz_3 => ?_)
  refine r_ast (f := B 4) (g := upd (B 4) k z_3) hx hb hE hP hD hS 5 (k) rfl rfl (by omega) (by decide) rfl dX1_tieUp_34 (fun H locs hP hD hS => ?_)
  have hP : va_P D vwCl (wBeds cA h u n (st B 4 k z_3) ch) H := hP
  have hD : va_D A (wBeds cA h u n (st B 4 k z_3) ch) := hD
  generalize hB_4 : st B 4 k z_3 = B_4 at hP hD
  refine lv_aload_n hx hb dX1_tieUp_35 rfl (lv_at hl 2 rfl) ?_
  refine va_get (D := D) (ci := 1) (v := .ref (u 5)) (C := RX1) (T := TX1) (N := 10) hx hb hts hwX1 hown hE.K hP 0 rfl rfl 6 (by decide) (hts (.fieldLink RX1 27 "SedgeBarges$Beds" "untiedReed" "[I") (List.mem_of_getElem? (i := 6) rfl)) (fun _ h9 => h9) rfl dX1_tieUp_36 ?_
  refine lv_iload_n hx hb dX1_tieUp_39 rfl (lv_at hl 3 rfl) ?_
  refine lv_dup2_11 hx hb dX1_tieUp_40 rfl rfl ?_
  refine r_ald (f := B_4 5) (v := B 5 k) hx hb hE hP 6 (k) rfl rfl (by omega) (by decide) (st_colE hB_4 (by decide)) dX1_tieUp_41 ?_
  refine lv_iload hx hb dX1_tieUp_42 (lv_at hl 0 rfl) ?_
  refine lv_isub hx hb dX1_tieUp_44 ?_
  refine lv_topi (fun z_5 hz_5 => ?_)
  refine r_ast (f := B_4 5) (g := upd (B_4 5) k z_5) hx hb hE hP hD hS 6 (k) rfl rfl (by omega) (by decide) rfl dX1_tieUp_45 (fun H locs hP hD hS => ?_)
  have hP : va_P D vwCl (wBeds cA h u n (st B_4 5 k z_5) ch) H := hP
  have hD : va_D A (wBeds cA h u n (st B_4 5 k z_5) ch) := hD
  generalize hB_6 : st B_4 5 k z_5 = B_6 at hP hD
  refine lv_aload_n hx hb dX1_tieUp_46 rfl (lv_at hl 2 rfl) ?_
  refine va_get (D := D) (ci := 1) (v := .ref (u 6)) (C := RX1) (T := TX1) (N := 10) hx hb hts hwX1 hown hE.K hP 0 rfl rfl 7 (by decide) (hts (.fieldLink RX1 30 "SedgeBarges$Beds" "tiedSedge" "[I") (List.mem_of_getElem? (i := 7) rfl)) (fun _ h9 => h9) rfl dX1_tieUp_47 ?_
  refine lv_iload_n hx hb dX1_tieUp_50 rfl (lv_at hl 3 rfl) ?_
  refine lv_dup2_11 hx hb dX1_tieUp_51 rfl rfl ?_
  refine r_ald (f := B_6 6) (v := B 6 k) hx hb hE hP 7 (k) rfl rfl (by omega) (by decide) ((st_colE hB_6 (by decide)).trans (st_colE hB_4 (by decide))) dX1_tieUp_52 ?_
  refine lv_iload_n hx hb dX1_tieUp_53 rfl (lv_at hl 1 rfl) ?_
  refine lv_iadd hx hb dX1_tieUp_54 ?_
  refine lv_topi (fun z_7 hz_7 => ?_)
  refine r_ast (f := B_6 6) (g := upd (B_6 6) k z_7) hx hb hE hP hD hS 7 (k) rfl rfl (by omega) (by decide) rfl dX1_tieUp_55 (fun H locs hP hD hS => ?_)
  have hP : va_P D vwCl (wBeds cA h u n (st B_6 6 k z_7) ch) H := hP
  have hD : va_D A (wBeds cA h u n (st B_6 6 k z_7) ch) := hD
  generalize hB_8 : st B_6 6 k z_7 = B_8 at hP hD
  refine lv_aload_n hx hb dX1_tieUp_56 rfl (lv_at hl 2 rfl) ?_
  refine va_get (D := D) (ci := 1) (v := .ref (u 7)) (C := RX1) (T := TX1) (N := 10) hx hb hts hwX1 hown hE.K hP 0 rfl rfl 8 (by decide) (hts (.fieldLink RX1 33 "SedgeBarges$Beds" "tiedReed" "[I") (List.mem_of_getElem? (i := 8) rfl)) (fun _ h9 => h9) rfl dX1_tieUp_57 ?_
  refine lv_iload_n hx hb dX1_tieUp_60 rfl (lv_at hl 3 rfl) ?_
  refine lv_dup2_11 hx hb dX1_tieUp_61 rfl rfl ?_
  refine r_ald (f := B_8 7) (v := B 7 k) hx hb hE hP 8 (k) rfl rfl (by omega) (by decide) ((st_colE hB_8 (by decide)).trans ((st_colE hB_6 (by decide)).trans (st_colE hB_4 (by decide)))) dX1_tieUp_62 ?_
  refine lv_iload hx hb dX1_tieUp_63 (lv_at hl 0 rfl) ?_
  refine lv_iadd hx hb dX1_tieUp_65 ?_
  refine lv_topi (fun z_9 hz_9 => ?_)
  refine r_ast (f := B_8 7) (g := upd (B_8 7) k z_9) hx hb hE hP hD hS 8 (k) rfl rfl (by omega) (by decide) rfl dX1_tieUp_66 (fun H locs hP hD hS => ?_)
  have hP : va_P D vwCl (wBeds cA h u n (st B_8 7 k z_9) ch) H := hP
  have hD : va_D A (wBeds cA h u n (st B_8 7 k z_9) ch) := hD
  generalize hB_10 : st B_8 7 k z_9 = B_10 at hP hD
  refine lv_iload_n hx hb dX1_tieUp_67 rfl (lv_at hl 1 rfl) ?_
  refine lv_iload hx hb dX1_tieUp_68 (lv_at hl 0 rfl) ?_
  refine lv_iadd hx hb dX1_tieUp_70 ?_
  subst hB_10
  subst hz_9
  subst hB_8
  subst hz_7
  subst hB_6
  subst hz_5
  subst hB_4
  subst hz_3
  subst hz_2
  subst hz_1
  have hW_B : tieB B k ti = (st (st (st (st B 4 k (((B 4) k) - (imin ((B 4) k) ti))) 5 k ((B 5 k) - (imin ((B 5) k) (ti - (imin ((B 4) k) ti))))) 6 k ((B 6 k) + (imin ((B 4) k) ti))) 7 k ((B 7 k) + (imin ((B 5) k) (ti - (imin ((B 4) k) ti))))) := by unfold tieB tieR tieS; rfl
  rw [← hW_B] at hP
  exact enI () hx hb hr hlocks hS hP (by unfold tieR tieS; rfl) dX1_tieUp_71
set_option maxRecDepth 100000 in
set_option maxHeartbeats 4000000 in
theorem c_Beds_add (sa : Nat × Nat × (Nat → Int32)) (tb : Nat → Nat) (D : va_G) (cA cL : ClassId) (l : Launch) (h : Nat) (u : Nat → Nat) (n : Nat) (B : Nat → Nat → Int32) (ch : Nat → Int32) (p1 : Int32) (p2 : Int32) (p3 : Int32) (hn : n < 8) : KM sa tb D cA cL l yX1_add wsX1_add ({ frames := 0, cells := 0, slots := 0, locals := 0 }) [.ref h, .int p1, .int p2, .int p3] (wBeds cA h u n B ch) (qI D (fun (r : Int32) (_ : Unit) => r = nI n) (fun _ => wBeds cA h u (n + 1) (addB B n p1 p2 p3) ch)) := by
  refine KM.of (cc := cX1_add) (maxL := 5) (ret := some .int) (by decide) rfl (Nat.le_of_ble_eq_true rfl) ?_
  intro pg e s m args below meth c A hx hb hr hml hlocks hts hown hS hA hE hP hD ls hl
  have hown : s.vm.findClass RX1 = some m.cls := hown
  have hl : lv_has ls 5 [(0, .ref h), (1, .int p1), (2, .int p2), (3, .int p3)] := hl
  have hwX1 : ∀ w ∈ wsX10, w ∈ wsX1_add := (fun _ h => List.mem_cons_of_mem _ (List.mem_append_right _ h))
  refine lv_aload_n hx hb dX1_add_0 rfl (lv_at hl 0 rfl) ?_
  refine va_get (D := D) (ci := 1) (v := .int (nI n)) (C := RX1) (T := TX1) (N := 10) hx hb hts hwX1 hown hE.K hP 0 rfl rfl 0 (by decide) (hts (.fieldLink RX1 39 "SedgeBarges$Beds" "number" "I") (List.mem_of_getElem? (i := 1) rfl)) (fun _ h9 => h9) rfl dX1_add_1 ?_
  refine lv_istore (lv' := [(4, .int (nI n)), (0, .ref h), (1, .int p1), (2, .int p2), (3, .int p3)]) hx hb dX1_add_4 hl (by decide) rfl (fun ls hl => ?_)
  refine lv_aload_n hx hb dX1_add_6 rfl (lv_at hl 1 rfl) ?_
  refine va_get (D := D) (ci := 1) (v := .ref (u 0)) (C := RX1) (T := TX1) (N := 10) hx hb hts hwX1 hown hE.K hP 0 rfl rfl 1 (by decide) (hts (.fieldLink RX1 9 "SedgeBarges$Beds" "place" "[I") (List.mem_of_getElem? (i := 2) rfl)) (fun _ h9 => h9) rfl dX1_add_7 ?_
  refine lv_iload hx hb dX1_add_10 (lv_at hl 0 rfl) ?_
  refine lv_iload_n hx hb dX1_add_12 rfl (lv_at hl 2 rfl) ?_
  refine r_ast (f := B 0) (g := upd (B 0) n p1) hx hb hE hP hD hS 1 (n) rfl rfl (by omega) (by decide) rfl dX1_add_13 (fun H locs hP hD hS => ?_)
  have hP : va_P D vwCl (wBeds cA h u n (st B 0 n p1) ch) H := hP
  have hD : va_D A (wBeds cA h u n (st B 0 n p1) ch) := hD
  generalize hB_1 : st B 0 n p1 = B_1 at hP hD
  refine lv_aload_n hx hb dX1_add_14 rfl (lv_at hl 1 rfl) ?_
  refine va_get (D := D) (ci := 1) (v := .ref (u 1)) (C := RX1) (T := TX1) (N := 10) hx hb hts hwX1 hown hE.K hP 0 rfl rfl 2 (by decide) (hts (.fieldLink RX1 15 "SedgeBarges$Beds" "size" "[I") (List.mem_of_getElem? (i := 3) rfl)) (fun _ h9 => h9) rfl dX1_add_15 ?_
  refine lv_iload hx hb dX1_add_18 (lv_at hl 0 rfl) ?_
  refine lv_iload_n hx hb dX1_add_20 rfl (lv_at hl 3 rfl) ?_
  refine r_ast (f := B_1 1) (g := upd (B_1 1) n p2) hx hb hE hP hD hS 2 (n) rfl rfl (by omega) (by decide) rfl dX1_add_21 (fun H locs hP hD hS => ?_)
  have hP : va_P D vwCl (wBeds cA h u n (st B_1 1 n p2) ch) H := hP
  have hD : va_D A (wBeds cA h u n (st B_1 1 n p2) ch) := hD
  generalize hB_2 : st B_1 1 n p2 = B_2 at hP hD
  refine lv_aload_n hx hb dX1_add_22 rfl (lv_at hl 1 rfl) ?_
  refine va_get (D := D) (ci := 1) (v := .ref (u 2)) (C := RX1) (T := TX1) (N := 10) hx hb hts hwX1 hown hE.K hP 0 rfl rfl 3 (by decide) (hts (.fieldLink RX1 18 "SedgeBarges$Beds" "age" "[I") (List.mem_of_getElem? (i := 4) rfl)) (fun _ h9 => h9) rfl dX1_add_23 ?_
  refine lv_iload hx hb dX1_add_26 (lv_at hl 0 rfl) ?_
  refine lv_iconst (v := 3) hx hb dX1_add_28 (by decide) ?_
  refine r_ast (f := B_2 2) (g := upd (B_2 2) n 3) hx hb hE hP hD hS 3 (n) rfl rfl (by omega) (by decide) rfl dX1_add_29 (fun H locs hP hD hS => ?_)
  have hP : va_P D vwCl (wBeds cA h u n (st B_2 2 n 3) ch) H := hP
  have hD : va_D A (wBeds cA h u n (st B_2 2 n 3) ch) := hD
  generalize hB_3 : st B_2 2 n 3 = B_3 at hP hD
  refine lv_aload_n hx hb dX1_add_30 rfl (lv_at hl 1 rfl) ?_
  refine va_get (D := D) (ci := 1) (v := .ref (u 3)) (C := RX1) (T := TX1) (N := 10) hx hb hts hwX1 hown hE.K hP 0 rfl rfl 4 (by decide) (hts (.fieldLink RX1 21 "SedgeBarges$Beds" "sedge" "[I") (List.mem_of_getElem? (i := 5) rfl)) (fun _ h9 => h9) rfl dX1_add_31 ?_
  refine lv_iload hx hb dX1_add_34 (lv_at hl 0 rfl) ?_
  refine lv_iload_n hx hb dX1_add_36 rfl (lv_at hl 4 rfl) ?_
  refine r_ast (f := B_3 3) (g := upd (B_3 3) n p3) hx hb hE hP hD hS 4 (n) rfl rfl (by omega) (by decide) rfl dX1_add_37 (fun H locs hP hD hS => ?_)
  have hP : va_P D vwCl (wBeds cA h u n (st B_3 3 n p3) ch) H := hP
  have hD : va_D A (wBeds cA h u n (st B_3 3 n p3) ch) := hD
  generalize hB_4 : st B_3 3 n p3 = B_4 at hP hD
  refine lv_aload_n hx hb dX1_add_38 rfl (lv_at hl 1 rfl) ?_
  refine lv_dup hx hb dX1_add_39 rfl ?_
  refine va_get (D := D) (ci := 1) (v := .int (nI n)) (C := RX1) (T := TX1) (N := 10) hx hb hts hwX1 hown hE.K hP 0 rfl rfl 0 (by decide) (hts (.fieldLink RX1 39 "SedgeBarges$Beds" "number" "I") (List.mem_of_getElem? (i := 1) rfl)) (fun _ h9 => h9) rfl dX1_add_40 ?_
  refine lv_iconst (v := 1) hx hb dX1_add_43 (by decide) ?_
  refine rn_add (a := n) (b := 1) hx hb dX1_add_44 ?_
  refine va_put (D := D) (ci := 1) (v := .int (nI (n + 1))) (ty := .int) (C := RX1) (T := TX1) (N := 10) hx hb hts hwX1 tyX1 tyX1_ok nmX1 hown hE.K hP hD hS 0 rfl rfl 0 (by decide) (hts (.fieldLink RX1 39 "SedgeBarges$Beds" "number" "I") (List.mem_of_getElem? (i := 1) rfl)) (fun _ h9 => h9) rfl (by decide +kernel) rfl rfl (Nat.le_of_ble_eq_true rfl) dX1_add_45 (fun H locs hP hD hS => ?_)
  have hP : va_P D vwCl (wBeds cA h u (n + 1) B_4 ch) H := hP
  have hD : va_D A (wBeds cA h u (n + 1) B_4 ch) := hD
  refine lv_iload hx hb dX1_add_48 (lv_at hl 0 rfl) ?_
  subst hB_4
  subst hB_3
  subst hB_2
  subst hB_1
  exact enI () hx hb hr hlocks hS hP (rfl) dX1_add_50
set_option maxRecDepth 100000 in
set_option maxHeartbeats 4000000 in
theorem c_Beds_rot (sa : Nat × Nat × (Nat → Int32)) (tb : Nat → Nat) (D : va_G) (cA cL : ClassId) (l : Launch) (h : Nat) (u : Nat → Nat) (n : Nat) (B : Nat → Nat → Int32) (ch : Nat → Int32) (hn : n ≤ 8) : KM sa tb D cA cL l yX1_rot wsX1_rot ({ frames := 1, cells := 0, slots := 0, locals := 20 }) [.ref h] (wBeds cA h u n B ch) (qI D (fun (r : Int32) (_ : Unit) => r = sumF (rotF B) n) (fun _ => wBeds cA h u n (rotB n B) ch)) := by
  refine KM.of (cc := cX1_rot) (maxL := 5) (ret := some .int) (by decide) rfl (Nat.le_of_ble_eq_true rfl) ?_
  intro pg e s m args below meth c A hx hb hr hml hlocks hts hown hS hA hE hP hD ls hl
  have hown : s.vm.findClass RX1 = some m.cls := hown
  have hl : lv_has ls 5 [(0, .ref h)] := hl
  have hwX1 : ∀ w ∈ wsX10, w ∈ wsX1_rot := (fun _ h => List.mem_cons_of_mem _ (List.mem_append_right _ h))
  refine lv_iconst (v := 0) hx hb dX1_rot_0 (by decide) ?_
  refine lv_istore_n (lv' := [(1, .int 0), (0, .ref h)]) hx hb dX1_rot_1 rfl hl (by decide) rfl (fun ls hl => ?_)
  refine lv_iconst (v := 0) hx hb dX1_rot_2 (by decide) ?_
  refine lv_istore_n (lv' := [(2, .int 0), (1, .int 0), (0, .ref h)]) hx hb dX1_rot_3 rfl hl (by decide) rfl (fun ls hl => ?_)
  have loop_4 : ∀ (f_4 : Nat) (i : Nat) (acc : Int32) (Bx : Nat → Nat → Int32), (n - i) < f_4 → (i ≤ n) → (acc = sumF (rotF B) i) → (Bx = mapC rotC i B) → ∀ (H : Heap) (locs : List Loc), va_P D vwCl (wBeds cA h u n Bx ch) H → va_D A (wBeds cA h u n Bx ch) → va_S A s.heap H locs → ∀ ls : Array Slot, lv_has ls 5 [(0, .ref h), (1, .int acc), (2, .int (nI i))] → W pg l e ({ frames := 1, cells := 0, slots := 0, locals := 20 }) s m args below meth c H locs 0 0 (MQ below (qI D (fun (r : Int32) (_ : Unit) => r = sumF (rotF B) n) (fun _ => wBeds cA h u n (rotB n B) ch) A) args s 0 0 A) (F0 m 4 ls []) := by
    intro f_4
    induction f_4 with
    | zero => intro i acc Bx h_f; exact absurd h_f (Nat.not_lt_zero _)
    | succ f_4 ih_4 =>
      intro i acc Bx h_f4 hi hacc hB H locs hP hD hS ls hl
      refine lv_iload_n hx hb dX1_rot_4 rfl (lv_at hl 2 rfl) ?_
      refine lv_aload_n hx hb dX1_rot_5 rfl (lv_at hl 0 rfl) ?_
      refine va_get (D := D) (ci := 1) (v := .int (nI n)) (C := RX1) (T := TX1) (N := 10) hx hb hts hwX1 hown hE.K hP 0 rfl rfl 0 (by decide) (hts (.fieldLink RX1 39 "SedgeBarges$Beds" "number" "I") (List.mem_of_getElem? (i := 1) rfl)) (fun _ h9 => h9) rfl dX1_rot_6 ?_
      refine rc_ge (tgt := 67) (a := i) (b := n) hx hb (by omega) (by omega) dX1_rot_9 (by decide) (fun c_9 => ?_) (fun c_9 => ?_)
      · refine lv_iload_n hx hb dX1_rot_67 rfl (lv_at hl 1 rfl) ?_
        rw [show i = n from by omega] at hB hacc
        subst hB
        exact enI () hx hb hr hlocks hS hP (hacc) dX1_rot_68
      · refine lv_aload_n hx hb dX1_rot_12 rfl (lv_at hl 0 rfl) ?_
        refine va_get (D := D) (ci := 1) (v := .ref (u 4)) (C := RX1) (T := TX1) (N := 10) hx hb hts hwX1 hown hE.K hP 0 rfl rfl 5 (by decide) (hts (.fieldLink RX1 24 "SedgeBarges$Beds" "untiedSedge" "[I") (List.mem_of_getElem? (i := 2) rfl)) (fun _ h9 => h9) rfl dX1_rot_13 ?_
        refine lv_iload_n hx hb dX1_rot_16 rfl (lv_at hl 2 rfl) ?_
        refine r_ald (f := Bx 4) (v := (Bx 4) i) hx hb hE hP 5 (i) rfl rfl (by omega) (by decide) rfl dX1_rot_17 ?_
        refine goI ([]) (wBeds cA h u n Bx ch) hP hD hS hA (rnSN (rest := []) (c_tenth sa tb D cA cL l ((Bx 4) i) ) ([]) (wBeds cA h u n Bx ch) hP hD hS hA hE ⟨hx, hb, hml, hown, hts⟩ ⟨va_cnB 1 hts gX1_rot_X4_tenthRoundedUp_n59 rfl rfl rfl (nm_2 hE) (hts (.initialized RX4) (List.mem_of_getElem? (i := 5) rfl)) (by decide +kernel) ⟨(Nat.le_of_ble_eq_true rfl), (Nat.le_of_ble_eq_true rfl)⟩, hts (.static yX4_tenthRoundedUp) (List.mem_of_getElem? (i := 4) rfl), trivial⟩ rfl hl.1 rfl (Nat.le_of_ble_eq_true rfl) dX1_rot_18 ⟨(Nat.le_of_ble_eq_true rfl), (Nat.le_of_ble_eq_true rfl)⟩) (fun _ => rfl) (fun r_18 u_18 H locs hw_18 hP hD hS => ?_)
        have hP : va_P D vwCl (wBeds cA h u n Bx ch) H := hP
        have hD : va_D A (wBeds cA h u n Bx ch) := hD
        obtain rfl : r_18 = tenth ((Bx 4) i) := hw_18
        refine lv_istore_n (lv' := [(3, .int (tenth ((Bx 4) i))), (0, .ref h), (1, .int acc), (2, .int (nI i))]) hx hb dX1_rot_21 rfl hl (by decide) rfl (fun ls hl => ?_)
        refine lv_aload_n hx hb dX1_rot_22 rfl (lv_at hl 1 rfl) ?_
        refine va_get (D := D) (ci := 1) (v := .ref (u 5)) (C := RX1) (T := TX1) (N := 10) hx hb hts hwX1 hown hE.K hP 0 rfl rfl 6 (by decide) (hts (.fieldLink RX1 27 "SedgeBarges$Beds" "untiedReed" "[I") (List.mem_of_getElem? (i := 3) rfl)) (fun _ h9 => h9) rfl dX1_rot_23 ?_
        refine lv_iload_n hx hb dX1_rot_26 rfl (lv_at hl 3 rfl) ?_
        refine r_ald (f := Bx 5) (v := (Bx 5) i) hx hb hE hP 6 (i) rfl rfl (by omega) (by decide) rfl dX1_rot_27 ?_
        refine goI ([]) (wBeds cA h u n Bx ch) hP hD hS hA (rnSN (rest := []) (c_tenth sa tb D cA cL l ((Bx 5) i) ) ([]) (wBeds cA h u n Bx ch) hP hD hS hA hE ⟨hx, hb, hml, hown, hts⟩ ⟨va_cnB 1 hts gX1_rot_X4_tenthRoundedUp_n59 rfl rfl rfl (nm_2 hE) (hts (.initialized RX4) (List.mem_of_getElem? (i := 5) rfl)) (by decide +kernel) ⟨(Nat.le_of_ble_eq_true rfl), (Nat.le_of_ble_eq_true rfl)⟩, hts (.static yX4_tenthRoundedUp) (List.mem_of_getElem? (i := 4) rfl), trivial⟩ rfl hl.1 rfl (Nat.le_of_ble_eq_true rfl) dX1_rot_28 ⟨(Nat.le_of_ble_eq_true rfl), (Nat.le_of_ble_eq_true rfl)⟩) (fun _ => rfl) (fun r_28 u_28 H locs hw_28 hP hD hS => ?_)
        have hP : va_P D vwCl (wBeds cA h u n Bx ch) H := hP
        have hD : va_D A (wBeds cA h u n Bx ch) := hD
        obtain rfl : r_28 = tenth ((Bx 5) i) := hw_28
        refine lv_istore (lv' := [(4, .int (tenth ((Bx 5) i))), (3, .int (tenth ((Bx 4) i))), (0, .ref h), (1, .int acc), (2, .int (nI i))]) hx hb dX1_rot_31 hl (by decide) rfl (fun ls hl => ?_)
        refine lv_aload_n hx hb dX1_rot_33 rfl (lv_at hl 2 rfl) ?_
        refine va_get (D := D) (ci := 1) (v := .ref (u 4)) (C := RX1) (T := TX1) (N := 10) hx hb hts hwX1 hown hE.K hP 0 rfl rfl 5 (by decide) (hts (.fieldLink RX1 24 "SedgeBarges$Beds" "untiedSedge" "[I") (List.mem_of_getElem? (i := 2) rfl)) (fun _ h9 => h9) rfl dX1_rot_34 ?_
        refine lv_iload_n hx hb dX1_rot_37 rfl (lv_at hl 4 rfl) ?_
        refine lv_dup2_11 hx hb dX1_rot_38 rfl rfl ?_
        refine r_ald (f := Bx 4) (v := (Bx 4) i) hx hb hE hP 5 (i) rfl rfl (by omega) (by decide) rfl dX1_rot_39 ?_
        refine lv_iload_n hx hb dX1_rot_40 rfl (lv_at hl 1 rfl) ?_
        refine lv_isub hx hb dX1_rot_41 ?_
        refine lv_topi (fun z_1 hz_1 => ?_)
        refine r_ast (f := Bx 4) (g := upd (Bx 4) i z_1) hx hb hE hP hD hS 5 (i) rfl rfl (by omega) (by decide) rfl dX1_rot_42 (fun H locs hP hD hS => ?_)
        have hP : va_P D vwCl (wBeds cA h u n (st Bx 4 i z_1) ch) H := hP
        have hD : va_D A (wBeds cA h u n (st Bx 4 i z_1) ch) := hD
        generalize hB_2 : st Bx 4 i z_1 = B_2 at hP hD
        refine lv_aload_n hx hb dX1_rot_43 rfl (lv_at hl 2 rfl) ?_
        refine va_get (D := D) (ci := 1) (v := .ref (u 5)) (C := RX1) (T := TX1) (N := 10) hx hb hts hwX1 hown hE.K hP 0 rfl rfl 6 (by decide) (hts (.fieldLink RX1 27 "SedgeBarges$Beds" "untiedReed" "[I") (List.mem_of_getElem? (i := 3) rfl)) (fun _ h9 => h9) rfl dX1_rot_44 ?_
        refine lv_iload_n hx hb dX1_rot_47 rfl (lv_at hl 4 rfl) ?_
        refine lv_dup2_11 hx hb dX1_rot_48 rfl rfl ?_
        refine r_ald (f := B_2 5) (v := Bx 5 i) hx hb hE hP 6 (i) rfl rfl (by omega) (by decide) (st_colE hB_2 (by decide)) dX1_rot_49 ?_
        refine lv_iload hx hb dX1_rot_50 (lv_at hl 0 rfl) ?_
        refine lv_isub hx hb dX1_rot_52 ?_
        refine lv_topi (fun z_3 hz_3 => ?_)
        refine r_ast (f := B_2 5) (g := upd (B_2 5) i z_3) hx hb hE hP hD hS 6 (i) rfl rfl (by omega) (by decide) rfl dX1_rot_53 (fun H locs hP hD hS => ?_)
        have hP : va_P D vwCl (wBeds cA h u n (st B_2 5 i z_3) ch) H := hP
        have hD : va_D A (wBeds cA h u n (st B_2 5 i z_3) ch) := hD
        generalize hB_4 : st B_2 5 i z_3 = B_4 at hP hD
        refine lv_iload_n hx hb dX1_rot_54 rfl (lv_at hl 3 rfl) ?_
        refine lv_iload_n hx hb dX1_rot_55 rfl (lv_at hl 1 rfl) ?_
        refine lv_iload hx hb dX1_rot_56 (lv_at hl 0 rfl) ?_
        refine lv_iadd hx hb dX1_rot_58 ?_
        refine lv_iadd hx hb dX1_rot_59 ?_
        refine lv_topi (fun z_5 hz_5 => ?_)
        refine lv_istore_n (lv' := [(1, .int z_5), (4, .int (tenth ((Bx 5) i))), (3, .int (tenth ((Bx 4) i))), (0, .ref h), (2, .int (nI i))]) hx hb dX1_rot_60 rfl hl (by decide) rfl (fun ls hl => ?_)
        refine lv_iinc (v := (nI (i + 1))) (lv' := [(2, .int (nI (i + 1))), (1, .int z_5), (4, .int (tenth ((Bx 5) i))), (3, .int (tenth ((Bx 4) i))), (0, .ref h)]) (k := 4) hx hb dX1_rot_61 hl rfl (iinc1 _) (by decide) rfl (fun ls hl => ?_)
        refine lv_goto (tgt := 4) hx hb dX1_rot_64 (by decide) ?_
        subst hz_5
        subst hB_4
        subst hz_3
        subst hB_2
        subst hz_1
        exact ih_4  (i + 1) (acc + ((tenth ((Bx 4) i)) + (tenth ((Bx 5) i)))) (st (st Bx 4 i (((Bx 4) i) - (tenth ((Bx 4) i)))) 5 i ((Bx 5 i) - (tenth ((Bx 5) i)))) (show n - (i + 1) < f_4 from by omega) (show (i + 1) ≤ n from by omega) (show (acc + ((tenth ((Bx 4) i)) + (tenth ((Bx 5) i)))) = sumF (rotF B) (i + 1) from by rw [hacc, hB]; simp only [mapC_ge (Nat.le_refl i), sumF, rotF]) (show (st (st Bx 4 i (((Bx 4) i) - (tenth ((Bx 4) i)))) 5 i ((Bx 5 i) - (tenth ((Bx 5) i)))) = mapC rotC (i + 1) B from by subst hB; exact mapC_step (fun j k hk => by simp only [st_ne hk]) (fun j => by simp only [st_eq, mapC_ge (Nat.le_refl i)]; rfl)) _ _ hP hD hS ls (lv_sub hl [4, 1, 0] rfl)
  exact loop_4 ((n - 0) + 1) 0 0 B (Nat.lt_succ_self _) (show 0 ≤ n from by omega) (show 0 = sumF (rotF B) 0 from rfl) (show B = mapC rotC 0 B from mapC_0.symm) _ _ hP hD hS ls (lv_sub hl [2, 1, 0] rfl)
set_option maxRecDepth 100000 in
set_option maxHeartbeats 4000000 in
theorem c_Beds_changeByAge (sa : Nat × Nat × (Nat → Int32)) (tb : Nat → Nat) (D : va_G) (cA cL : ClassId) (l : Launch) (x : Int32)  : KM sa tb D cA cL l yX1_changeByAge wsX1_changeByAge ({ frames := 0, cells := 0, slots := 0, locals := 0 }) [.int x] ([]) (qI D (fun (r : Int32) (_ : Unit) => r = chgA x) (fun _ => [])) := by
  refine KM.of (cc := cX1_changeByAge) (maxL := 1) (ret := some .int) (by decide) rfl (Nat.le_of_ble_eq_true rfl) ?_
  intro pg e s m args below meth c A hx hb hr hml hlocks hts hown hS hA hE hP hD ls hl
  have hown : s.vm.findClass RX1 = some m.cls := hown
  have hl : lv_has ls 1 [(0, .int x)] := hl
  refine lv_iload_n hx hb dX1_changeByAge_0 rfl (lv_at hl 0 rfl) ?_
  refine lv_bipush (v := 6) hx hb dX1_changeByAge_1 (by decide) ?_
  refine lv_icmp_lt (tgt := 9) hx hb dX1_changeByAge_3 (by decide) (fun c_3 => ?_) (fun c_3 => ?_)
  · refine lv_iload_n hx hb dX1_changeByAge_9 rfl (lv_at hl 0 rfl) ?_
    refine lv_iconst (v := 1) hx hb dX1_changeByAge_10 (by decide) ?_
    refine lv_icmp_lt (tgt := 18) hx hb dX1_changeByAge_11 (by decide) (fun c_11 => ?_) (fun c_11 => ?_)
    · refine lv_iconst (v := 0) hx hb dX1_changeByAge_18 (by decide) ?_
      exact enI () hx hb hr hlocks hS hP (by unfold chgA; first | rw [if_pos (Int32.not_lt.mp c_3)] | rw [if_neg (Int32.not_le.mpr c_3), if_pos (Int32.not_lt.mp c_11)] | rw [if_neg (Int32.not_le.mpr c_3), if_neg (Int32.not_le.mpr c_11)]) dX1_changeByAge_19
    · refine lv_iconst (v := 2) hx hb dX1_changeByAge_14 (by decide) ?_
      refine lv_goto (tgt := 19) hx hb dX1_changeByAge_15 (by decide) ?_
      exact enI () hx hb hr hlocks hS hP (by unfold chgA; first | rw [if_pos (Int32.not_lt.mp c_3)] | rw [if_neg (Int32.not_le.mpr c_3), if_pos (Int32.not_lt.mp c_11)] | rw [if_neg (Int32.not_le.mpr c_3), if_neg (Int32.not_le.mpr c_11)]) dX1_changeByAge_19
  · refine lv_bipush (v := (-6)) hx hb dX1_changeByAge_6 (by decide) ?_
    exact enI () hx hb hr hlocks hS hP (by unfold chgA; first | rw [if_pos (Int32.not_lt.mp c_3)] | rw [if_neg (Int32.not_le.mpr c_3), if_pos (Int32.not_lt.mp c_11)] | rw [if_neg (Int32.not_le.mpr c_3), if_neg (Int32.not_le.mpr c_11)]) dX1_changeByAge_8
set_option maxRecDepth 100000 in
set_option maxHeartbeats 4000000 in
theorem c_Beds_creep (sa : Nat × Nat × (Nat → Int32)) (tb : Nat → Nat) (D : va_G) (cA cL : ClassId) (l : Launch) (h : Nat) (u : Nat → Nat) (n : Nat) (B : Nat → Nat → Int32) (ch : Nat → Int32) (k : Nat) (hk : k < 8) (hn : n ≤ 8) : KM sa tb D cA cL l yX1_isCreptInto wsX1_isCreptInto ({ frames := 1, cells := 0, slots := 0, locals := 24 }) [.ref h, .int (nI k)] (wBeds cA h u n B ch) (qI D (fun (r : Int32) (_ : Unit) => r = bI (crp B k n)) (fun _ => wBeds cA h u n B ch)) := by
  refine KM.of (cc := cX1_isCreptInto) (maxL := 3) (ret := some .boolean) (by decide) rfl (Nat.le_of_ble_eq_true rfl) ?_
  intro pg e s m args below meth c A hx hb hr hml hlocks hts hown hS hA hE hP hD ls hl
  have hown : s.vm.findClass RX1 = some m.cls := hown
  have hl : lv_has ls 3 [(0, .ref h), (1, .int (nI k))] := hl
  have hwX1 : ∀ w ∈ wsX10, w ∈ wsX1_isCreptInto := (fun _ h => List.mem_cons_of_mem _ (List.mem_append_right _ h))
  refine lv_iconst (v := 0) hx hb dX1_isCreptInto_0 (by decide) ?_
  refine lv_istore_n (lv' := [(2, .int 0), (0, .ref h), (1, .int (nI k))]) hx hb dX1_isCreptInto_1 rfl hl (by decide) rfl (fun ls hl => ?_)
  have loop_2 : ∀ (f_2 : Nat) (i : Nat), (n - i) < f_2 → (i ≤ n) → (crp B k i = false) → ∀ (H : Heap) (locs : List Loc), va_P D vwCl (wBeds cA h u n B ch) H → va_D A (wBeds cA h u n B ch) → va_S A s.heap H locs → ∀ ls : Array Slot, lv_has ls 3 [(0, .ref h), (1, .int (nI k)), (2, .int (nI i))] → W pg l e ({ frames := 1, cells := 0, slots := 0, locals := 24 }) s m args below meth c H locs 0 0 (MQ below (qI D (fun (r : Int32) (_ : Unit) => r = bI (crp B k n)) (fun _ => wBeds cA h u n B ch) A) args s 0 0 A) (F0 m 2 ls []) := by
    intro f_2
    induction f_2 with
    | zero => intro i h_f; exact absurd h_f (Nat.not_lt_zero _)
    | succ f_2 ih_2 =>
      intro i h_f2 hi hf H locs hP hD hS ls hl
      refine lv_iload_n hx hb dX1_isCreptInto_2 rfl (lv_at hl 2 rfl) ?_
      refine lv_aload_n hx hb dX1_isCreptInto_3 rfl (lv_at hl 0 rfl) ?_
      refine va_get (D := D) (ci := 1) (v := .int (nI n)) (C := RX1) (T := TX1) (N := 10) hx hb hts hwX1 hown hE.K hP 0 rfl rfl 0 (by decide) (hts (.fieldLink RX1 39 "SedgeBarges$Beds" "number" "I") (List.mem_of_getElem? (i := 1) rfl)) (fun _ h9 => h9) rfl dX1_isCreptInto_4 ?_
      refine rc_ge (tgt := 56) (a := i) (b := n) hx hb (by omega) (by omega) dX1_isCreptInto_7 (by decide) (fun c_7 => ?_) (fun c_7 => ?_)
      · refine lv_iconst (v := 0) hx hb dX1_isCreptInto_56 (by decide) ?_
        exact enZ () hx hb hr hlocks hS hP (by first | rfl | decide) (by first | (rw [crp_yes (B := B) (k := k) (i := i) (by omega) c_27 c_45]; rfl) | (rw [show n = i from by omega, hf]; rfl)) dX1_isCreptInto_57
      · refine lv_aload_n hx hb dX1_isCreptInto_10 rfl (lv_at hl 0 rfl) ?_
        refine va_get (D := D) (ci := 1) (v := .ref (u 0)) (C := RX1) (T := TX1) (N := 10) hx hb hts hwX1 hown hE.K hP 0 rfl rfl 1 (by decide) (hts (.fieldLink RX1 9 "SedgeBarges$Beds" "place" "[I") (List.mem_of_getElem? (i := 2) rfl)) (fun _ h9 => h9) rfl dX1_isCreptInto_11 ?_
        refine lv_iload_n hx hb dX1_isCreptInto_14 rfl (lv_at hl 2 rfl) ?_
        refine r_ald (f := B 0) (v := (B 0) i) hx hb hE hP 1 (i) rfl rfl (by omega) (by decide) rfl dX1_isCreptInto_15 ?_
        refine lv_aload_n hx hb dX1_isCreptInto_16 rfl (lv_at hl 0 rfl) ?_
        refine va_get (D := D) (ci := 1) (v := .ref (u 0)) (C := RX1) (T := TX1) (N := 10) hx hb hts hwX1 hown hE.K hP 0 rfl rfl 1 (by decide) (hts (.fieldLink RX1 9 "SedgeBarges$Beds" "place" "[I") (List.mem_of_getElem? (i := 2) rfl)) (fun _ h9 => h9) rfl dX1_isCreptInto_17 ?_
        refine lv_iload_n hx hb dX1_isCreptInto_20 rfl (lv_at hl 1 rfl) ?_
        refine r_ald (f := B 0) (v := (B 0) k) hx hb hE hP 1 (k) rfl rfl (by omega) (by decide) rfl dX1_isCreptInto_21 ?_
        refine lv_isub hx hb dX1_isCreptInto_22 ?_
        refine r_mabs hx hb (hml.trans hl.1.symm) hown (hts (.methodLink RX1 72 Lib.Math.abs.name) (List.mem_of_getElem? (i := 3) rfl)) (hts (.static Lib.Math.abs.name) (List.mem_of_getElem? (i := 4) rfl)) (hts (.initialized "java/lang/Math") (List.mem_of_getElem? (i := 5) rfl)) (hts (.code Lib.Math.abs.name Lib.Math.abs.code 1 (some .int)) (List.mem_of_getElem? (i := 6) rfl)) (Nat.le_of_ble_eq_true rfl) (Nat.le_of_ble_eq_true rfl) (Nat.le_of_ble_eq_true rfl) (Nat.le_of_ble_eq_true rfl) dX1_isCreptInto_23 ?_
        refine lv_iconst (v := 4) hx hb dX1_isCreptInto_26 (by decide) ?_
        refine lv_icmp_gt (tgt := 50) hx hb dX1_isCreptInto_27 (by decide) (fun c_27 => ?_) (fun c_27 => ?_)
        · refine lv_iinc (v := (nI (i + 1))) (lv' := [(2, .int (nI (i + 1))), (0, .ref h), (1, .int (nI k))]) (k := 2) hx hb dX1_isCreptInto_50 hl rfl (iinc1 _) (by decide) rfl (fun ls hl => ?_)
          refine lv_goto (tgt := 2) hx hb dX1_isCreptInto_53 (by decide) ?_
          exact ih_2  (i + 1) (show n - (i + 1) < f_2 from by omega) (show (i + 1) ≤ n from by omega) (show crp B k (i + 1) = false from by first | exact crp_no (B := B) (k := k) (i := i) hf (Or.inl c_27) | exact crp_no (B := B) (k := k) (i := i) hf (Or.inr c_45)) _ _ hP hD hS ls (lv_sub hl [1, 2, 0] rfl)
        · refine lv_aload_n hx hb dX1_isCreptInto_30 rfl (lv_at hl 0 rfl) ?_
          refine va_get (D := D) (ci := 1) (v := .ref (u 3)) (C := RX1) (T := TX1) (N := 10) hx hb hts hwX1 hown hE.K hP 0 rfl rfl 4 (by decide) (hts (.fieldLink RX1 21 "SedgeBarges$Beds" "sedge" "[I") (List.mem_of_getElem? (i := 7) rfl)) (fun _ h9 => h9) rfl dX1_isCreptInto_31 ?_
          refine lv_iload_n hx hb dX1_isCreptInto_34 rfl (lv_at hl 1 rfl) ?_
          refine r_ald (f := B 3) (v := (B 3) k) hx hb hE hP 4 (k) rfl rfl (by omega) (by decide) rfl dX1_isCreptInto_35 ?_
          refine lv_aload_n hx hb dX1_isCreptInto_36 rfl (lv_at hl 0 rfl) ?_
          refine va_get (D := D) (ci := 1) (v := .ref (u 3)) (C := RX1) (T := TX1) (N := 10) hx hb hts hwX1 hown hE.K hP 0 rfl rfl 4 (by decide) (hts (.fieldLink RX1 21 "SedgeBarges$Beds" "sedge" "[I") (List.mem_of_getElem? (i := 7) rfl)) (fun _ h9 => h9) rfl dX1_isCreptInto_37 ?_
          refine lv_iload_n hx hb dX1_isCreptInto_40 rfl (lv_at hl 2 rfl) ?_
          refine r_ald (f := B 3) (v := (B 3) i) hx hb hE hP 4 (i) rfl rfl (by omega) (by decide) rfl dX1_isCreptInto_41 ?_
          refine lv_isub hx hb dX1_isCreptInto_42 ?_
          refine lv_bipush (v := 30) hx hb dX1_isCreptInto_43 (by decide) ?_
          refine lv_icmp_lt (tgt := 50) hx hb dX1_isCreptInto_45 (by decide) (fun c_45 => ?_) (fun c_45 => ?_)
          · refine lv_iinc (v := (nI (i + 1))) (lv' := [(2, .int (nI (i + 1))), (0, .ref h), (1, .int (nI k))]) (k := 2) hx hb dX1_isCreptInto_50 hl rfl (iinc1 _) (by decide) rfl (fun ls hl => ?_)
            refine lv_goto (tgt := 2) hx hb dX1_isCreptInto_53 (by decide) ?_
            exact ih_2  (i + 1) (show n - (i + 1) < f_2 from by omega) (show (i + 1) ≤ n from by omega) (show crp B k (i + 1) = false from by first | exact crp_no (B := B) (k := k) (i := i) hf (Or.inl c_27) | exact crp_no (B := B) (k := k) (i := i) hf (Or.inr c_45)) _ _ hP hD hS ls (lv_sub hl [1, 2, 0] rfl)
          · refine lv_iconst (v := 1) hx hb dX1_isCreptInto_48 (by decide) ?_
            exact enZ () hx hb hr hlocks hS hP (by first | rfl | decide) (by first | (rw [crp_yes (B := B) (k := k) (i := i) (by omega) c_27 c_45]; rfl) | (rw [show n = i from by omega, hf]; rfl)) dX1_isCreptInto_49
  exact loop_2 ((n - 0) + 1) 0 (Nat.lt_succ_self _) (show 0 ≤ n from by omega) (show crp B k 0 = false from rfl) _ _ hP hD hS ls (lv_sub hl [1, 2, 0] rfl)
set_option maxRecDepth 100000 in
set_option maxHeartbeats 4000000 in
theorem c_Beds_endYear (sa : Nat × Nat × (Nat → Int32)) (tb : Nat → Nat) (D : va_G) (cA cL : ClassId) (l : Launch) (h : Nat) (u : Nat → Nat) (n : Nat) (B : Nat → Nat → Int32) (ch : Nat → Int32) (hn : n ≤ 8) : KM sa tb D cA cL l yX1_endYear wsX1_endYear ({ frames := 2, cells := 0, slots := 0, locals := 46 }) [.ref h] (wBeds cA h u n B ch) (qV D (fun (cx : Nat → Int32) => True) (fun cx => wBeds cA h u n (yearB n B) cx)) := by
  refine KM.of (cc := cX1_endYear) (maxL := 2) (ret := none) (by decide) rfl (Nat.le_of_ble_eq_true rfl) ?_
  intro pg e s m args below meth c A hx hb hr hml hlocks hts hown hS hA hE hP hD ls hl
  have hown : s.vm.findClass RX1 = some m.cls := hown
  have hl : lv_has ls 2 [(0, .ref h)] := hl
  have hwX1 : ∀ w ∈ wsX10, w ∈ wsX1_endYear := (fun _ h => List.mem_cons_of_mem _ (List.mem_append_right _ h))
  refine lv_iconst (v := 0) hx hb dX1_endYear_0 (by decide) ?_
  refine lv_istore_n (lv' := [(1, .int 0), (0, .ref h)]) hx hb dX1_endYear_1 rfl hl (by decide) rfl (fun ls hl => ?_)
  have loop_2 : ∀ (f_2 : Nat) (i : Nat) (cx : Nat → Int32), (n - i) < f_2 → (i ≤ n) → (∀ j, j < i → cx j = chF B n j) → ∀ (H : Heap) (locs : List Loc), va_P D vwCl (wBeds cA h u n B cx) H → va_D A (wBeds cA h u n B cx) → va_S A s.heap H locs → ∀ ls : Array Slot, lv_has ls 2 [(0, .ref h), (1, .int (nI i))] → W pg l e ({ frames := 2, cells := 0, slots := 0, locals := 46 }) s m args below meth c H locs 0 0 (MQ below (qV D (fun (cx : Nat → Int32) => True) (fun cx => wBeds cA h u n (yearB n B) cx) A) args s 0 0 A) (F0 m 2 ls []) := by
    intro f_2
    induction f_2 with
    | zero => intro i cx h_f; exact absurd h_f (Nat.not_lt_zero _)
    | succ f_2 ih_2 =>
      intro i cx h_f2 hi hch H locs hP hD hS ls hl
      refine lv_iload_n hx hb dX1_endYear_2 rfl (lv_at hl 1 rfl) ?_
      refine lv_aload_n hx hb dX1_endYear_3 rfl (lv_at hl 0 rfl) ?_
      refine va_get (D := D) (ci := 1) (v := .int (nI n)) (C := RX1) (T := TX1) (N := 10) hx hb hts hwX1 hown hE.K hP 0 rfl rfl 0 (by decide) (hts (.fieldLink RX1 39 "SedgeBarges$Beds" "number" "I") (List.mem_of_getElem? (i := 1) rfl)) (fun _ h9 => h9) rfl dX1_endYear_4 ?_
      refine rc_ge (tgt := 45) (a := i) (b := n) hx hb (by omega) (by omega) dX1_endYear_7 (by decide) (fun c_7 => ?_) (fun c_7 => ?_)
      · refine lv_iconst (v := 0) hx hb dX1_endYear_45 (by decide) ?_
        refine lv_istore_n (lv' := [(1, .int 0), (0, .ref h)]) hx hb dX1_endYear_46 rfl hl (by decide) rfl (fun ls hl => ?_)
        have loop_47 : ∀ (f_47 : Nat) (i : Nat) (Bx : Nat → Nat → Int32), (n - i) < f_47 → (i ≤ n) → (Bx = mapC (yearC (chF B n)) i B) → ∀ (H : Heap) (locs : List Loc), va_P D vwCl (wBeds cA h u n Bx cx) H → va_D A (wBeds cA h u n Bx cx) → va_S A s.heap H locs → ∀ ls : Array Slot, lv_has ls 2 [(0, .ref h), (1, .int (nI i))] → W pg l e ({ frames := 2, cells := 0, slots := 0, locals := 46 }) s m args below meth c H locs 0 0 (MQ below (qV D (fun (cx : Nat → Int32) => True) (fun cx => wBeds cA h u n (yearB n B) cx) A) args s 0 0 A) (F0 m 47 ls []) := by
          intro f_47
          induction f_47 with
          | zero => intro i Bx h_f; exact absurd h_f (Nat.not_lt_zero _)
          | succ f_47 ih_47 =>
            intro i Bx h_f47 hi hB H locs hP hD hS ls hl
            refine lv_iload_n hx hb dX1_endYear_47 rfl (lv_at hl 1 rfl) ?_
            refine lv_aload_n hx hb dX1_endYear_48 rfl (lv_at hl 0 rfl) ?_
            refine va_get (D := D) (ci := 1) (v := .int (nI n)) (C := RX1) (T := TX1) (N := 10) hx hb hts hwX1 hown hE.K hP 0 rfl rfl 0 (by decide) (hts (.fieldLink RX1 39 "SedgeBarges$Beds" "number" "I") (List.mem_of_getElem? (i := 1) rfl)) (fun _ h9 => h9) rfl dX1_endYear_49 ?_
            refine rc_ge (tgt := 108) (a := i) (b := n) hx hb (by omega) (by omega) dX1_endYear_52 (by decide) (fun c_52 => ?_) (fun c_52 => ?_)
            · rw [show i = n from by omega] at hB
              subst hB
              exact enV cx hx hb hr hlocks hS hP (trivial) dX1_endYear_108
            · refine lv_aload_n hx hb dX1_endYear_55 rfl (lv_at hl 0 rfl) ?_
              refine va_get (D := D) (ci := 1) (v := .ref (u 3)) (C := RX1) (T := TX1) (N := 10) hx hb hts hwX1 hown hE.K hP 0 rfl rfl 4 (by decide) (hts (.fieldLink RX1 21 "SedgeBarges$Beds" "sedge" "[I") (List.mem_of_getElem? (i := 4) rfl)) (fun _ h9 => h9) rfl dX1_endYear_56 ?_
              refine lv_iload_n hx hb dX1_endYear_59 rfl (lv_at hl 1 rfl) ?_
              refine lv_iconst (v := 0) hx hb dX1_endYear_60 (by decide) ?_
              refine lv_bipush (v := 100) hx hb dX1_endYear_61 (by decide) ?_
              refine lv_aload_n hx hb dX1_endYear_63 rfl (lv_at hl 0 rfl) ?_
              refine va_get (D := D) (ci := 1) (v := .ref (u 3)) (C := RX1) (T := TX1) (N := 10) hx hb hts hwX1 hown hE.K hP 0 rfl rfl 4 (by decide) (hts (.fieldLink RX1 21 "SedgeBarges$Beds" "sedge" "[I") (List.mem_of_getElem? (i := 4) rfl)) (fun _ h9 => h9) rfl dX1_endYear_64 ?_
              refine lv_iload_n hx hb dX1_endYear_67 rfl (lv_at hl 1 rfl) ?_
              refine r_ald (f := Bx 3) (v := (Bx 3) i) hx hb hE hP 4 (i) rfl rfl (by omega) (by decide) rfl dX1_endYear_68 ?_
              refine lv_aload_n hx hb dX1_endYear_69 rfl (lv_at hl 0 rfl) ?_
              refine va_get (D := D) (ci := 1) (v := .ref (u 8)) (C := RX1) (T := TX1) (N := 10) hx hb hts hwX1 hown hE.K hP 0 rfl rfl 9 (by decide) (hts (.fieldLink RX1 36 "SedgeBarges$Beds" "change" "[I") (List.mem_of_getElem? (i := 2) rfl)) (fun _ h9 => h9) rfl dX1_endYear_70 ?_
              refine lv_iload_n hx hb dX1_endYear_73 rfl (lv_at hl 1 rfl) ?_
              refine r_ald (f := cx) (v := cx i) hx hb hE hP 9 (i) rfl rfl (by omega) (by decide) rfl dX1_endYear_74 ?_
              refine lv_iadd hx hb dX1_endYear_75 ?_
              refine r_mmin hx hb (hml.trans hl.1.symm) hown (hts (.methodLink RX1 53 Lib.Math.min.name) (List.mem_of_getElem? (i := 5) rfl)) (hts (.static Lib.Math.min.name) (List.mem_of_getElem? (i := 6) rfl)) (hts (.initialized "java/lang/Math") (List.mem_of_getElem? (i := 7) rfl)) (hts (.code Lib.Math.min.name Lib.Math.min.code 2 (some .int)) (List.mem_of_getElem? (i := 8) rfl)) (Nat.le_of_ble_eq_true rfl) (Nat.le_of_ble_eq_true rfl) (Nat.le_of_ble_eq_true rfl) (Nat.le_of_ble_eq_true rfl) dX1_endYear_76 ?_
              refine r_mmax hx hb (hml.trans hl.1.symm) hown (hts (.methodLink RX1 69 Lib.Math.max.name) (List.mem_of_getElem? (i := 9) rfl)) (hts (.static Lib.Math.max.name) (List.mem_of_getElem? (i := 10) rfl)) (hts (.initialized "java/lang/Math") (List.mem_of_getElem? (i := 7) rfl)) (hts (.code Lib.Math.max.name Lib.Math.max.code 2 (some .int)) (List.mem_of_getElem? (i := 11) rfl)) (Nat.le_of_ble_eq_true rfl) (Nat.le_of_ble_eq_true rfl) (Nat.le_of_ble_eq_true rfl) (Nat.le_of_ble_eq_true rfl) dX1_endYear_79 ?_
              refine lv_topi (fun z_1 hz_1 => ?_)
              refine r_ast (f := Bx 3) (g := upd (Bx 3) i z_1) hx hb hE hP hD hS 4 (i) rfl rfl (by omega) (by decide) rfl dX1_endYear_82 (fun H locs hP hD hS => ?_)
              have hP : va_P D vwCl (wBeds cA h u n (st Bx 3 i z_1) cx) H := hP
              have hD : va_D A (wBeds cA h u n (st Bx 3 i z_1) cx) := hD
              generalize hB_2 : st Bx 3 i z_1 = B_2 at hP hD
              refine lv_aload_n hx hb dX1_endYear_83 rfl (lv_at hl 0 rfl) ?_
              refine va_get (D := D) (ci := 1) (v := .ref (u 2)) (C := RX1) (T := TX1) (N := 10) hx hb hts hwX1 hown hE.K hP 0 rfl rfl 3 (by decide) (hts (.fieldLink RX1 18 "SedgeBarges$Beds" "age" "[I") (List.mem_of_getElem? (i := 3) rfl)) (fun _ h9 => h9) rfl dX1_endYear_84 ?_
              refine lv_iload_n hx hb dX1_endYear_87 rfl (lv_at hl 1 rfl) ?_
              refine lv_bipush (v := 9) hx hb dX1_endYear_88 (by decide) ?_
              refine lv_aload_n hx hb dX1_endYear_90 rfl (lv_at hl 0 rfl) ?_
              refine va_get (D := D) (ci := 1) (v := .ref (u 2)) (C := RX1) (T := TX1) (N := 10) hx hb hts hwX1 hown hE.K hP 0 rfl rfl 3 (by decide) (hts (.fieldLink RX1 18 "SedgeBarges$Beds" "age" "[I") (List.mem_of_getElem? (i := 3) rfl)) (fun _ h9 => h9) rfl dX1_endYear_91 ?_
              refine lv_iload_n hx hb dX1_endYear_94 rfl (lv_at hl 1 rfl) ?_
              refine r_ald (f := B_2 2) (v := Bx 2 i) hx hb hE hP 3 (i) rfl rfl (by omega) (by decide) (st_colE hB_2 (by decide)) dX1_endYear_95 ?_
              refine lv_iconst (v := 1) hx hb dX1_endYear_96 (by decide) ?_
              refine lv_iadd hx hb dX1_endYear_97 ?_
              refine r_mmin hx hb (hml.trans hl.1.symm) hown (hts (.methodLink RX1 53 Lib.Math.min.name) (List.mem_of_getElem? (i := 5) rfl)) (hts (.static Lib.Math.min.name) (List.mem_of_getElem? (i := 6) rfl)) (hts (.initialized "java/lang/Math") (List.mem_of_getElem? (i := 7) rfl)) (hts (.code Lib.Math.min.name Lib.Math.min.code 2 (some .int)) (List.mem_of_getElem? (i := 8) rfl)) (Nat.le_of_ble_eq_true rfl) (Nat.le_of_ble_eq_true rfl) (Nat.le_of_ble_eq_true rfl) (Nat.le_of_ble_eq_true rfl) dX1_endYear_98 ?_
              refine lv_topi (fun z_3 hz_3 => ?_)
              refine r_ast (f := B_2 2) (g := upd (B_2 2) i z_3) hx hb hE hP hD hS 3 (i) rfl rfl (by omega) (by decide) rfl dX1_endYear_101 (fun H locs hP hD hS => ?_)
              have hP : va_P D vwCl (wBeds cA h u n (st B_2 2 i z_3) cx) H := hP
              have hD : va_D A (wBeds cA h u n (st B_2 2 i z_3) cx) := hD
              generalize hB_4 : st B_2 2 i z_3 = B_4 at hP hD
              refine lv_iinc (v := (nI (i + 1))) (lv' := [(1, .int (nI (i + 1))), (0, .ref h)]) (k := 1) hx hb dX1_endYear_102 hl rfl (iinc1 _) (by decide) rfl (fun ls hl => ?_)
              refine lv_goto (tgt := 47) hx hb dX1_endYear_105 (by decide) ?_
              subst hB_4
              subst hz_3
              subst hB_2
              subst hz_1
              exact ih_47  (i + 1) (st (st Bx 3 i (imax 0 (imin 100 (((Bx 3) i) + (cx i))))) 2 i (imin 9 ((Bx 2 i) + 1))) (show n - (i + 1) < f_47 from by omega) (show (i + 1) ≤ n from by omega) (show (st (st Bx 3 i (imax 0 (imin 100 (((Bx 3) i) + (cx i))))) 2 i (imin 9 ((Bx 2 i) + 1))) = mapC (yearC (chF B n)) (i + 1) B from by subst hB; exact mapC_step (fun j k hk => by simp only [st_ne hk]) (fun j => by simp only [st_eq, mapC_ge (Nat.le_refl i), hch i (by omega)]; rfl)) _ _ hP hD hS ls (lv_sub hl [1, 0] rfl)
        exact loop_47 ((n - 0) + 1) 0 B (Nat.lt_succ_self _) (show 0 ≤ n from by omega) (show B = mapC (yearC (chF B n)) 0 B from mapC_0.symm) _ _ hP hD hS ls (lv_sub hl [1, 0] rfl)
      · refine lv_aload_n hx hb dX1_endYear_10 rfl (lv_at hl 0 rfl) ?_
        refine va_get (D := D) (ci := 1) (v := .ref (u 8)) (C := RX1) (T := TX1) (N := 10) hx hb hts hwX1 hown hE.K hP 0 rfl rfl 9 (by decide) (hts (.fieldLink RX1 36 "SedgeBarges$Beds" "change" "[I") (List.mem_of_getElem? (i := 2) rfl)) (fun _ h9 => h9) rfl dX1_endYear_11 ?_
        refine lv_iload_n hx hb dX1_endYear_14 rfl (lv_at hl 1 rfl) ?_
        refine lv_aload_n hx hb dX1_endYear_15 rfl (lv_at hl 0 rfl) ?_
        refine va_get (D := D) (ci := 1) (v := .ref (u 2)) (C := RX1) (T := TX1) (N := 10) hx hb hts hwX1 hown hE.K hP 0 rfl rfl 3 (by decide) (hts (.fieldLink RX1 18 "SedgeBarges$Beds" "age" "[I") (List.mem_of_getElem? (i := 3) rfl)) (fun _ h9 => h9) rfl dX1_endYear_16 ?_
        refine lv_iload_n hx hb dX1_endYear_19 rfl (lv_at hl 1 rfl) ?_
        refine r_ald (f := B 2) (v := (B 2) i) hx hb hE hP 3 (i) rfl rfl (by omega) (by decide) rfl dX1_endYear_20 ?_
        refine goI ([]) (wBeds cA h u n B cx) hP hD hS hA (rnS (rest := [.int (nI i), .ref (u 8)]) (c_Beds_changeByAge sa tb D cA cL l ((B 2) i) ) ([]) (wBeds cA h u n B cx) hP hD hS hA hE ⟨hx, hb, hml, hown, hts⟩ (va_cwS 1 hts gX1_endYear_X1_changeByAge rfl rfl rfl (by decide +kernel) ⟨(Nat.le_of_ble_eq_true rfl), (Nat.le_of_ble_eq_true rfl)⟩) rfl hl.1 rfl (Nat.le_of_ble_eq_true rfl) dX1_endYear_21 ⟨(Nat.le_of_ble_eq_true rfl), (Nat.le_of_ble_eq_true rfl)⟩) (fun _ => rfl) (fun r_21 u_21 H locs hw_21 hP hD hS => ?_)
        have hP : va_P D vwCl (wBeds cA h u n B cx) H := hP
        have hD : va_D A (wBeds cA h u n B cx) := hD
        obtain rfl : r_21 = chgA ((B 2) i) := hw_21
        refine lv_aload_n hx hb dX1_endYear_24 rfl (lv_at hl 0 rfl) ?_
        refine lv_iload_n hx hb dX1_endYear_25 rfl (lv_at hl 1 rfl) ?_
        refine goI ([]) ([]) hP hD hS hA (rnV (rest := [.int (chgA ((B 2) i)), .int (nI i), .ref (u 8)]) (c_Beds_creep sa tb D cA cL l h u n B cx i (show i < 8 from by first | omega | assumption | decide) (show n ≤ 8 from by first | omega | assumption | decide)) ([]) ([]) hP hD hS hA hE ⟨hx, hb, hml, hown, hts⟩ (cwV 1 hts gX1_endYear_X1_isCreptInto rfl rfl rfl (by decide +kernel) ⟨(Nat.le_of_ble_eq_true rfl), (Nat.le_of_ble_eq_true rfl)⟩) 1 0 rfl rfl rfl rfl hl.1 rfl (Nat.le_of_ble_eq_true rfl) dX1_endYear_26 ⟨(Nat.le_of_ble_eq_true rfl), (Nat.le_of_ble_eq_true rfl)⟩) (fun _ => rfl) (fun r_26 u_26 H locs hw_26 hP hD hS => ?_)
        have hP : va_P D vwCl (wBeds cA h u n B cx) H := hP
        have hD : va_D A (wBeds cA h u n B cx) := hD
        obtain rfl : r_26 = bI (crp B i n) := hw_26
        refine lv_if_eq (tgt := 36) hx hb dX1_endYear_29 (by decide) (fun c_29 => ?_) (fun c_29 => ?_)
        · refine lv_iconst (v := 0) hx hb dX1_endYear_36 (by decide) ?_
          refine lv_isub hx hb dX1_endYear_37 ?_
          refine lv_topi (fun z_5 hz_5 => ?_)
          refine r_ast (f := cx) (g := upd cx i z_5) hx hb hE hP hD hS 9 (i) rfl rfl (by omega) (by decide) rfl dX1_endYear_38 (fun H locs hP hD hS => ?_)
          have hP : va_P D vwCl (wBeds cA h u n B (upd cx i z_5)) H := hP
          have hD : va_D A (wBeds cA h u n B (upd cx i z_5)) := hD
          refine lv_iinc (v := (nI (i + 1))) (lv' := [(1, .int (nI (i + 1))), (0, .ref h)]) (k := 1) hx hb dX1_endYear_39 hl rfl (iinc1 _) (by decide) rfl (fun ls hl => ?_)
          refine lv_goto (tgt := 2) hx hb dX1_endYear_42 (by decide) ?_
          subst hz_5
          exact ih_2  (i + 1) (upd cx i ((chgA ((B 2) i)) - 0)) (show n - (i + 1) < f_2 from by omega) (show (i + 1) ≤ n from by omega) (show ∀ j, j < (i + 1) → (upd cx i ((chgA ((B 2) i)) - 0)) j = chF B n j from by first | exact ch_step hch (by unfold chF; rw [bI0 c_29]; rfl) | exact ch_step hch (by unfold chF; rw [bI1 c_29]; rfl)) _ _ hP hD hS ls (lv_sub hl [1, 0] rfl)
        · refine lv_iconst (v := 3) hx hb dX1_endYear_32 (by decide) ?_
          refine lv_goto (tgt := 37) hx hb dX1_endYear_33 (by decide) ?_
          refine lv_isub hx hb dX1_endYear_37 ?_
          refine lv_topi (fun z_6 hz_6 => ?_)
          refine r_ast (f := cx) (g := upd cx i z_6) hx hb hE hP hD hS 9 (i) rfl rfl (by omega) (by decide) rfl dX1_endYear_38 (fun H locs hP hD hS => ?_)
          have hP : va_P D vwCl (wBeds cA h u n B (upd cx i z_6)) H := hP
          have hD : va_D A (wBeds cA h u n B (upd cx i z_6)) := hD
          refine lv_iinc (v := (nI (i + 1))) (lv' := [(1, .int (nI (i + 1))), (0, .ref h)]) (k := 1) hx hb dX1_endYear_39 hl rfl (iinc1 _) (by decide) rfl (fun ls hl => ?_)
          refine lv_goto (tgt := 2) hx hb dX1_endYear_42 (by decide) ?_
          subst hz_6
          exact ih_2  (i + 1) (upd cx i ((chgA ((B 2) i)) - 3)) (show n - (i + 1) < f_2 from by omega) (show (i + 1) ≤ n from by omega) (show ∀ j, j < (i + 1) → (upd cx i ((chgA ((B 2) i)) - 3)) j = chF B n j from by first | exact ch_step hch (by unfold chF; rw [bI0 c_29]; rfl) | exact ch_step hch (by unfold chF; rw [bI1 c_29]; rfl)) _ _ hP hD hS ls (lv_sub hl [1, 0] rfl)
  exact loop_2 ((n - 0) + 1) 0 ch (Nat.lt_succ_self _) (show 0 ≤ n from by omega) (show ∀ j, j < 0 → ch j = chF B n j from fun j hj => absurd hj (Nat.not_lt_zero _)) _ _ hP hD hS ls (lv_sub hl [1, 0] rfl)
