set_option maxRecDepth 100000 in
set_option maxHeartbeats 4000000 in
theorem m_lookAhead (sa tb : Nat → Nat) (D : va_G) (cA cL : ClassId) (l : Launch) (h : Nat) (mm : Nat → Nat) (th : Int32) (dy : Int32) (co : Int32) (ti : Int32) (ro : Int32) (n : Nat) (nb : Nat) (B : Nat → Nat → Int32) (G : Nat → Nat → Int32) (T : Nat → Int32) (BA : Nat → Nat → Int32) (GA : Nat → Nat → Int32) (TA : Nat → Int32) (mo : Nat → Int32)  : KM sa tb D cA cL l yX5_lookAhead wsX5_lookAhead ({ frames := 1, cells := 0, slots := 0, locals := 40 }) [.ref h] (wMod cA h mm th dy co ti ro n nb B G T BA GA TA mo) (qV D (fun (_ : Unit) => True) (fun _ => wMod cA h mm th dy co ti ro n nb B G T (cpN 8 B BA) (cpN 3 G GA) (cpT3 T TA) mo)) := by
  refine KM.of (cc := cX5_lookAhead) (maxL := 1) (ret := none) (by decide) rfl (Nat.le_of_ble_eq_true rfl) ?_
  intro pg e s m args below meth c A hx hb hr hml hlocks hts hown hS hA hE hP hD ls hl
  have hown : s.vm.findClass RX5 = some m.cls := hown
  have hl : lv_has ls 1 [(0, .ref h)] := hl
  have hwX5 : ∀ w ∈ wsX50, w ∈ wsX5_lookAhead := (fun _ h => List.mem_cons_of_mem _ (List.mem_append_right _ h))
  refine lv_aload_n hx hb dX5_lookAhead_0 rfl (lv_at hl 0 rfl) ?_
  refine va_get (D := D) (ci := 5) (v := .ref (mm 0)) (C := RX5) (T := TX5) (N := 14) hx hb hts hwX5 hown hE.K hP 0 rfl rfl 7 (by decide) (hts (.fieldLink RX5 16 "SedgeBargesModel" "b" "[I") (List.mem_of_getElem? (i := 1) rfl)) (fun _ h9 => h9) rfl dX5_lookAhead_1 ?_
  refine lv_iconst (v := 0) hx hb dX5_lookAhead_4 (by decide) ?_
  refine lv_aload_n hx hb dX5_lookAhead_5 rfl (lv_at hl 0 rfl) ?_
  refine va_get (D := D) (ci := 5) (v := .ref (mm 3)) (C := RX5) (T := TX5) (N := 14) hx hb hts hwX5 hown hE.K hP 0 rfl rfl 10 (by decide) (hts (.fieldLink RX5 26 "SedgeBargesModel" "bAhead" "[I") (List.mem_of_getElem? (i := 2) rfl)) (fun _ h9 => h9) rfl dX5_lookAhead_6 ?_
  refine lv_iconst (v := 0) hx hb dX5_lookAhead_9 (by decide) ?_
  refine lv_aload_n hx hb dX5_lookAhead_10 rfl (lv_at hl 0 rfl) ?_
  refine va_get (D := D) (ci := 5) (v := .ref (mm 0)) (C := RX5) (T := TX5) (N := 14) hx hb hts hwX5 hown hE.K hP 0 rfl rfl 7 (by decide) (hts (.fieldLink RX5 16 "SedgeBargesModel" "b" "[I") (List.mem_of_getElem? (i := 1) rfl)) (fun _ h9 => h9) rfl dX5_lookAhead_11 ?_
  refine va_alen (v := 64) hx hb hE.K hP 1 0 rfl rfl rfl dX5_lookAhead_14 ?_
  refine va_copyi hx hb (hml.trans hl.1.symm) hown (hts (.methodLink RX5 158 arraycopyName) (List.mem_of_getElem? (i := 3) rfl)) (hts (.native arraycopyName) (List.mem_of_getElem? (i := 4) rfl)) (hts (.static arraycopyName) (List.mem_of_getElem? (i := 5) rfl)) (hts (.initialized "java/lang/System") (List.mem_of_getElem? (i := 6) rfl)) hE.K hP hD hS 1 4 0 0 rfl rfl rfl rfl rfl (by decide) (by decide) (by decide) (by decide) (by decide) (fun _ _ => rfl) (Nat.le_of_ble_eq_true rfl) (by decide) dX5_lookAhead_15 (fun H locs hP hD hS => ?_)
  rw [cpy_B] at hP hD
  have hP : va_P D vwCl (wMod cA h mm th dy co ti ro n nb B G T (cpN 8 B BA) GA TA mo) H := hP
  have hD : va_D A (wMod cA h mm th dy co ti ro n nb B G T (cpN 8 B BA) GA TA mo) := hD
  refine lv_aload_n hx hb dX5_lookAhead_18 rfl (lv_at hl 0 rfl) ?_
  refine va_get (D := D) (ci := 5) (v := .ref (mm 1)) (C := RX5) (T := TX5) (N := 14) hx hb hts hwX5 hown hE.K hP 0 rfl rfl 8 (by decide) (hts (.fieldLink RX5 20 "SedgeBargesModel" "g" "[I") (List.mem_of_getElem? (i := 7) rfl)) (fun _ h9 => h9) rfl dX5_lookAhead_19 ?_
  refine lv_iconst (v := 0) hx hb dX5_lookAhead_22 (by decide) ?_
  refine lv_aload_n hx hb dX5_lookAhead_23 rfl (lv_at hl 0 rfl) ?_
  refine va_get (D := D) (ci := 5) (v := .ref (mm 4)) (C := RX5) (T := TX5) (N := 14) hx hb hts hwX5 hown hE.K hP 0 rfl rfl 11 (by decide) (hts (.fieldLink RX5 29 "SedgeBargesModel" "gAhead" "[I") (List.mem_of_getElem? (i := 8) rfl)) (fun _ h9 => h9) rfl dX5_lookAhead_24 ?_
  refine lv_iconst (v := 0) hx hb dX5_lookAhead_27 (by decide) ?_
  refine lv_aload_n hx hb dX5_lookAhead_28 rfl (lv_at hl 0 rfl) ?_
  refine va_get (D := D) (ci := 5) (v := .ref (mm 1)) (C := RX5) (T := TX5) (N := 14) hx hb hts hwX5 hown hE.K hP 0 rfl rfl 8 (by decide) (hts (.fieldLink RX5 20 "SedgeBargesModel" "g" "[I") (List.mem_of_getElem? (i := 7) rfl)) (fun _ h9 => h9) rfl dX5_lookAhead_29 ?_
  refine va_alen (v := 15) hx hb hE.K hP 2 0 rfl rfl rfl dX5_lookAhead_32 ?_
  refine va_copyi hx hb (hml.trans hl.1.symm) hown (hts (.methodLink RX5 158 arraycopyName) (List.mem_of_getElem? (i := 3) rfl)) (hts (.native arraycopyName) (List.mem_of_getElem? (i := 4) rfl)) (hts (.static arraycopyName) (List.mem_of_getElem? (i := 5) rfl)) (hts (.initialized "java/lang/System") (List.mem_of_getElem? (i := 6) rfl)) hE.K hP hD hS 2 5 0 0 rfl rfl rfl rfl rfl (by decide) (by decide) (by decide) (by decide) (by decide) (fun _ _ => rfl) (Nat.le_of_ble_eq_true rfl) (by decide) dX5_lookAhead_33 (fun H locs hP hD hS => ?_)
  rw [cpy_G] at hP hD
  have hP : va_P D vwCl (wMod cA h mm th dy co ti ro n nb B G T (cpN 8 B BA) (cpN 3 G GA) TA mo) H := hP
  have hD : va_D A (wMod cA h mm th dy co ti ro n nb B G T (cpN 8 B BA) (cpN 3 G GA) TA mo) := hD
  refine lv_aload_n hx hb dX5_lookAhead_36 rfl (lv_at hl 0 rfl) ?_
  refine va_get (D := D) (ci := 5) (v := .ref (mm 2)) (C := RX5) (T := TX5) (N := 14) hx hb hts hwX5 hown hE.K hP 0 rfl rfl 9 (by decide) (hts (.fieldLink RX5 23 "SedgeBargesModel" "store" "[I") (List.mem_of_getElem? (i := 9) rfl)) (fun _ h9 => h9) rfl dX5_lookAhead_37 ?_
  refine lv_iconst (v := 0) hx hb dX5_lookAhead_40 (by decide) ?_
  refine lv_aload_n hx hb dX5_lookAhead_41 rfl (lv_at hl 0 rfl) ?_
  refine va_get (D := D) (ci := 5) (v := .ref (mm 5)) (C := RX5) (T := TX5) (N := 14) hx hb hts hwX5 hown hE.K hP 0 rfl rfl 12 (by decide) (hts (.fieldLink RX5 32 "SedgeBargesModel" "storeAhead" "[I") (List.mem_of_getElem? (i := 10) rfl)) (fun _ h9 => h9) rfl dX5_lookAhead_42 ?_
  refine lv_iconst (v := 0) hx hb dX5_lookAhead_45 (by decide) ?_
  refine lv_aload_n hx hb dX5_lookAhead_46 rfl (lv_at hl 0 rfl) ?_
  refine va_get (D := D) (ci := 5) (v := .ref (mm 2)) (C := RX5) (T := TX5) (N := 14) hx hb hts hwX5 hown hE.K hP 0 rfl rfl 9 (by decide) (hts (.fieldLink RX5 23 "SedgeBargesModel" "store" "[I") (List.mem_of_getElem? (i := 9) rfl)) (fun _ h9 => h9) rfl dX5_lookAhead_47 ?_
  refine va_alen (v := 3) hx hb hE.K hP 3 0 rfl rfl rfl dX5_lookAhead_50 ?_
  refine va_copyi hx hb (hml.trans hl.1.symm) hown (hts (.methodLink RX5 158 arraycopyName) (List.mem_of_getElem? (i := 3) rfl)) (hts (.native arraycopyName) (List.mem_of_getElem? (i := 4) rfl)) (hts (.static arraycopyName) (List.mem_of_getElem? (i := 5) rfl)) (hts (.initialized "java/lang/System") (List.mem_of_getElem? (i := 6) rfl)) hE.K hP hD hS 3 6 0 0 rfl rfl rfl rfl rfl (by decide) (by decide) (by decide) (by decide) (by decide) (fun _ _ => rfl) (Nat.le_of_ble_eq_true rfl) (by decide) dX5_lookAhead_51 (fun H locs hP hD hS => ?_)
  rw [cpy_T] at hP hD
  have hP : va_P D vwCl (wMod cA h mm th dy co ti ro n nb B G T (cpN 8 B BA) (cpN 3 G GA) (cpT3 T TA) mo) H := hP
  have hD : va_D A (wMod cA h mm th dy co ti ro n nb B G T (cpN 8 B BA) (cpN 3 G GA) (cpT3 T TA) mo) := hD
  exact enV () hx hb hr hlocks hS hP (trivial) dX5_lookAhead_54
set_option maxRecDepth 100000 in
set_option maxHeartbeats 4000000 in
theorem m_best (sa tb : Nat → Nat) (D : va_G) (cA cL : ClassId) (l : Launch) (h : Nat) (mm : Nat → Nat) (th : Int32) (dy : Int32) (co : Int32) (ti : Int32) (ro : Int32) (n : Nat) (nb : Nat) (B : Nat → Nat → Int32) (G : Nat → Nat → Int32) (T : Nat → Int32) (BA : Nat → Nat → Int32) (GA : Nat → Nat → Int32) (TA : Nat → Int32) (mo : Nat → Int32) (k : Nat) (hk : k < n) (hn : n ≤ 8) (hB0 : BInv n B) : KM sa tb D cA cL l yX5_best wsX5_best ({ frames := 3, cells := 0, slots := 0, locals := 71 }) [.ref h, .int (nI k)] (wMod cA h mm th dy co ti ro n nb B G T BA GA TA mo) (qI D (fun (r : Int32) (uu : (Nat → Nat → Int32) × (Nat → Nat → Int32) × (Nat → Int32) × (Nat → Int32)) => r = (bestS n (cpN 8 B BA) k 9).2) (fun uu => wMod cA h mm 0 dy co ti ro n nb B G T uu.1 uu.2.1 uu.2.2.1 uu.2.2.2)) := by
  refine KM.of (cc := cX5_best) (maxL := 6) (ret := some .int) (by decide) rfl (Nat.le_of_ble_eq_true rfl) ?_
  intro pg e s m args below meth c A hx hb hr hml hlocks hts hown hS hA hE hP hD ls hl
  have hown : s.vm.findClass RX5 = some m.cls := hown
  have hl : lv_has ls 6 [(0, .ref h), (1, .int (nI k))] := hl
  have hwX5 : ∀ w ∈ wsX50, w ∈ wsX5_best := (fun _ h => List.mem_cons_of_mem _ (List.mem_append_right _ h))
  refine lv_aload_n hx hb dX5_best_0 rfl (lv_at hl 0 rfl) ?_
  refine lv_iconst (v := 0) hx hb dX5_best_1 (by decide) ?_
  refine va_put (D := D) (ci := 5) (v := .int 0) (ty := .int) (C := RX5) (T := TX5) (N := 14) hx hb hts hwX5 tyX5 tyX5_ok nmX5 hown hE.K hP hD hS 0 rfl rfl 0 (by decide) (hts (.fieldLink RX5 38 "SedgeBargesModel" "thrown" "I") (List.mem_of_getElem? (i := 1) rfl)) (fun _ h9 => h9) rfl (by decide +kernel) rfl rfl (Nat.le_of_ble_eq_true rfl) dX5_best_2 (fun H locs hP hD hS => ?_)
  have hP : va_P D vwCl (wMod cA h mm 0 dy co ti ro n nb B G T BA GA TA mo) H := hP
  have hD : va_D A (wMod cA h mm 0 dy co ti ro n nb B G T BA GA TA mo) := hD
  refine lv_aload_n hx hb dX5_best_5 rfl (lv_at hl 0 rfl) ?_
  refine lv_iload_n hx hb dX5_best_6 rfl (lv_at hl 1 rfl) ?_
  refine goI ([]) ([(mm 0, I_ cA 64 (pkB B)), (mm 1, I_ cA 15 (pkG G)), (mm 2, I_ cA 3 T), (mm 3, I_ cA 64 (pkB BA)), (mm 4, I_ cA 15 (pkG GA)), (mm 5, I_ cA 3 TA), (mm 6, I_ cA 8 mo)]) hP hD hS hA (rnV (rest := []) (m_isBed sa tb D cA cL l h mm 0 dy co ti ro n nb (nI k) ) ([]) ([(mm 0, I_ cA 64 (pkB B)), (mm 1, I_ cA 15 (pkG G)), (mm 2, I_ cA 3 T), (mm 3, I_ cA 64 (pkB BA)), (mm 4, I_ cA 15 (pkG GA)), (mm 5, I_ cA 3 TA), (mm 6, I_ cA 8 mo)]) hP hD hS hA hE ⟨hx, hb, hml, hown, hts⟩ (cwV 1 hts gX5_best_X5_isBed rfl rfl rfl (by decide +kernel) ⟨(Nat.le_of_ble_eq_true rfl), (Nat.le_of_ble_eq_true rfl)⟩) 5 0 rfl rfl rfl rfl hl.1 rfl (Nat.le_of_ble_eq_true rfl) dX5_best_7 ⟨(Nat.le_of_ble_eq_true rfl), (Nat.le_of_ble_eq_true rfl)⟩) (fun _ => rfl) (fun r_7 u_7 H locs hw_7 hP hD hS => ?_)
  have hP : va_P D vwCl (wMod cA h mm 0 dy co ti ro n nb B G T BA GA TA mo) H := hP
  have hD : va_D A (wMod cA h mm 0 dy co ti ro n nb B G T BA GA TA mo) := hD
  obtain rfl : r_7 = bI (isInB (nI k) 0 (nI n - 1)) := hw_7
  refine lv_if_ne (tgt := 19) hx hb dX5_best_10 (by decide) (fun c_10 => ?_) (fun c_10 => False.elim (by exact absurd ((bI0 c_10).symm.trans (isBed_yes hk (by omega))) (by decide)))
  refine lv_aload_n hx hb dX5_best_19 rfl (lv_at hl 0 rfl) ?_
  refine goV ([]) ([]) hP hD hS hA (rnV (rest := []) (m_lookAhead sa tb D cA cL l h mm 0 dy co ti ro n nb B G T BA GA TA mo ) ([]) ([]) hP hD hS hA hE ⟨hx, hb, hml, hown, hts⟩ (cwV 0 hts gX5_best_X5_lookAhead rfl rfl rfl (by decide +kernel) ⟨(Nat.le_of_ble_eq_true rfl), (Nat.le_of_ble_eq_true rfl)⟩) 5 0 rfl rfl rfl rfl hl.1 rfl (Nat.le_of_ble_eq_true rfl) dX5_best_20 ⟨(Nat.le_of_ble_eq_true rfl), (Nat.le_of_ble_eq_true rfl)⟩) (fun _ => (show List.map Prod.fst _ = [h, mm 0, mm 1, mm 2, mm 3, mm 4, mm 5, mm 6] from rfl).trans (show [h, mm 0, mm 1, mm 2, mm 3, mm 4, mm 5, mm 6] = List.map Prod.fst _ from rfl)) (fun u_20 H locs hw_20 hP hD hS => ?_)
  have hP : va_P D vwCl (wMod cA h mm 0 dy co ti ro n nb B G T (cpN 8 B BA) (cpN 3 G GA) (cpT3 T TA) mo) H := hP
  have hD : va_D A (wMod cA h mm 0 dy co ti ro n nb B G T (cpN 8 B BA) (cpN 3 G GA) (cpT3 T TA) mo) := hD
  refine lv_iconst (v := 0) hx hb dX5_best_23 (by decide) ?_
  refine lv_istore_n (lv' := [(2, .int 0), (0, .ref h), (1, .int (nI k))]) hx hb dX5_best_24 rfl hl (by decide) rfl (fun ls hl => ?_)
  refine lv_aload_n hx hb dX5_best_25 rfl (lv_at hl 1 rfl) ?_
  refine va_get (D := D) (ci := 5) (v := .ref (mm 3)) (C := RX5) (T := TX5) (N := 14) hx hb hts hwX5 hown hE.K hP 0 rfl rfl 10 (by decide) (hts (.fieldLink RX5 26 "SedgeBargesModel" "bAhead" "[I") (List.mem_of_getElem? (i := 2) rfl)) (fun _ h9 => h9) rfl dX5_best_26 ?_
  refine lv_bipush (v := 8) hx hb dX5_best_29 (by decide) ?_
  refine lv_iload_n hx hb dX5_best_31 rfl (lv_at hl 2 rfl) ?_
  refine rn_mul (a := 8) (b := k) hx hb dX5_best_32 ?_
  have hPq : va_P D vwCl ([] ++ (([(mm 3, I_ cA 64 (pkB (cpN 8 B BA)))]) ++ ([(h, .inr (5, [.int 0, .int dy, .int co, .int ti, .int ro, .int (nI n), .int (nI nb), .ref (mm 0), .ref (mm 1), .ref (mm 2), .ref (mm 3), .ref (mm 4), .ref (mm 5), .ref (mm 6)])), (mm 0, I_ cA 64 (pkB B)), (mm 1, I_ cA 15 (pkG G)), (mm 2, I_ cA 3 T), (mm 4, I_ cA 15 (pkG (cpN 3 G GA))), (mm 5, I_ cA 3 (cpT3 T TA)), (mm 6, I_ cA 8 mo)]))) _ := hP.sub [4, 0, 1, 2, 3, 5, 6, 7] rfl
  have hDq : va_D A ([] ++ (([(mm 3, I_ cA 64 (pkB (cpN 8 B BA)))]) ++ ([(h, .inr (5, [.int 0, .int dy, .int co, .int ti, .int ro, .int (nI n), .int (nI nb), .ref (mm 0), .ref (mm 1), .ref (mm 2), .ref (mm 3), .ref (mm 4), .ref (mm 5), .ref (mm 6)])), (mm 0, I_ cA 64 (pkB B)), (mm 1, I_ cA 15 (pkG G)), (mm 2, I_ cA 3 T), (mm 4, I_ cA 15 (pkG (cpN 3 G GA))), (mm 5, I_ cA 3 (cpT3 T TA)), (mm 6, I_ cA 8 mo)]))) := hD.sub [4, 0, 1, 2, 3, 5, 6, 7] (by decide) rfl
  refine goI ([]) ([(h, .inr (5, [.int 0, .int dy, .int co, .int ti, .int ro, .int (nI n), .int (nI nb), .ref (mm 0), .ref (mm 1), .ref (mm 2), .ref (mm 3), .ref (mm 4), .ref (mm 5), .ref (mm 6)])), (mm 0, I_ cA 64 (pkB B)), (mm 1, I_ cA 15 (pkG G)), (mm 2, I_ cA 3 T), (mm 4, I_ cA 15 (pkG (cpN 3 G GA))), (mm 5, I_ cA 3 (cpT3 T TA)), (mm 6, I_ cA 8 mo)]) hPq hDq hS hA (rnS (rest := []) (m_givesSedge sa tb D cA cL l (mm 3) (cpN 8 B BA) k (show k < 8 from by first | omega | assumption | decide) (show ∃ j, j < 10 ∧ (cpN 8 B BA) 2 k = nI j from (cpN_inv hn hB0 k hk).2.1)) ([]) ([(h, .inr (5, [.int 0, .int dy, .int co, .int ti, .int ro, .int (nI n), .int (nI nb), .ref (mm 0), .ref (mm 1), .ref (mm 2), .ref (mm 3), .ref (mm 4), .ref (mm 5), .ref (mm 6)])), (mm 0, I_ cA 64 (pkB B)), (mm 1, I_ cA 15 (pkG G)), (mm 2, I_ cA 3 T), (mm 4, I_ cA 15 (pkG (cpN 3 G GA))), (mm 5, I_ cA 3 (cpT3 T TA)), (mm 6, I_ cA 8 mo)]) hPq hDq hS hA hE ⟨hx, hb, hml, hown, hts⟩ (va_cwS 2 hts gX5_best_X5_givesSedge rfl rfl rfl (by decide +kernel) ⟨(Nat.le_of_ble_eq_true rfl), (Nat.le_of_ble_eq_true rfl)⟩) rfl hl.1 rfl (Nat.le_of_ble_eq_true rfl) dX5_best_33 ⟨(Nat.le_of_ble_eq_true rfl), (Nat.le_of_ble_eq_true rfl)⟩) (fun _ => rfl) (fun r_33 u_33 H locs hw_33 hP hD hS => ?_)
  have hP : va_P D vwCl (wMod cA h mm 0 dy co ti ro n nb B G T (cpN 8 B BA) (cpN 3 G GA) (cpT3 T TA) mo) H := hP.sub [1, 2, 3, 4, 0, 5, 6, 7] rfl
  have hD : va_D A (wMod cA h mm 0 dy co ti ro n nb B G T (cpN 8 B BA) (cpN 3 G GA) (cpT3 T TA) mo) := hD.sub [1, 2, 3, 4, 0, 5, 6, 7] (by decide) rfl
  obtain rfl : r_33 = sgiv (cpN 8 B BA) k := hw_33
  refine lv_istore_n (lv' := [(3, .int (sgiv (cpN 8 B BA) k)), (2, .int 0), (0, .ref h), (1, .int (nI k))]) hx hb dX5_best_36 rfl hl (by decide) rfl (fun ls hl => ?_)
  refine lv_iconst (v := 1) hx hb dX5_best_37 (by decide) ?_
  refine lv_istore (lv' := [(4, .int 1), (3, .int (sgiv (cpN 8 B BA) k)), (2, .int 0), (0, .ref h), (1, .int (nI k))]) hx hb dX5_best_38 hl (by decide) rfl (fun ls hl => ?_)
  have loop_40 : ∀ (f_40 : Nat) (y : Nat) (ms : Int32) (ys : Int32) (Bx : Nat → Nat → Int32) (cx : Nat → Int32), (9 - y) < f_40 → (y ≤ 9) → (Bx = yearsB n y (cpN 8 B BA)) → (ms = (bestS n (cpN 8 B BA) k y).1) → (ys = (bestS n (cpN 8 B BA) k y).2) → ∀ (H : Heap) (locs : List Loc), va_P D vwCl (wMod cA h mm 0 dy co ti ro n nb B G T Bx (cpN 3 G GA) (cpT3 T TA) cx) H → va_D A (wMod cA h mm 0 dy co ti ro n nb B G T Bx (cpN 3 G GA) (cpT3 T TA) cx) → va_S A s.heap H locs → ∀ ls : Array Slot, lv_has ls 6 [(0, .ref h), (1, .int (nI k)), (2, .int ys), (3, .int ms), (4, .int (nI (y + 1)))] → W pg l e ({ frames := 3, cells := 0, slots := 0, locals := 71 }) s m args below meth c H locs 0 0 (MQ below (qI D (fun (r : Int32) (uu : (Nat → Nat → Int32) × (Nat → Nat → Int32) × (Nat → Int32) × (Nat → Int32)) => r = (bestS n (cpN 8 B BA) k 9).2) (fun uu => wMod cA h mm 0 dy co ti ro n nb B G T uu.1 uu.2.1 uu.2.2.1 uu.2.2.2) A) args s 0 0 A) (F0 m 40 ls []) := by
    intro f_40
    induction f_40 with
    | zero => intro y ms ys Bx cx h_f; exact absurd h_f (Nat.not_lt_zero _)
    | succ f_40 ih_40 =>
      intro y ms ys Bx cx h_f40 hy hB hm hs H locs hP hD hS ls hl
      refine lv_iload hx hb dX5_best_40 (lv_at hl 4 rfl) ?_
      refine lv_bipush (v := 9) hx hb dX5_best_42 (by decide) ?_
      refine rc_gt (tgt := 89) (a := y + 1) (b := 9) hx hb (by omega) (by omega) dX5_best_44 (by decide) (fun c_44 => ?_) (fun c_44 => ?_)
      · refine lv_iload_n hx hb dX5_best_89 rfl (lv_at hl 2 rfl) ?_
        rw [show y = 9 from by omega] at hs
        exact enI (Bx, cpN 3 G GA, cpT3 T TA, cx) hx hb hr hlocks hS hP (hs) dX5_best_90
      · refine lv_aload_n hx hb dX5_best_47 rfl (lv_at hl 0 rfl) ?_
        refine lv_aload_n hx hb dX5_best_48 rfl (lv_at hl 0 rfl) ?_
        refine va_get (D := D) (ci := 5) (v := .ref (mm 3)) (C := RX5) (T := TX5) (N := 14) hx hb hts hwX5 hown hE.K hP 0 rfl rfl 10 (by decide) (hts (.fieldLink RX5 26 "SedgeBargesModel" "bAhead" "[I") (List.mem_of_getElem? (i := 2) rfl)) (fun _ h9 => h9) rfl dX5_best_49 ?_
        have hPq : va_P D vwCl ([] ++ (([oMod h mm 0 dy co ti ro n nb, (mm 3, I_ cA 64 (pkB Bx)), (mm 6, I_ cA 8 cx)]) ++ ([(mm 0, I_ cA 64 (pkB B)), (mm 1, I_ cA 15 (pkG G)), (mm 2, I_ cA 3 T), (mm 4, I_ cA 15 (pkG (cpN 3 G GA))), (mm 5, I_ cA 3 (cpT3 T TA))]))) _ := hP.sub [0, 4, 7, 1, 2, 3, 5, 6] rfl
        have hDq : va_D A ([] ++ (([oMod h mm 0 dy co ti ro n nb, (mm 3, I_ cA 64 (pkB Bx)), (mm 6, I_ cA 8 cx)]) ++ ([(mm 0, I_ cA 64 (pkB B)), (mm 1, I_ cA 15 (pkG G)), (mm 2, I_ cA 3 T), (mm 4, I_ cA 15 (pkG (cpN 3 G GA))), (mm 5, I_ cA 3 (cpT3 T TA))]))) := hD.sub [0, 4, 7, 1, 2, 3, 5, 6] (by decide) rfl
        refine goV ([]) ([(mm 0, I_ cA 64 (pkB B)), (mm 1, I_ cA 15 (pkG G)), (mm 2, I_ cA 3 T), (mm 4, I_ cA 15 (pkG (cpN 3 G GA))), (mm 5, I_ cA 3 (cpT3 T TA))]) hPq hDq hS hA (rnV (rest := []) (m_endYear sa tb D cA cL l h mm 0 dy co ti ro n nb (mm 3) Bx cx (show n ≤ 8 from by first | omega | assumption | decide) (show BInv n Bx from by subst hB; exact years_inv (cpN_inv hn hB0) y)) ([]) ([(mm 0, I_ cA 64 (pkB B)), (mm 1, I_ cA 15 (pkG G)), (mm 2, I_ cA 3 T), (mm 4, I_ cA 15 (pkG (cpN 3 G GA))), (mm 5, I_ cA 3 (cpT3 T TA))]) hPq hDq hS hA hE ⟨hx, hb, hml, hown, hts⟩ (cwV 1 hts gX5_best_X5_endYear rfl rfl rfl (by decide +kernel) ⟨(Nat.le_of_ble_eq_true rfl), (Nat.le_of_ble_eq_true rfl)⟩) 5 0 rfl rfl rfl rfl hl.1 rfl (Nat.le_of_ble_eq_true rfl) dX5_best_52 ⟨(Nat.le_of_ble_eq_true rfl), (Nat.le_of_ble_eq_true rfl)⟩) (fun _ => (show List.map Prod.fst _ = [h, mm 3, mm 6] from rfl).trans (show [h, mm 3, mm 6] = List.map Prod.fst _ from rfl)) (fun u_52 H locs hw_52 hP hD hS => ?_)
        have hP : va_P D vwCl (wMod cA h mm 0 dy co ti ro n nb B G T (yearB n Bx) (cpN 3 G GA) (cpT3 T TA) u_52) H := hP.sub [0, 3, 4, 5, 1, 6, 7, 2] rfl
        have hD : va_D A (wMod cA h mm 0 dy co ti ro n nb B G T (yearB n Bx) (cpN 3 G GA) (cpT3 T TA) u_52) := hD.sub [0, 3, 4, 5, 1, 6, 7, 2] (by decide) rfl
        refine lv_aload_n hx hb dX5_best_55 rfl (lv_at hl 0 rfl) ?_
        refine va_get (D := D) (ci := 5) (v := .ref (mm 3)) (C := RX5) (T := TX5) (N := 14) hx hb hts hwX5 hown hE.K hP 0 rfl rfl 10 (by decide) (hts (.fieldLink RX5 26 "SedgeBargesModel" "bAhead" "[I") (List.mem_of_getElem? (i := 2) rfl)) (fun _ h9 => h9) rfl dX5_best_56 ?_
        refine lv_bipush (v := 8) hx hb dX5_best_59 (by decide) ?_
        refine lv_iload_n hx hb dX5_best_61 rfl (lv_at hl 1 rfl) ?_
        refine rn_mul (a := 8) (b := k) hx hb dX5_best_62 ?_
        have hPq : va_P D vwCl ([] ++ (([(mm 3, I_ cA 64 (pkB (yearB n Bx)))]) ++ ([(h, .inr (5, [.int 0, .int dy, .int co, .int ti, .int ro, .int (nI n), .int (nI nb), .ref (mm 0), .ref (mm 1), .ref (mm 2), .ref (mm 3), .ref (mm 4), .ref (mm 5), .ref (mm 6)])), (mm 0, I_ cA 64 (pkB B)), (mm 1, I_ cA 15 (pkG G)), (mm 2, I_ cA 3 T), (mm 4, I_ cA 15 (pkG (cpN 3 G GA))), (mm 5, I_ cA 3 (cpT3 T TA)), (mm 6, I_ cA 8 u_52)]))) _ := hP.sub [4, 0, 1, 2, 3, 5, 6, 7] rfl
        have hDq : va_D A ([] ++ (([(mm 3, I_ cA 64 (pkB (yearB n Bx)))]) ++ ([(h, .inr (5, [.int 0, .int dy, .int co, .int ti, .int ro, .int (nI n), .int (nI nb), .ref (mm 0), .ref (mm 1), .ref (mm 2), .ref (mm 3), .ref (mm 4), .ref (mm 5), .ref (mm 6)])), (mm 0, I_ cA 64 (pkB B)), (mm 1, I_ cA 15 (pkG G)), (mm 2, I_ cA 3 T), (mm 4, I_ cA 15 (pkG (cpN 3 G GA))), (mm 5, I_ cA 3 (cpT3 T TA)), (mm 6, I_ cA 8 u_52)]))) := hD.sub [4, 0, 1, 2, 3, 5, 6, 7] (by decide) rfl
        refine goI ([]) ([(h, .inr (5, [.int 0, .int dy, .int co, .int ti, .int ro, .int (nI n), .int (nI nb), .ref (mm 0), .ref (mm 1), .ref (mm 2), .ref (mm 3), .ref (mm 4), .ref (mm 5), .ref (mm 6)])), (mm 0, I_ cA 64 (pkB B)), (mm 1, I_ cA 15 (pkG G)), (mm 2, I_ cA 3 T), (mm 4, I_ cA 15 (pkG (cpN 3 G GA))), (mm 5, I_ cA 3 (cpT3 T TA)), (mm 6, I_ cA 8 u_52)]) hPq hDq hS hA (rnS (rest := []) (m_givesSedge sa tb D cA cL l (mm 3) (yearB n Bx) k (show k < 8 from by first | omega | assumption | decide) (show ∃ j, j < 10 ∧ (yearB n Bx) 2 k = nI j from by subst hB; exact (years_inv (cpN_inv hn hB0) (y + 1) k hk).2.1)) ([]) ([(h, .inr (5, [.int 0, .int dy, .int co, .int ti, .int ro, .int (nI n), .int (nI nb), .ref (mm 0), .ref (mm 1), .ref (mm 2), .ref (mm 3), .ref (mm 4), .ref (mm 5), .ref (mm 6)])), (mm 0, I_ cA 64 (pkB B)), (mm 1, I_ cA 15 (pkG G)), (mm 2, I_ cA 3 T), (mm 4, I_ cA 15 (pkG (cpN 3 G GA))), (mm 5, I_ cA 3 (cpT3 T TA)), (mm 6, I_ cA 8 u_52)]) hPq hDq hS hA hE ⟨hx, hb, hml, hown, hts⟩ (va_cwS 2 hts gX5_best_X5_givesSedge rfl rfl rfl (by decide +kernel) ⟨(Nat.le_of_ble_eq_true rfl), (Nat.le_of_ble_eq_true rfl)⟩) rfl hl.1 rfl (Nat.le_of_ble_eq_true rfl) dX5_best_63 ⟨(Nat.le_of_ble_eq_true rfl), (Nat.le_of_ble_eq_true rfl)⟩) (fun _ => rfl) (fun r_63 u_63 H locs hw_63 hP hD hS => ?_)
        have hP : va_P D vwCl (wMod cA h mm 0 dy co ti ro n nb B G T (yearB n Bx) (cpN 3 G GA) (cpT3 T TA) u_52) H := hP.sub [1, 2, 3, 4, 0, 5, 6, 7] rfl
        have hD : va_D A (wMod cA h mm 0 dy co ti ro n nb B G T (yearB n Bx) (cpN 3 G GA) (cpT3 T TA) u_52) := hD.sub [1, 2, 3, 4, 0, 5, 6, 7] (by decide) rfl
        obtain rfl : r_63 = sgiv (yearB n Bx) k := hw_63
        refine lv_istore (lv' := [(5, .int (sgiv (yearB n Bx) k)), (0, .ref h), (1, .int (nI k)), (2, .int ys), (3, .int ms), (4, .int (nI (y + 1)))]) hx hb dX5_best_66 hl (by decide) rfl (fun ls hl => ?_)
        refine lv_iload hx hb dX5_best_68 (lv_at hl 0 rfl) ?_
        refine lv_iload_n hx hb dX5_best_70 rfl (lv_at hl 4 rfl) ?_
        refine lv_icmp_gt (tgt := 77) hx hb dX5_best_71 (by decide) (fun c_71 => ?_) (fun c_71 => ?_)
        · refine lv_iload hx hb dX5_best_77 (lv_at hl 5 rfl) ?_
          refine lv_istore_n (lv' := [(2, .int (nI (y + 1))), (5, .int (sgiv (yearB n Bx) k)), (0, .ref h), (1, .int (nI k)), (3, .int ms), (4, .int (nI (y + 1)))]) hx hb dX5_best_79 rfl hl (by decide) rfl (fun ls hl => ?_)
          refine lv_iload hx hb dX5_best_80 (lv_at hl 1 rfl) ?_
          refine lv_istore_n (lv' := [(3, .int (sgiv (yearB n Bx) k)), (2, .int (nI (y + 1))), (5, .int (sgiv (yearB n Bx) k)), (0, .ref h), (1, .int (nI k)), (4, .int (nI (y + 1)))]) hx hb dX5_best_82 rfl hl (by decide) rfl (fun ls hl => ?_)
          refine lv_iinc (v := (nI ((y + 1) + 1))) (lv' := [(4, .int (nI ((y + 1) + 1))), (3, .int (sgiv (yearB n Bx) k)), (2, .int (nI (y + 1))), (5, .int (sgiv (yearB n Bx) k)), (0, .ref h), (1, .int (nI k))]) (k := 5) hx hb dX5_best_83 hl rfl (iinc1 _) (by decide) rfl (fun ls hl => ?_)
          refine lv_goto (tgt := 40) hx hb dX5_best_86 (by decide) ?_
          exact ih_40  (y + 1) (sgiv (yearB n Bx) k) (nI (y + 1)) (yearB n Bx) u_52 (show 9 - (y + 1) < f_40 from by omega) (show (y + 1) ≤ 9 from by omega) (show (yearB n Bx) = yearsB n (y + 1) (cpN 8 B BA) from by subst hB; rfl) (show (sgiv (yearB n Bx) k) = (bestS n (cpN 8 B BA) k (y + 1)).1 from by subst hB; subst hm; first | exact (congrArg Prod.fst (best_gt (Int32.not_le.mpr c_71))).symm | exact (congrArg Prod.fst (best_le (Int32.not_lt.mp c_71))).symm) (show (nI (y + 1)) = (bestS n (cpN 8 B BA) k (y + 1)).2 from by subst hB; subst hm; subst hs; first | exact (congrArg Prod.snd (best_gt (Int32.not_le.mpr c_71))).symm | exact (congrArg Prod.snd (best_le (Int32.not_lt.mp c_71))).symm) _ _ hP hD hS ls (lv_sub hl [4, 5, 2, 1, 0] rfl)
        · refine lv_goto (tgt := 83) hx hb dX5_best_74 (by decide) ?_
          refine lv_iinc (v := (nI ((y + 1) + 1))) (lv' := [(4, .int (nI ((y + 1) + 1))), (5, .int (sgiv (yearB n Bx) k)), (0, .ref h), (1, .int (nI k)), (2, .int ys), (3, .int ms)]) (k := 5) hx hb dX5_best_83 hl rfl (iinc1 _) (by decide) rfl (fun ls hl => ?_)
          refine lv_goto (tgt := 40) hx hb dX5_best_86 (by decide) ?_
          exact ih_40  (y + 1) ms ys (yearB n Bx) u_52 (show 9 - (y + 1) < f_40 from by omega) (show (y + 1) ≤ 9 from by omega) (show (yearB n Bx) = yearsB n (y + 1) (cpN 8 B BA) from by subst hB; rfl) (show ms = (bestS n (cpN 8 B BA) k (y + 1)).1 from by subst hB; subst hm; first | exact (congrArg Prod.fst (best_gt (Int32.not_le.mpr c_71))).symm | exact (congrArg Prod.fst (best_le (Int32.not_lt.mp c_71))).symm) (show ys = (bestS n (cpN 8 B BA) k (y + 1)).2 from by subst hB; subst hm; subst hs; first | exact (congrArg Prod.snd (best_gt (Int32.not_le.mpr c_71))).symm | exact (congrArg Prod.snd (best_le (Int32.not_lt.mp c_71))).symm) _ _ hP hD hS ls (lv_sub hl [2, 3, 4, 5, 0] rfl)
  exact loop_40 ((9 - 0) + 1) 0 (sgiv (cpN 8 B BA) k) 0 (cpN 8 B BA) mo (Nat.lt_succ_self _) (show 0 ≤ 9 from by omega) (show (cpN 8 B BA) = yearsB n 0 (cpN 8 B BA) from rfl) (show (sgiv (cpN 8 B BA) k) = (bestS n (cpN 8 B BA) k 0).1 from rfl) (show 0 = (bestS n (cpN 8 B BA) k 0).2 from rfl) _ _ hP hD hS ls (lv_sub hl [3, 4, 2, 1, 0] rfl)
set_option maxRecDepth 100000 in
set_option maxHeartbeats 4000000 in
theorem m_best_1 (sa tb : Nat → Nat) (D : va_G) (cA cL : ClassId) (l : Launch) (h : Nat) (mm : Nat → Nat) (th : Int32) (dy : Int32) (co : Int32) (ti : Int32) (ro : Int32) (n : Nat) (nb : Nat) (B : Nat → Nat → Int32) (G : Nat → Nat → Int32) (T : Nat → Int32) (BA : Nat → Nat → Int32) (GA : Nat → Nat → Int32) (TA : Nat → Int32) (mo : Nat → Int32) (x : Int32) (hb0 : x < 0 ∨ ¬ x < nI n) (hn : n ≤ 8) : KM sa tb D cA cL l yX5_best wsX5_best ({ frames := 2, cells := 0, slots := 0, locals := 43 }) [.ref h, .int x] (wMod cA h mm th dy co ti ro n nb B G T BA GA TA mo) (qI D (fun (r : Int32) (_ : Unit) => r = 0) (fun _ => wMod cA h mm 1 dy co ti ro n nb B G T BA GA TA mo)) := by
  refine KM.of (cc := cX5_best) (maxL := 6) (ret := some .int) (by decide) rfl (Nat.le_of_ble_eq_true rfl) ?_
  intro pg e s m args below meth c A hx hb hr hml hlocks hts hown hS hA hE hP hD ls hl
  have hown : s.vm.findClass RX5 = some m.cls := hown
  have hl : lv_has ls 6 [(0, .ref h), (1, .int x)] := hl
  have hwX5 : ∀ w ∈ wsX50, w ∈ wsX5_best := (fun _ h => List.mem_cons_of_mem _ (List.mem_append_right _ h))
  refine lv_aload_n hx hb dX5_best_0 rfl (lv_at hl 0 rfl) ?_
  refine lv_iconst (v := 0) hx hb dX5_best_1 (by decide) ?_
  refine va_put (D := D) (ci := 5) (v := .int 0) (ty := .int) (C := RX5) (T := TX5) (N := 14) hx hb hts hwX5 tyX5 tyX5_ok nmX5 hown hE.K hP hD hS 0 rfl rfl 0 (by decide) (hts (.fieldLink RX5 38 "SedgeBargesModel" "thrown" "I") (List.mem_of_getElem? (i := 1) rfl)) (fun _ h9 => h9) rfl (by decide +kernel) rfl rfl (Nat.le_of_ble_eq_true rfl) dX5_best_2 (fun H locs hP hD hS => ?_)
  have hP : va_P D vwCl (wMod cA h mm 0 dy co ti ro n nb B G T BA GA TA mo) H := hP
  have hD : va_D A (wMod cA h mm 0 dy co ti ro n nb B G T BA GA TA mo) := hD
  refine lv_aload_n hx hb dX5_best_5 rfl (lv_at hl 0 rfl) ?_
  refine lv_iload_n hx hb dX5_best_6 rfl (lv_at hl 1 rfl) ?_
  refine goI ([]) ([(mm 0, I_ cA 64 (pkB B)), (mm 1, I_ cA 15 (pkG G)), (mm 2, I_ cA 3 T), (mm 3, I_ cA 64 (pkB BA)), (mm 4, I_ cA 15 (pkG GA)), (mm 5, I_ cA 3 TA), (mm 6, I_ cA 8 mo)]) hP hD hS hA (rnV (rest := []) (m_isBed sa tb D cA cL l h mm 0 dy co ti ro n nb x ) ([]) ([(mm 0, I_ cA 64 (pkB B)), (mm 1, I_ cA 15 (pkG G)), (mm 2, I_ cA 3 T), (mm 3, I_ cA 64 (pkB BA)), (mm 4, I_ cA 15 (pkG GA)), (mm 5, I_ cA 3 TA), (mm 6, I_ cA 8 mo)]) hP hD hS hA hE ⟨hx, hb, hml, hown, hts⟩ (cwV 1 hts gX5_best_X5_isBed rfl rfl rfl (by decide +kernel) ⟨(Nat.le_of_ble_eq_true rfl), (Nat.le_of_ble_eq_true rfl)⟩) 5 0 rfl rfl rfl rfl hl.1 rfl (Nat.le_of_ble_eq_true rfl) dX5_best_7 ⟨(Nat.le_of_ble_eq_true rfl), (Nat.le_of_ble_eq_true rfl)⟩) (fun _ => rfl) (fun r_7 u_7 H locs hw_7 hP hD hS => ?_)
  have hP : va_P D vwCl (wMod cA h mm 0 dy co ti ro n nb B G T BA GA TA mo) H := hP
  have hD : va_D A (wMod cA h mm 0 dy co ti ro n nb B G T BA GA TA mo) := hD
  obtain rfl : r_7 = bI (isInB x 0 (nI n - 1)) := hw_7
  refine lv_if_ne (tgt := 19) hx hb dX5_best_10 (by decide) (fun c_10 => False.elim (by exact c_10 (congrArg bI (isBed_no hb0 (by omega))))) (fun c_10 => ?_)
  refine lv_aload_n hx hb dX5_best_13 rfl (lv_at hl 0 rfl) ?_
  refine lv_iconst (v := 1) hx hb dX5_best_14 (by decide) ?_
  refine goI ([]) ([(mm 0, I_ cA 64 (pkB B)), (mm 1, I_ cA 15 (pkG G)), (mm 2, I_ cA 3 T), (mm 3, I_ cA 64 (pkB BA)), (mm 4, I_ cA 15 (pkG GA)), (mm 5, I_ cA 3 TA), (mm 6, I_ cA 8 mo)]) hP hD hS hA (rnV (rest := []) (m_no sa tb D cA cL l h mm 0 dy co ti ro n nb 1 ) ([]) ([(mm 0, I_ cA 64 (pkB B)), (mm 1, I_ cA 15 (pkG G)), (mm 2, I_ cA 3 T), (mm 3, I_ cA 64 (pkB BA)), (mm 4, I_ cA 15 (pkG GA)), (mm 5, I_ cA 3 TA), (mm 6, I_ cA 8 mo)]) hP hD hS hA hE ⟨hx, hb, hml, hown, hts⟩ (cwV 1 hts gX5_best_X5_no rfl rfl rfl (by decide +kernel) ⟨(Nat.le_of_ble_eq_true rfl), (Nat.le_of_ble_eq_true rfl)⟩) 5 0 rfl rfl rfl rfl hl.1 rfl (Nat.le_of_ble_eq_true rfl) dX5_best_15 ⟨(Nat.le_of_ble_eq_true rfl), (Nat.le_of_ble_eq_true rfl)⟩) (fun _ => (show List.map Prod.fst _ = [h] from rfl).trans (show [h] = List.map Prod.fst _ from rfl)) (fun r_15 u_15 H locs hw_15 hP hD hS => ?_)
  have hP : va_P D vwCl (wMod cA h mm 1 dy co ti ro n nb B G T BA GA TA mo) H := hP
  have hD : va_D A (wMod cA h mm 1 dy co ti ro n nb B G T BA GA TA mo) := hD
  obtain rfl : r_15 = 0 := hw_15
  exact enI () hx hb hr hlocks hS hP (rfl) dX5_best_18
set_option maxRecDepth 100000 in
set_option maxHeartbeats 4000000 in
theorem m_barge (sa tb : Nat → Nat) (D : va_G) (cA cL : ClassId) (l : Launch) (h : Nat) (mm : Nat → Nat) (th : Int32) (dy : Int32) (co : Int32) (ti : Int32) (ro : Int32) (n : Nat) (nb : Nat) (B : Nat → Nat → Int32) (G : Nat → Nat → Int32) (T : Nat → Int32) (BA : Nat → Nat → Int32) (GA : Nat → Nat → Int32) (TA : Nat → Int32) (mo : Nat → Int32) (p1 : Int32) (q0 : ¬ p1 < 0) (q1 : p1 ≤ 30) (hnb : nb < 3) : KM sa tb D cA cL l yX5_barge wsX5_barge ({ frames := 1, cells := 0, slots := 0, locals := 22 }) [.ref h, .int p1] (wMod cA h mm th dy co ti ro n nb B G T BA GA TA mo) (qI D (fun (r : Int32) (_ : Unit) => r = nI nb) (fun _ => wMod cA h mm 0 dy co ti ro n (nb + 1) B (addG G nb p1) T BA GA TA mo)) := by
  refine KM.of (cc := cX5_barge) (maxL := 2) (ret := some .int) (by decide) rfl (Nat.le_of_ble_eq_true rfl) ?_
  intro pg e s m args below meth c A hx hb hr hml hlocks hts hown hS hA hE hP hD ls hl
  have hown : s.vm.findClass RX5 = some m.cls := hown
  have hl : lv_has ls 2 [(0, .ref h), (1, .int p1)] := hl
  have hwX5 : ∀ w ∈ wsX50, w ∈ wsX5_barge := (fun _ h => List.mem_cons_of_mem _ (List.mem_append_right _ h))
  refine lv_aload_n hx hb dX5_barge_0 rfl (lv_at hl 0 rfl) ?_
  refine lv_iconst (v := 0) hx hb dX5_barge_1 (by decide) ?_
  refine va_put (D := D) (ci := 5) (v := .int 0) (ty := .int) (C := RX5) (T := TX5) (N := 14) hx hb hts hwX5 tyX5 tyX5_ok nmX5 hown hE.K hP hD hS 0 rfl rfl 0 (by decide) (hts (.fieldLink RX5 38 "SedgeBargesModel" "thrown" "I") (List.mem_of_getElem? (i := 1) rfl)) (fun _ h9 => h9) rfl (by decide +kernel) rfl rfl (Nat.le_of_ble_eq_true rfl) dX5_barge_2 (fun H locs hP hD hS => ?_)
  have hP : va_P D vwCl (wMod cA h mm 0 dy co ti ro n nb B G T BA GA TA mo) H := hP
  have hD : va_D A (wMod cA h mm 0 dy co ti ro n nb B G T BA GA TA mo) := hD
  refine lv_iload_n hx hb dX5_barge_5 rfl (lv_at hl 1 rfl) ?_
  refine lv_iconst (v := 0) hx hb dX5_barge_6 (by decide) ?_
  refine lv_bipush (v := 30) hx hb dX5_barge_7 (by decide) ?_
  refine goI ([]) (wMod cA h mm 0 dy co ti ro n nb B G T BA GA TA mo) hP hD hS hA (rnS (rest := []) (m_isIn sa tb D cA cL l p1 0 30 ) ([]) (wMod cA h mm 0 dy co ti ro n nb B G T BA GA TA mo) hP hD hS hA hE ⟨hx, hb, hml, hown, hts⟩ (va_cwS 3 hts gX5_barge_X5_isIn rfl rfl rfl (by decide +kernel) ⟨(Nat.le_of_ble_eq_true rfl), (Nat.le_of_ble_eq_true rfl)⟩) rfl hl.1 rfl (Nat.le_of_ble_eq_true rfl) dX5_barge_9 ⟨(Nat.le_of_ble_eq_true rfl), (Nat.le_of_ble_eq_true rfl)⟩) (fun _ => rfl) (fun r_9 u_9 H locs hw_9 hP hD hS => ?_)
  have hP : va_P D vwCl (wMod cA h mm 0 dy co ti ro n nb B G T BA GA TA mo) H := hP
  have hD : va_D A (wMod cA h mm 0 dy co ti ro n nb B G T BA GA TA mo) := hD
  obtain rfl : r_9 = bI (isInB p1 0 30) := hw_9
  refine lv_if_ne (tgt := 21) hx hb dX5_barge_12 (by decide) (fun c_12 => ?_) (fun c_12 => False.elim (by exact absurd ((bI0 c_12).symm.trans (isIn_yes q0 q1)) (by decide)))
  refine lv_aload_n hx hb dX5_barge_21 rfl (lv_at hl 0 rfl) ?_
  refine va_get (D := D) (ci := 5) (v := .int (nI nb)) (C := RX5) (T := TX5) (N := 14) hx hb hts hwX5 hown hE.K hP 0 rfl rfl 6 (by decide) (hts (.fieldLink RX5 48 "SedgeBargesModel" "barges" "I") (List.mem_of_getElem? (i := 2) rfl)) (fun _ h9 => h9) rfl dX5_barge_22 ?_
  refine lv_iconst (v := 3) hx hb dX5_barge_25 (by decide) ?_
  refine rc_ne (tgt := 35) (a := nb) (b := 3) hx hb (by omega) (by omega) dX5_barge_26 (by decide) (fun c_26 => ?_) (fun c_26 => False.elim (by omega))
  refine lv_aload_n hx hb dX5_barge_35 rfl (lv_at hl 0 rfl) ?_
  refine va_get (D := D) (ci := 5) (v := .ref (mm 1)) (C := RX5) (T := TX5) (N := 14) hx hb hts hwX5 hown hE.K hP 0 rfl rfl 8 (by decide) (hts (.fieldLink RX5 20 "SedgeBargesModel" "g" "[I") (List.mem_of_getElem? (i := 3) rfl)) (fun _ h9 => h9) rfl dX5_barge_36 ?_
  refine lv_iconst (v := 5) hx hb dX5_barge_39 (by decide) ?_
  refine lv_aload_n hx hb dX5_barge_40 rfl (lv_at hl 0 rfl) ?_
  refine va_get (D := D) (ci := 5) (v := .int (nI nb)) (C := RX5) (T := TX5) (N := 14) hx hb hts hwX5 hown hE.K hP 0 rfl rfl 6 (by decide) (hts (.fieldLink RX5 48 "SedgeBargesModel" "barges" "I") (List.mem_of_getElem? (i := 2) rfl)) (fun _ h9 => h9) rfl dX5_barge_41 ?_
  refine rn_mul (a := 5) (b := nb) hx hb dX5_barge_44 ?_
  refine lv_iload_n hx hb dX5_barge_45 rfl (lv_at hl 1 rfl) ?_
  refine r_ast (f := pkG G) (g := pkG (st G 0 nb p1)) hx hb hE hP hD hS 2 (5 * nb + 0) rfl (congrArg nI (by omega)) (by omega) (by decide) (pkG_up 0 (nb) _ (by decide)) dX5_barge_46 (fun H locs hP hD hS => ?_)
  have hP : va_P D vwCl (wMod cA h mm 0 dy co ti ro n nb B (st G 0 nb p1) T BA GA TA mo) H := hP
  have hD : va_D A (wMod cA h mm 0 dy co ti ro n nb B (st G 0 nb p1) T BA GA TA mo) := hD
  generalize hG_1 : st G 0 nb p1 = G_1 at hP hD
  refine lv_aload_n hx hb dX5_barge_47 rfl (lv_at hl 0 rfl) ?_
  refine va_get (D := D) (ci := 5) (v := .ref (mm 1)) (C := RX5) (T := TX5) (N := 14) hx hb hts hwX5 hown hE.K hP 0 rfl rfl 8 (by decide) (hts (.fieldLink RX5 20 "SedgeBargesModel" "g" "[I") (List.mem_of_getElem? (i := 3) rfl)) (fun _ h9 => h9) rfl dX5_barge_48 ?_
  refine lv_iconst (v := 5) hx hb dX5_barge_51 (by decide) ?_
  refine lv_aload_n hx hb dX5_barge_52 rfl (lv_at hl 0 rfl) ?_
  refine va_get (D := D) (ci := 5) (v := .int (nI nb)) (C := RX5) (T := TX5) (N := 14) hx hb hts hwX5 hown hE.K hP 0 rfl rfl 6 (by decide) (hts (.fieldLink RX5 48 "SedgeBargesModel" "barges" "I") (List.mem_of_getElem? (i := 2) rfl)) (fun _ h9 => h9) rfl dX5_barge_53 ?_
  refine rn_mul (a := 5) (b := nb) hx hb dX5_barge_56 ?_
  refine lv_iconst (v := 1) hx hb dX5_barge_57 (by decide) ?_
  refine rn_add (a := 5 * nb) (b := 1) hx hb dX5_barge_58 ?_
  refine lv_iconst (v := (-1)) hx hb dX5_barge_59 (by decide) ?_
  refine r_ast (f := pkG G_1) (g := pkG (st G_1 1 nb (-1))) hx hb hE hP hD hS 2 (5 * nb + 1) rfl (congrArg nI (by omega)) (by omega) (by decide) (pkG_up 1 (nb) _ (by decide)) dX5_barge_60 (fun H locs hP hD hS => ?_)
  have hP : va_P D vwCl (wMod cA h mm 0 dy co ti ro n nb B (st G_1 1 nb (-1)) T BA GA TA mo) H := hP
  have hD : va_D A (wMod cA h mm 0 dy co ti ro n nb B (st G_1 1 nb (-1)) T BA GA TA mo) := hD
  generalize hG_2 : st G_1 1 nb (-1) = G_2 at hP hD
  refine lv_aload_n hx hb dX5_barge_61 rfl (lv_at hl 0 rfl) ?_
  refine lv_dup hx hb dX5_barge_62 rfl ?_
  refine va_get (D := D) (ci := 5) (v := .int (nI nb)) (C := RX5) (T := TX5) (N := 14) hx hb hts hwX5 hown hE.K hP 0 rfl rfl 6 (by decide) (hts (.fieldLink RX5 48 "SedgeBargesModel" "barges" "I") (List.mem_of_getElem? (i := 2) rfl)) (fun _ h9 => h9) rfl dX5_barge_63 ?_
  refine lv_iconst (v := 1) hx hb dX5_barge_66 (by decide) ?_
  refine rn_add (a := nb) (b := 1) hx hb dX5_barge_67 ?_
  refine va_put (D := D) (ci := 5) (v := .int (nI (nb + 1))) (ty := .int) (C := RX5) (T := TX5) (N := 14) hx hb hts hwX5 tyX5 tyX5_ok nmX5 hown hE.K hP hD hS 0 rfl rfl 6 (by decide) (hts (.fieldLink RX5 48 "SedgeBargesModel" "barges" "I") (List.mem_of_getElem? (i := 2) rfl)) (fun _ h9 => h9) rfl (by decide +kernel) rfl rfl (Nat.le_of_ble_eq_true rfl) dX5_barge_68 (fun H locs hP hD hS => ?_)
  have hP : va_P D vwCl (wMod cA h mm 0 dy co ti ro n (nb + 1) B G_2 T BA GA TA mo) H := hP
  have hD : va_D A (wMod cA h mm 0 dy co ti ro n (nb + 1) B G_2 T BA GA TA mo) := hD
  refine lv_aload_n hx hb dX5_barge_71 rfl (lv_at hl 0 rfl) ?_
  refine va_get (D := D) (ci := 5) (v := .int (nI (nb + 1))) (C := RX5) (T := TX5) (N := 14) hx hb hts hwX5 hown hE.K hP 0 rfl rfl 6 (by decide) (hts (.fieldLink RX5 48 "SedgeBargesModel" "barges" "I") (List.mem_of_getElem? (i := 2) rfl)) (fun _ h9 => h9) rfl dX5_barge_72 ?_
  refine lv_iconst (v := 1) hx hb dX5_barge_75 (by decide) ?_
  refine rn_sub (a := nb + 1) (b := 1) (c1 := nb + 0) (by omega) hx hb dX5_barge_76 ?_
  subst hG_2
  subst hG_1
  have hW_G : addG G nb p1 = (st (st G 0 nb p1) 1 nb (-1)) := by unfold addG; rfl
  rw [← hW_G] at hP
  exact enI () hx hb hr hlocks hS hP (rfl) dX5_barge_77
set_option maxRecDepth 100000 in
set_option maxHeartbeats 4000000 in
theorem m_barge_1 (sa tb : Nat → Nat) (D : va_G) (cA cL : ClassId) (l : Launch) (h : Nat) (mm : Nat → Nat) (th : Int32) (dy : Int32) (co : Int32) (ti : Int32) (ro : Int32) (n : Nat) (nb : Nat) (B : Nat → Nat → Int32) (G : Nat → Nat → Int32) (T : Nat → Int32) (BA : Nat → Nat → Int32) (GA : Nat → Nat → Int32) (TA : Nat → Int32) (mo : Nat → Int32) (p1 : Int32) (hb0 : p1 < 0 ∨ ¬ p1 ≤ 30) : KM sa tb D cA cL l yX5_barge wsX5_barge ({ frames := 1, cells := 0, slots := 0, locals := 22 }) [.ref h, .int p1] (wMod cA h mm th dy co ti ro n nb B G T BA GA TA mo) (qI D (fun (r : Int32) (_ : Unit) => r = 0) (fun _ => wMod cA h mm 1 dy co ti ro n nb B G T BA GA TA mo)) := by
  refine KM.of (cc := cX5_barge) (maxL := 2) (ret := some .int) (by decide) rfl (Nat.le_of_ble_eq_true rfl) ?_
  intro pg e s m args below meth c A hx hb hr hml hlocks hts hown hS hA hE hP hD ls hl
  have hown : s.vm.findClass RX5 = some m.cls := hown
  have hl : lv_has ls 2 [(0, .ref h), (1, .int p1)] := hl
  have hwX5 : ∀ w ∈ wsX50, w ∈ wsX5_barge := (fun _ h => List.mem_cons_of_mem _ (List.mem_append_right _ h))
  refine lv_aload_n hx hb dX5_barge_0 rfl (lv_at hl 0 rfl) ?_
  refine lv_iconst (v := 0) hx hb dX5_barge_1 (by decide) ?_
  refine va_put (D := D) (ci := 5) (v := .int 0) (ty := .int) (C := RX5) (T := TX5) (N := 14) hx hb hts hwX5 tyX5 tyX5_ok nmX5 hown hE.K hP hD hS 0 rfl rfl 0 (by decide) (hts (.fieldLink RX5 38 "SedgeBargesModel" "thrown" "I") (List.mem_of_getElem? (i := 1) rfl)) (fun _ h9 => h9) rfl (by decide +kernel) rfl rfl (Nat.le_of_ble_eq_true rfl) dX5_barge_2 (fun H locs hP hD hS => ?_)
  have hP : va_P D vwCl (wMod cA h mm 0 dy co ti ro n nb B G T BA GA TA mo) H := hP
  have hD : va_D A (wMod cA h mm 0 dy co ti ro n nb B G T BA GA TA mo) := hD
  refine lv_iload_n hx hb dX5_barge_5 rfl (lv_at hl 1 rfl) ?_
  refine lv_iconst (v := 0) hx hb dX5_barge_6 (by decide) ?_
  refine lv_bipush (v := 30) hx hb dX5_barge_7 (by decide) ?_
  refine goI ([]) (wMod cA h mm 0 dy co ti ro n nb B G T BA GA TA mo) hP hD hS hA (rnS (rest := []) (m_isIn sa tb D cA cL l p1 0 30 ) ([]) (wMod cA h mm 0 dy co ti ro n nb B G T BA GA TA mo) hP hD hS hA hE ⟨hx, hb, hml, hown, hts⟩ (va_cwS 3 hts gX5_barge_X5_isIn rfl rfl rfl (by decide +kernel) ⟨(Nat.le_of_ble_eq_true rfl), (Nat.le_of_ble_eq_true rfl)⟩) rfl hl.1 rfl (Nat.le_of_ble_eq_true rfl) dX5_barge_9 ⟨(Nat.le_of_ble_eq_true rfl), (Nat.le_of_ble_eq_true rfl)⟩) (fun _ => rfl) (fun r_9 u_9 H locs hw_9 hP hD hS => ?_)
  have hP : va_P D vwCl (wMod cA h mm 0 dy co ti ro n nb B G T BA GA TA mo) H := hP
  have hD : va_D A (wMod cA h mm 0 dy co ti ro n nb B G T BA GA TA mo) := hD
  obtain rfl : r_9 = bI (isInB p1 0 30) := hw_9
  refine lv_if_ne (tgt := 21) hx hb dX5_barge_12 (by decide) (fun c_12 => False.elim (by exact c_12 (congrArg bI (isIn_no hb0)))) (fun c_12 => ?_)
  refine lv_aload_n hx hb dX5_barge_15 rfl (lv_at hl 0 rfl) ?_
  refine lv_iconst (v := 1) hx hb dX5_barge_16 (by decide) ?_
  refine goI ([]) ([(mm 0, I_ cA 64 (pkB B)), (mm 1, I_ cA 15 (pkG G)), (mm 2, I_ cA 3 T), (mm 3, I_ cA 64 (pkB BA)), (mm 4, I_ cA 15 (pkG GA)), (mm 5, I_ cA 3 TA), (mm 6, I_ cA 8 mo)]) hP hD hS hA (rnV (rest := []) (m_no sa tb D cA cL l h mm 0 dy co ti ro n nb 1 ) ([]) ([(mm 0, I_ cA 64 (pkB B)), (mm 1, I_ cA 15 (pkG G)), (mm 2, I_ cA 3 T), (mm 3, I_ cA 64 (pkB BA)), (mm 4, I_ cA 15 (pkG GA)), (mm 5, I_ cA 3 TA), (mm 6, I_ cA 8 mo)]) hP hD hS hA hE ⟨hx, hb, hml, hown, hts⟩ (cwV 1 hts gX5_barge_X5_no rfl rfl rfl (by decide +kernel) ⟨(Nat.le_of_ble_eq_true rfl), (Nat.le_of_ble_eq_true rfl)⟩) 5 0 rfl rfl rfl rfl hl.1 rfl (Nat.le_of_ble_eq_true rfl) dX5_barge_17 ⟨(Nat.le_of_ble_eq_true rfl), (Nat.le_of_ble_eq_true rfl)⟩) (fun _ => (show List.map Prod.fst _ = [h] from rfl).trans (show [h] = List.map Prod.fst _ from rfl)) (fun r_17 u_17 H locs hw_17 hP hD hS => ?_)
  have hP : va_P D vwCl (wMod cA h mm 1 dy co ti ro n nb B G T BA GA TA mo) H := hP
  have hD : va_D A (wMod cA h mm 1 dy co ti ro n nb B G T BA GA TA mo) := hD
  obtain rfl : r_17 = 0 := hw_17
  exact enI () hx hb hr hlocks hS hP (rfl) dX5_barge_20
set_option maxRecDepth 100000 in
set_option maxHeartbeats 4000000 in
theorem m_barge_2 (sa tb : Nat → Nat) (D : va_G) (cA cL : ClassId) (l : Launch) (h : Nat) (mm : Nat → Nat) (th : Int32) (dy : Int32) (co : Int32) (ti : Int32) (ro : Int32) (n : Nat) (nb : Nat) (B : Nat → Nat → Int32) (G : Nat → Nat → Int32) (T : Nat → Int32) (BA : Nat → Nat → Int32) (GA : Nat → Nat → Int32) (TA : Nat → Int32) (mo : Nat → Int32) (p1 : Int32) (q0 : ¬ p1 < 0) (q1 : p1 ≤ 30) (hnb : nb = 3) : KM sa tb D cA cL l yX5_barge wsX5_barge ({ frames := 1, cells := 0, slots := 0, locals := 22 }) [.ref h, .int p1] (wMod cA h mm th dy co ti ro n nb B G T BA GA TA mo) (qI D (fun (r : Int32) (_ : Unit) => r = 0) (fun _ => wMod cA h mm 2 dy co ti ro n nb B G T BA GA TA mo)) := by
  refine KM.of (cc := cX5_barge) (maxL := 2) (ret := some .int) (by decide) rfl (Nat.le_of_ble_eq_true rfl) ?_
  intro pg e s m args below meth c A hx hb hr hml hlocks hts hown hS hA hE hP hD ls hl
  have hown : s.vm.findClass RX5 = some m.cls := hown
  have hl : lv_has ls 2 [(0, .ref h), (1, .int p1)] := hl
  have hwX5 : ∀ w ∈ wsX50, w ∈ wsX5_barge := (fun _ h => List.mem_cons_of_mem _ (List.mem_append_right _ h))
  refine lv_aload_n hx hb dX5_barge_0 rfl (lv_at hl 0 rfl) ?_
  refine lv_iconst (v := 0) hx hb dX5_barge_1 (by decide) ?_
  refine va_put (D := D) (ci := 5) (v := .int 0) (ty := .int) (C := RX5) (T := TX5) (N := 14) hx hb hts hwX5 tyX5 tyX5_ok nmX5 hown hE.K hP hD hS 0 rfl rfl 0 (by decide) (hts (.fieldLink RX5 38 "SedgeBargesModel" "thrown" "I") (List.mem_of_getElem? (i := 1) rfl)) (fun _ h9 => h9) rfl (by decide +kernel) rfl rfl (Nat.le_of_ble_eq_true rfl) dX5_barge_2 (fun H locs hP hD hS => ?_)
  have hP : va_P D vwCl (wMod cA h mm 0 dy co ti ro n nb B G T BA GA TA mo) H := hP
  have hD : va_D A (wMod cA h mm 0 dy co ti ro n nb B G T BA GA TA mo) := hD
  refine lv_iload_n hx hb dX5_barge_5 rfl (lv_at hl 1 rfl) ?_
  refine lv_iconst (v := 0) hx hb dX5_barge_6 (by decide) ?_
  refine lv_bipush (v := 30) hx hb dX5_barge_7 (by decide) ?_
  refine goI ([]) (wMod cA h mm 0 dy co ti ro n nb B G T BA GA TA mo) hP hD hS hA (rnS (rest := []) (m_isIn sa tb D cA cL l p1 0 30 ) ([]) (wMod cA h mm 0 dy co ti ro n nb B G T BA GA TA mo) hP hD hS hA hE ⟨hx, hb, hml, hown, hts⟩ (va_cwS 3 hts gX5_barge_X5_isIn rfl rfl rfl (by decide +kernel) ⟨(Nat.le_of_ble_eq_true rfl), (Nat.le_of_ble_eq_true rfl)⟩) rfl hl.1 rfl (Nat.le_of_ble_eq_true rfl) dX5_barge_9 ⟨(Nat.le_of_ble_eq_true rfl), (Nat.le_of_ble_eq_true rfl)⟩) (fun _ => rfl) (fun r_9 u_9 H locs hw_9 hP hD hS => ?_)
  have hP : va_P D vwCl (wMod cA h mm 0 dy co ti ro n nb B G T BA GA TA mo) H := hP
  have hD : va_D A (wMod cA h mm 0 dy co ti ro n nb B G T BA GA TA mo) := hD
  obtain rfl : r_9 = bI (isInB p1 0 30) := hw_9
  refine lv_if_ne (tgt := 21) hx hb dX5_barge_12 (by decide) (fun c_12 => ?_) (fun c_12 => False.elim (by exact absurd ((bI0 c_12).symm.trans (isIn_yes q0 q1)) (by decide)))
  refine lv_aload_n hx hb dX5_barge_21 rfl (lv_at hl 0 rfl) ?_
  refine va_get (D := D) (ci := 5) (v := .int (nI nb)) (C := RX5) (T := TX5) (N := 14) hx hb hts hwX5 hown hE.K hP 0 rfl rfl 6 (by decide) (hts (.fieldLink RX5 48 "SedgeBargesModel" "barges" "I") (List.mem_of_getElem? (i := 2) rfl)) (fun _ h9 => h9) rfl dX5_barge_22 ?_
  refine lv_iconst (v := 3) hx hb dX5_barge_25 (by decide) ?_
  refine rc_ne (tgt := 35) (a := nb) (b := 3) hx hb (by omega) (by omega) dX5_barge_26 (by decide) (fun c_26 => False.elim (by omega)) (fun c_26 => ?_)
  refine lv_aload_n hx hb dX5_barge_29 rfl (lv_at hl 0 rfl) ?_
  refine lv_iconst (v := 2) hx hb dX5_barge_30 (by decide) ?_
  refine goI ([]) ([(mm 0, I_ cA 64 (pkB B)), (mm 1, I_ cA 15 (pkG G)), (mm 2, I_ cA 3 T), (mm 3, I_ cA 64 (pkB BA)), (mm 4, I_ cA 15 (pkG GA)), (mm 5, I_ cA 3 TA), (mm 6, I_ cA 8 mo)]) hP hD hS hA (rnV (rest := []) (m_no sa tb D cA cL l h mm 0 dy co ti ro n nb 2 ) ([]) ([(mm 0, I_ cA 64 (pkB B)), (mm 1, I_ cA 15 (pkG G)), (mm 2, I_ cA 3 T), (mm 3, I_ cA 64 (pkB BA)), (mm 4, I_ cA 15 (pkG GA)), (mm 5, I_ cA 3 TA), (mm 6, I_ cA 8 mo)]) hP hD hS hA hE ⟨hx, hb, hml, hown, hts⟩ (cwV 1 hts gX5_barge_X5_no rfl rfl rfl (by decide +kernel) ⟨(Nat.le_of_ble_eq_true rfl), (Nat.le_of_ble_eq_true rfl)⟩) 5 0 rfl rfl rfl rfl hl.1 rfl (Nat.le_of_ble_eq_true rfl) dX5_barge_31 ⟨(Nat.le_of_ble_eq_true rfl), (Nat.le_of_ble_eq_true rfl)⟩) (fun _ => (show List.map Prod.fst _ = [h] from rfl).trans (show [h] = List.map Prod.fst _ from rfl)) (fun r_31 u_31 H locs hw_31 hP hD hS => ?_)
  have hP : va_P D vwCl (wMod cA h mm 2 dy co ti ro n nb B G T BA GA TA mo) H := hP
  have hD : va_D A (wMod cA h mm 2 dy co ti ro n nb B G T BA GA TA mo) := hD
  obtain rfl : r_31 = 0 := hw_31
  exact enI () hx hb hr hlocks hS hP (rfl) dX5_barge_34
set_option maxRecDepth 100000 in
set_option maxHeartbeats 4000000 in
theorem m_days (sa tb : Nat → Nat) (D : va_G) (cA cL : ClassId) (l : Launch) (p1 : Int32) (p2 : Int32)  : KM sa tb D cA cL l yX5_days wsX5_days ({ frames := 1, cells := 0, slots := 0, locals := 24 }) [.int p1, .int p2] ([]) (qI D (fun (r : Int32) (_ : Unit) => r = (iabs (p1 - p2) + 4) / 5) (fun _ => [])) := by
  refine KM.of (cc := cX5_days) (maxL := 2) (ret := some .int) (by decide) rfl (Nat.le_of_ble_eq_true rfl) ?_
  intro pg e s m args below meth c A hx hb hr hml hlocks hts hown hS hA hE hP hD ls hl
  have hown : s.vm.findClass RX5 = some m.cls := hown
  have hl : lv_has ls 2 [(0, .int p1), (1, .int p2)] := hl
  refine lv_iload_n hx hb dX5_days_0 rfl (lv_at hl 0 rfl) ?_
  refine lv_iload_n hx hb dX5_days_1 rfl (lv_at hl 1 rfl) ?_
  refine lv_isub hx hb dX5_days_2 ?_
  refine r_mabs hx hb (hml.trans hl.1.symm) hown (hts (.methodLink RX5 88 Lib.Math.abs.name) (List.mem_of_getElem? (i := 1) rfl)) (hts (.static Lib.Math.abs.name) (List.mem_of_getElem? (i := 2) rfl)) (hts (.initialized "java/lang/Math") (List.mem_of_getElem? (i := 3) rfl)) (hts (.code Lib.Math.abs.name Lib.Math.abs.code 1 (some .int)) (List.mem_of_getElem? (i := 4) rfl)) (Nat.le_of_ble_eq_true rfl) (Nat.le_of_ble_eq_true rfl) (Nat.le_of_ble_eq_true rfl) (Nat.le_of_ble_eq_true rfl) dX5_days_3 ?_
  refine lv_iconst (v := 4) hx hb dX5_days_6 (by decide) ?_
  refine lv_iadd hx hb dX5_days_7 ?_
  refine lv_iconst (v := 5) hx hb dX5_days_8 (by decide) ?_
  refine lv_idiv hx hb dX5_days_9 (by decide) ?_
  exact enI () hx hb hr hlocks hS hP (rfl) dX5_days_10
set_option maxRecDepth 100000 in
set_option maxHeartbeats 4000000 in
theorem m_sail (sa tb : Nat → Nat) (D : va_G) (cA cL : ClassId) (l : Launch) (h : Nat) (mm : Nat → Nat) (th : Int32) (dy : Int32) (co : Int32) (ti : Int32) (ro : Int32) (n : Nat) (nb : Nat) (B : Nat → Nat → Int32) (G : Nat → Nat → Int32) (T : Nat → Int32) (BA : Nat → Nat → Int32) (GA : Nat → Nat → Int32) (TA : Nat → Int32) (mo : Nat → Int32) (k : Nat) (p1 : Int32) (hk : k < nb) (hnb : nb ≤ 3) (q0 : ¬ p1 < 0) (q1 : p1 ≤ 30) (hpl : ∃ p, p < 31 ∧ G 0 k = nI p) (hq9 : ∃ q, q < 31 ∧ p1 = nI q) : KM sa tb D cA cL l yX5_sail wsX5_sail ({ frames := 2, cells := 0, slots := 0, locals := 45 }) [.ref h, .int (nI k), .int p1] (wMod cA h mm th dy co ti ro n nb B G T BA GA TA mo) (qI D (fun (r : Int32) (_ : Unit) => r = sendD G k p1) (fun _ => wMod cA h mm 0 dy co ti ro n nb B (sendG G k p1) T BA GA TA mo)) := by
  refine KM.of (cc := cX5_sail) (maxL := 4) (ret := some .int) (by decide) rfl (Nat.le_of_ble_eq_true rfl) ?_
  intro pg e s m args below meth c A hx hb hr hml hlocks hts hown hS hA hE hP hD ls hl
  have hown : s.vm.findClass RX5 = some m.cls := hown
  have hl : lv_has ls 4 [(0, .ref h), (1, .int (nI k)), (2, .int p1)] := hl
  have hwX5 : ∀ w ∈ wsX50, w ∈ wsX5_sail := (fun _ h => List.mem_cons_of_mem _ (List.mem_append_right _ h))
  refine lv_aload_n hx hb dX5_sail_0 rfl (lv_at hl 0 rfl) ?_
  refine lv_iconst (v := 0) hx hb dX5_sail_1 (by decide) ?_
  refine va_put (D := D) (ci := 5) (v := .int 0) (ty := .int) (C := RX5) (T := TX5) (N := 14) hx hb hts hwX5 tyX5 tyX5_ok nmX5 hown hE.K hP hD hS 0 rfl rfl 0 (by decide) (hts (.fieldLink RX5 38 "SedgeBargesModel" "thrown" "I") (List.mem_of_getElem? (i := 1) rfl)) (fun _ h9 => h9) rfl (by decide +kernel) rfl rfl (Nat.le_of_ble_eq_true rfl) dX5_sail_2 (fun H locs hP hD hS => ?_)
  have hP : va_P D vwCl (wMod cA h mm 0 dy co ti ro n nb B G T BA GA TA mo) H := hP
  have hD : va_D A (wMod cA h mm 0 dy co ti ro n nb B G T BA GA TA mo) := hD
  refine lv_aload_n hx hb dX5_sail_5 rfl (lv_at hl 0 rfl) ?_
  refine lv_iload_n hx hb dX5_sail_6 rfl (lv_at hl 1 rfl) ?_
  refine goI ([]) ([(mm 0, I_ cA 64 (pkB B)), (mm 1, I_ cA 15 (pkG G)), (mm 2, I_ cA 3 T), (mm 3, I_ cA 64 (pkB BA)), (mm 4, I_ cA 15 (pkG GA)), (mm 5, I_ cA 3 TA), (mm 6, I_ cA 8 mo)]) hP hD hS hA (rnV (rest := []) (m_isBarge sa tb D cA cL l h mm 0 dy co ti ro n nb (nI k) ) ([]) ([(mm 0, I_ cA 64 (pkB B)), (mm 1, I_ cA 15 (pkG G)), (mm 2, I_ cA 3 T), (mm 3, I_ cA 64 (pkB BA)), (mm 4, I_ cA 15 (pkG GA)), (mm 5, I_ cA 3 TA), (mm 6, I_ cA 8 mo)]) hP hD hS hA hE ⟨hx, hb, hml, hown, hts⟩ (cwV 1 hts gX5_sail_X5_isBarge rfl rfl rfl (by decide +kernel) ⟨(Nat.le_of_ble_eq_true rfl), (Nat.le_of_ble_eq_true rfl)⟩) 5 0 rfl rfl rfl rfl hl.1 rfl (Nat.le_of_ble_eq_true rfl) dX5_sail_7 ⟨(Nat.le_of_ble_eq_true rfl), (Nat.le_of_ble_eq_true rfl)⟩) (fun _ => rfl) (fun r_7 u_7 H locs hw_7 hP hD hS => ?_)
  have hP : va_P D vwCl (wMod cA h mm 0 dy co ti ro n nb B G T BA GA TA mo) H := hP
  have hD : va_D A (wMod cA h mm 0 dy co ti ro n nb B G T BA GA TA mo) := hD
  obtain rfl : r_7 = bI (isInB (nI k) 0 (nI nb - 1)) := hw_7
  refine lv_if_eq (tgt := 23) hx hb dX5_sail_10 (by decide) (fun c_10 => False.elim (by exact absurd ((bI0 c_10).symm.trans (isBed_yes hk (by omega))) (by decide))) (fun c_10 => ?_)
  refine lv_iload_n hx hb dX5_sail_13 rfl (lv_at hl 2 rfl) ?_
  refine lv_iconst (v := 0) hx hb dX5_sail_14 (by decide) ?_
  refine lv_bipush (v := 30) hx hb dX5_sail_15 (by decide) ?_
  refine goI ([]) (wMod cA h mm 0 dy co ti ro n nb B G T BA GA TA mo) hP hD hS hA (rnS (rest := []) (m_isIn sa tb D cA cL l p1 0 30 ) ([]) (wMod cA h mm 0 dy co ti ro n nb B G T BA GA TA mo) hP hD hS hA hE ⟨hx, hb, hml, hown, hts⟩ (va_cwS 3 hts gX5_sail_X5_isIn rfl rfl rfl (by decide +kernel) ⟨(Nat.le_of_ble_eq_true rfl), (Nat.le_of_ble_eq_true rfl)⟩) rfl hl.1 rfl (Nat.le_of_ble_eq_true rfl) dX5_sail_17 ⟨(Nat.le_of_ble_eq_true rfl), (Nat.le_of_ble_eq_true rfl)⟩) (fun _ => rfl) (fun r_17 u_17 H locs hw_17 hP hD hS => ?_)
  have hP : va_P D vwCl (wMod cA h mm 0 dy co ti ro n nb B G T BA GA TA mo) H := hP
  have hD : va_D A (wMod cA h mm 0 dy co ti ro n nb B G T BA GA TA mo) := hD
  obtain rfl : r_17 = bI (isInB p1 0 30) := hw_17
  refine lv_if_ne (tgt := 29) hx hb dX5_sail_20 (by decide) (fun c_20 => ?_) (fun c_20 => False.elim (by exact absurd ((bI0 c_20).symm.trans (isIn_yes q0 q1)) (by decide)))
  refine lv_iconst (v := 5) hx hb dX5_sail_29 (by decide) ?_
  refine lv_iload_n hx hb dX5_sail_30 rfl (lv_at hl 1 rfl) ?_
  refine rn_mul (a := 5) (b := k) hx hb dX5_sail_31 ?_
  refine lv_istore_n (lv' := [(3, .int (nI (5 * k))), (0, .ref h), (1, .int (nI k)), (2, .int p1)]) hx hb dX5_sail_32 rfl hl (by decide) rfl (fun ls hl => ?_)
  refine lv_aload_n hx hb dX5_sail_33 rfl (lv_at hl 1 rfl) ?_
  refine va_get (D := D) (ci := 5) (v := .ref (mm 1)) (C := RX5) (T := TX5) (N := 14) hx hb hts hwX5 hown hE.K hP 0 rfl rfl 8 (by decide) (hts (.fieldLink RX5 20 "SedgeBargesModel" "g" "[I") (List.mem_of_getElem? (i := 2) rfl)) (fun _ h9 => h9) rfl dX5_sail_34 ?_
  refine lv_iload_n hx hb dX5_sail_37 rfl (lv_at hl 0 rfl) ?_
  refine lv_iconst (v := 1) hx hb dX5_sail_38 (by decide) ?_
  refine rn_add (a := 5 * k) (b := 1) hx hb dX5_sail_39 ?_
  refine lv_aload_n hx hb dX5_sail_40 rfl (lv_at hl 1 rfl) ?_
  refine va_get (D := D) (ci := 5) (v := .ref (mm 1)) (C := RX5) (T := TX5) (N := 14) hx hb hts hwX5 hown hE.K hP 0 rfl rfl 8 (by decide) (hts (.fieldLink RX5 20 "SedgeBargesModel" "g" "[I") (List.mem_of_getElem? (i := 2) rfl)) (fun _ h9 => h9) rfl dX5_sail_41 ?_
  refine lv_iload_n hx hb dX5_sail_44 rfl (lv_at hl 0 rfl) ?_
  refine r_ald (f := pkG G) (v := G 0 k) hx hb hE hP 2 (5 * k + 0) rfl (congrArg nI (by omega)) (by omega) (by decide) (pkG_at 0 (k) (by decide)) dX5_sail_45 ?_
  refine lv_iload_n hx hb dX5_sail_46 rfl (lv_at hl 3 rfl) ?_
  refine lv_icmp_ne (tgt := 54) hx hb dX5_sail_47 (by decide) (fun c_47 => ?_) (fun c_47 => ?_)
  · refine lv_iload_n hx hb dX5_sail_54 rfl (lv_at hl 3 rfl) ?_
    refine r_ast (f := pkG G) (g := pkG (st G 1 k p1)) hx hb hE hP hD hS 2 (5 * k + 1) rfl (congrArg nI (by omega)) (by omega) (by decide) (pkG_up 1 (k) _ (by decide)) dX5_sail_55 (fun H locs hP hD hS => ?_)
    have hP : va_P D vwCl (wMod cA h mm 0 dy co ti ro n nb B (st G 1 k p1) T BA GA TA mo) H := hP
    have hD : va_D A (wMod cA h mm 0 dy co ti ro n nb B (st G 1 k p1) T BA GA TA mo) := hD
    generalize hG_1 : st G 1 k p1 = G_1 at hP hD
    refine lv_aload_n hx hb dX5_sail_56 rfl (lv_at hl 1 rfl) ?_
    refine va_get (D := D) (ci := 5) (v := .ref (mm 1)) (C := RX5) (T := TX5) (N := 14) hx hb hts hwX5 hown hE.K hP 0 rfl rfl 8 (by decide) (hts (.fieldLink RX5 20 "SedgeBargesModel" "g" "[I") (List.mem_of_getElem? (i := 2) rfl)) (fun _ h9 => h9) rfl dX5_sail_57 ?_
    refine lv_iload_n hx hb dX5_sail_60 rfl (lv_at hl 0 rfl) ?_
    refine r_ald (f := pkG G_1) (v := G 0 k) hx hb hE hP 2 (5 * k + 0) rfl (congrArg nI (by omega)) (by omega) (by decide) ((pkG_at 0 (k) (by decide)).trans (st_colE hG_1 (by decide))) dX5_sail_61 ?_
    refine lv_iload_n hx hb dX5_sail_62 rfl (lv_at hl 3 rfl) ?_
    refine goI ([]) (wMod cA h mm 0 dy co ti ro n nb B G_1 T BA GA TA mo) hP hD hS hA (rnS (rest := []) (m_days sa tb D cA cL l (G 0 k) p1 ) ([]) (wMod cA h mm 0 dy co ti ro n nb B G_1 T BA GA TA mo) hP hD hS hA hE ⟨hx, hb, hml, hown, hts⟩ (va_cwS 2 hts gX5_sail_X5_days rfl rfl rfl (by decide +kernel) ⟨(Nat.le_of_ble_eq_true rfl), (Nat.le_of_ble_eq_true rfl)⟩) rfl hl.1 rfl (Nat.le_of_ble_eq_true rfl) dX5_sail_63 ⟨(Nat.le_of_ble_eq_true rfl), (Nat.le_of_ble_eq_true rfl)⟩) (fun _ => rfl) (fun r_63 u_63 H locs hw_63 hP hD hS => ?_)
    have hP : va_P D vwCl (wMod cA h mm 0 dy co ti ro n nb B G_1 T BA GA TA mo) H := hP
    have hD : va_D A (wMod cA h mm 0 dy co ti ro n nb B G_1 T BA GA TA mo) := hD
    obtain rfl : r_63 = (iabs ((G 0 k) - p1) + 4) / 5 := hw_63
    subst hG_1
    have hW_G : sendG G k p1 = (st G 1 k p1) := by first | exact congrArg (st G 1 k) (if_pos ((days_sym hpl hq9).2.mpr c_47)) | exact congrArg (st G 1 k) (if_neg (fun q => c_47 ((days_sym hpl hq9).2.mp q)))
    rw [← hW_G] at hP
    exact enI () hx hb hr hlocks hS hP ((days_sym hpl hq9).1) dX5_sail_66
  · refine lv_iconst (v := (-1)) hx hb dX5_sail_50 (by decide) ?_
    refine lv_goto (tgt := 55) hx hb dX5_sail_51 (by decide) ?_
    refine r_ast (f := pkG G) (g := pkG (st G 1 k (-1))) hx hb hE hP hD hS 2 (5 * k + 1) rfl (congrArg nI (by omega)) (by omega) (by decide) (pkG_up 1 (k) _ (by decide)) dX5_sail_55 (fun H locs hP hD hS => ?_)
    have hP : va_P D vwCl (wMod cA h mm 0 dy co ti ro n nb B (st G 1 k (-1)) T BA GA TA mo) H := hP
    have hD : va_D A (wMod cA h mm 0 dy co ti ro n nb B (st G 1 k (-1)) T BA GA TA mo) := hD
    generalize hG_2 : st G 1 k (-1) = G_2 at hP hD
    refine lv_aload_n hx hb dX5_sail_56 rfl (lv_at hl 1 rfl) ?_
    refine va_get (D := D) (ci := 5) (v := .ref (mm 1)) (C := RX5) (T := TX5) (N := 14) hx hb hts hwX5 hown hE.K hP 0 rfl rfl 8 (by decide) (hts (.fieldLink RX5 20 "SedgeBargesModel" "g" "[I") (List.mem_of_getElem? (i := 2) rfl)) (fun _ h9 => h9) rfl dX5_sail_57 ?_
    refine lv_iload_n hx hb dX5_sail_60 rfl (lv_at hl 0 rfl) ?_
    refine r_ald (f := pkG G_2) (v := G 0 k) hx hb hE hP 2 (5 * k + 0) rfl (congrArg nI (by omega)) (by omega) (by decide) ((pkG_at 0 (k) (by decide)).trans (st_colE hG_2 (by decide))) dX5_sail_61 ?_
    refine lv_iload_n hx hb dX5_sail_62 rfl (lv_at hl 3 rfl) ?_
    refine goI ([]) (wMod cA h mm 0 dy co ti ro n nb B G_2 T BA GA TA mo) hP hD hS hA (rnS (rest := []) (m_days sa tb D cA cL l (G 0 k) p1 ) ([]) (wMod cA h mm 0 dy co ti ro n nb B G_2 T BA GA TA mo) hP hD hS hA hE ⟨hx, hb, hml, hown, hts⟩ (va_cwS 2 hts gX5_sail_X5_days rfl rfl rfl (by decide +kernel) ⟨(Nat.le_of_ble_eq_true rfl), (Nat.le_of_ble_eq_true rfl)⟩) rfl hl.1 rfl (Nat.le_of_ble_eq_true rfl) dX5_sail_63 ⟨(Nat.le_of_ble_eq_true rfl), (Nat.le_of_ble_eq_true rfl)⟩) (fun _ => rfl) (fun r_63 u_63 H locs hw_63 hP hD hS => ?_)
    have hP : va_P D vwCl (wMod cA h mm 0 dy co ti ro n nb B G_2 T BA GA TA mo) H := hP
    have hD : va_D A (wMod cA h mm 0 dy co ti ro n nb B G_2 T BA GA TA mo) := hD
    obtain rfl : r_63 = (iabs ((G 0 k) - p1) + 4) / 5 := hw_63
    subst hG_2
    have hW_G : sendG G k p1 = (st G 1 k (-1)) := by first | exact congrArg (st G 1 k) (if_pos ((days_sym hpl hq9).2.mpr c_47)) | exact congrArg (st G 1 k) (if_neg (fun q => c_47 ((days_sym hpl hq9).2.mp q)))
    rw [← hW_G] at hP
    exact enI () hx hb hr hlocks hS hP ((days_sym hpl hq9).1) dX5_sail_66
set_option maxRecDepth 100000 in
set_option maxHeartbeats 4000000 in
theorem m_sail_1 (sa tb : Nat → Nat) (D : va_G) (cA cL : ClassId) (l : Launch) (h : Nat) (mm : Nat → Nat) (th : Int32) (dy : Int32) (co : Int32) (ti : Int32) (ro : Int32) (n : Nat) (nb : Nat) (B : Nat → Nat → Int32) (G : Nat → Nat → Int32) (T : Nat → Int32) (BA : Nat → Nat → Int32) (GA : Nat → Nat → Int32) (TA : Nat → Int32) (mo : Nat → Int32) (x : Int32) (y : Int32) (hb0 : x < 0 ∨ ¬ x < nI nb) (hnb : nb ≤ 3) : KM sa tb D cA cL l yX5_sail wsX5_sail ({ frames := 2, cells := 0, slots := 0, locals := 43 }) [.ref h, .int x, .int y] (wMod cA h mm th dy co ti ro n nb B G T BA GA TA mo) (qI D (fun (r : Int32) (_ : Unit) => r = 0) (fun _ => wMod cA h mm 1 dy co ti ro n nb B G T BA GA TA mo)) := by
  refine KM.of (cc := cX5_sail) (maxL := 4) (ret := some .int) (by decide) rfl (Nat.le_of_ble_eq_true rfl) ?_
  intro pg e s m args below meth c A hx hb hr hml hlocks hts hown hS hA hE hP hD ls hl
  have hown : s.vm.findClass RX5 = some m.cls := hown
  have hl : lv_has ls 4 [(0, .ref h), (1, .int x), (2, .int y)] := hl
  have hwX5 : ∀ w ∈ wsX50, w ∈ wsX5_sail := (fun _ h => List.mem_cons_of_mem _ (List.mem_append_right _ h))
  refine lv_aload_n hx hb dX5_sail_0 rfl (lv_at hl 0 rfl) ?_
  refine lv_iconst (v := 0) hx hb dX5_sail_1 (by decide) ?_
  refine va_put (D := D) (ci := 5) (v := .int 0) (ty := .int) (C := RX5) (T := TX5) (N := 14) hx hb hts hwX5 tyX5 tyX5_ok nmX5 hown hE.K hP hD hS 0 rfl rfl 0 (by decide) (hts (.fieldLink RX5 38 "SedgeBargesModel" "thrown" "I") (List.mem_of_getElem? (i := 1) rfl)) (fun _ h9 => h9) rfl (by decide +kernel) rfl rfl (Nat.le_of_ble_eq_true rfl) dX5_sail_2 (fun H locs hP hD hS => ?_)
  have hP : va_P D vwCl (wMod cA h mm 0 dy co ti ro n nb B G T BA GA TA mo) H := hP
  have hD : va_D A (wMod cA h mm 0 dy co ti ro n nb B G T BA GA TA mo) := hD
  refine lv_aload_n hx hb dX5_sail_5 rfl (lv_at hl 0 rfl) ?_
  refine lv_iload_n hx hb dX5_sail_6 rfl (lv_at hl 1 rfl) ?_
  refine goI ([]) ([(mm 0, I_ cA 64 (pkB B)), (mm 1, I_ cA 15 (pkG G)), (mm 2, I_ cA 3 T), (mm 3, I_ cA 64 (pkB BA)), (mm 4, I_ cA 15 (pkG GA)), (mm 5, I_ cA 3 TA), (mm 6, I_ cA 8 mo)]) hP hD hS hA (rnV (rest := []) (m_isBarge sa tb D cA cL l h mm 0 dy co ti ro n nb x ) ([]) ([(mm 0, I_ cA 64 (pkB B)), (mm 1, I_ cA 15 (pkG G)), (mm 2, I_ cA 3 T), (mm 3, I_ cA 64 (pkB BA)), (mm 4, I_ cA 15 (pkG GA)), (mm 5, I_ cA 3 TA), (mm 6, I_ cA 8 mo)]) hP hD hS hA hE ⟨hx, hb, hml, hown, hts⟩ (cwV 1 hts gX5_sail_X5_isBarge rfl rfl rfl (by decide +kernel) ⟨(Nat.le_of_ble_eq_true rfl), (Nat.le_of_ble_eq_true rfl)⟩) 5 0 rfl rfl rfl rfl hl.1 rfl (Nat.le_of_ble_eq_true rfl) dX5_sail_7 ⟨(Nat.le_of_ble_eq_true rfl), (Nat.le_of_ble_eq_true rfl)⟩) (fun _ => rfl) (fun r_7 u_7 H locs hw_7 hP hD hS => ?_)
  have hP : va_P D vwCl (wMod cA h mm 0 dy co ti ro n nb B G T BA GA TA mo) H := hP
  have hD : va_D A (wMod cA h mm 0 dy co ti ro n nb B G T BA GA TA mo) := hD
  obtain rfl : r_7 = bI (isInB x 0 (nI nb - 1)) := hw_7
  refine lv_if_eq (tgt := 23) hx hb dX5_sail_10 (by decide) (fun c_10 => ?_) (fun c_10 => False.elim (by exact c_10 (congrArg bI (isBed_no hb0 (by omega)))))
  refine lv_aload_n hx hb dX5_sail_23 rfl (lv_at hl 0 rfl) ?_
  refine lv_iconst (v := 1) hx hb dX5_sail_24 (by decide) ?_
  refine goI ([]) ([(mm 0, I_ cA 64 (pkB B)), (mm 1, I_ cA 15 (pkG G)), (mm 2, I_ cA 3 T), (mm 3, I_ cA 64 (pkB BA)), (mm 4, I_ cA 15 (pkG GA)), (mm 5, I_ cA 3 TA), (mm 6, I_ cA 8 mo)]) hP hD hS hA (rnV (rest := []) (m_no sa tb D cA cL l h mm 0 dy co ti ro n nb 1 ) ([]) ([(mm 0, I_ cA 64 (pkB B)), (mm 1, I_ cA 15 (pkG G)), (mm 2, I_ cA 3 T), (mm 3, I_ cA 64 (pkB BA)), (mm 4, I_ cA 15 (pkG GA)), (mm 5, I_ cA 3 TA), (mm 6, I_ cA 8 mo)]) hP hD hS hA hE ⟨hx, hb, hml, hown, hts⟩ (cwV 1 hts gX5_sail_X5_no rfl rfl rfl (by decide +kernel) ⟨(Nat.le_of_ble_eq_true rfl), (Nat.le_of_ble_eq_true rfl)⟩) 5 0 rfl rfl rfl rfl hl.1 rfl (Nat.le_of_ble_eq_true rfl) dX5_sail_25 ⟨(Nat.le_of_ble_eq_true rfl), (Nat.le_of_ble_eq_true rfl)⟩) (fun _ => (show List.map Prod.fst _ = [h] from rfl).trans (show [h] = List.map Prod.fst _ from rfl)) (fun r_25 u_25 H locs hw_25 hP hD hS => ?_)
  have hP : va_P D vwCl (wMod cA h mm 1 dy co ti ro n nb B G T BA GA TA mo) H := hP
  have hD : va_D A (wMod cA h mm 1 dy co ti ro n nb B G T BA GA TA mo) := hD
  obtain rfl : r_25 = 0 := hw_25
  exact enI () hx hb hr hlocks hS hP (rfl) dX5_sail_28
set_option maxRecDepth 100000 in
set_option maxHeartbeats 4000000 in
theorem m_sail_2 (sa tb : Nat → Nat) (D : va_G) (cA cL : ClassId) (l : Launch) (h : Nat) (mm : Nat → Nat) (th : Int32) (dy : Int32) (co : Int32) (ti : Int32) (ro : Int32) (n : Nat) (nb : Nat) (B : Nat → Nat → Int32) (G : Nat → Nat → Int32) (T : Nat → Int32) (BA : Nat → Nat → Int32) (GA : Nat → Nat → Int32) (TA : Nat → Int32) (mo : Nat → Int32) (k : Nat) (y : Int32) (hk : k < nb) (hnb : nb ≤ 3) (hb1 : y < 0 ∨ ¬ y ≤ 30) : KM sa tb D cA cL l yX5_sail wsX5_sail ({ frames := 2, cells := 0, slots := 0, locals := 43 }) [.ref h, .int (nI k), .int y] (wMod cA h mm th dy co ti ro n nb B G T BA GA TA mo) (qI D (fun (r : Int32) (_ : Unit) => r = 0) (fun _ => wMod cA h mm 1 dy co ti ro n nb B G T BA GA TA mo)) := by
  refine KM.of (cc := cX5_sail) (maxL := 4) (ret := some .int) (by decide) rfl (Nat.le_of_ble_eq_true rfl) ?_
  intro pg e s m args below meth c A hx hb hr hml hlocks hts hown hS hA hE hP hD ls hl
  have hown : s.vm.findClass RX5 = some m.cls := hown
  have hl : lv_has ls 4 [(0, .ref h), (1, .int (nI k)), (2, .int y)] := hl
  have hwX5 : ∀ w ∈ wsX50, w ∈ wsX5_sail := (fun _ h => List.mem_cons_of_mem _ (List.mem_append_right _ h))
  refine lv_aload_n hx hb dX5_sail_0 rfl (lv_at hl 0 rfl) ?_
  refine lv_iconst (v := 0) hx hb dX5_sail_1 (by decide) ?_
  refine va_put (D := D) (ci := 5) (v := .int 0) (ty := .int) (C := RX5) (T := TX5) (N := 14) hx hb hts hwX5 tyX5 tyX5_ok nmX5 hown hE.K hP hD hS 0 rfl rfl 0 (by decide) (hts (.fieldLink RX5 38 "SedgeBargesModel" "thrown" "I") (List.mem_of_getElem? (i := 1) rfl)) (fun _ h9 => h9) rfl (by decide +kernel) rfl rfl (Nat.le_of_ble_eq_true rfl) dX5_sail_2 (fun H locs hP hD hS => ?_)
  have hP : va_P D vwCl (wMod cA h mm 0 dy co ti ro n nb B G T BA GA TA mo) H := hP
  have hD : va_D A (wMod cA h mm 0 dy co ti ro n nb B G T BA GA TA mo) := hD
  refine lv_aload_n hx hb dX5_sail_5 rfl (lv_at hl 0 rfl) ?_
  refine lv_iload_n hx hb dX5_sail_6 rfl (lv_at hl 1 rfl) ?_
  refine goI ([]) ([(mm 0, I_ cA 64 (pkB B)), (mm 1, I_ cA 15 (pkG G)), (mm 2, I_ cA 3 T), (mm 3, I_ cA 64 (pkB BA)), (mm 4, I_ cA 15 (pkG GA)), (mm 5, I_ cA 3 TA), (mm 6, I_ cA 8 mo)]) hP hD hS hA (rnV (rest := []) (m_isBarge sa tb D cA cL l h mm 0 dy co ti ro n nb (nI k) ) ([]) ([(mm 0, I_ cA 64 (pkB B)), (mm 1, I_ cA 15 (pkG G)), (mm 2, I_ cA 3 T), (mm 3, I_ cA 64 (pkB BA)), (mm 4, I_ cA 15 (pkG GA)), (mm 5, I_ cA 3 TA), (mm 6, I_ cA 8 mo)]) hP hD hS hA hE ⟨hx, hb, hml, hown, hts⟩ (cwV 1 hts gX5_sail_X5_isBarge rfl rfl rfl (by decide +kernel) ⟨(Nat.le_of_ble_eq_true rfl), (Nat.le_of_ble_eq_true rfl)⟩) 5 0 rfl rfl rfl rfl hl.1 rfl (Nat.le_of_ble_eq_true rfl) dX5_sail_7 ⟨(Nat.le_of_ble_eq_true rfl), (Nat.le_of_ble_eq_true rfl)⟩) (fun _ => rfl) (fun r_7 u_7 H locs hw_7 hP hD hS => ?_)
  have hP : va_P D vwCl (wMod cA h mm 0 dy co ti ro n nb B G T BA GA TA mo) H := hP
  have hD : va_D A (wMod cA h mm 0 dy co ti ro n nb B G T BA GA TA mo) := hD
  obtain rfl : r_7 = bI (isInB (nI k) 0 (nI nb - 1)) := hw_7
  refine lv_if_eq (tgt := 23) hx hb dX5_sail_10 (by decide) (fun c_10 => False.elim (by exact absurd ((bI0 c_10).symm.trans (isBed_yes hk (by omega))) (by decide))) (fun c_10 => ?_)
  refine lv_iload_n hx hb dX5_sail_13 rfl (lv_at hl 2 rfl) ?_
  refine lv_iconst (v := 0) hx hb dX5_sail_14 (by decide) ?_
  refine lv_bipush (v := 30) hx hb dX5_sail_15 (by decide) ?_
  refine goI ([]) (wMod cA h mm 0 dy co ti ro n nb B G T BA GA TA mo) hP hD hS hA (rnS (rest := []) (m_isIn sa tb D cA cL l y 0 30 ) ([]) (wMod cA h mm 0 dy co ti ro n nb B G T BA GA TA mo) hP hD hS hA hE ⟨hx, hb, hml, hown, hts⟩ (va_cwS 3 hts gX5_sail_X5_isIn rfl rfl rfl (by decide +kernel) ⟨(Nat.le_of_ble_eq_true rfl), (Nat.le_of_ble_eq_true rfl)⟩) rfl hl.1 rfl (Nat.le_of_ble_eq_true rfl) dX5_sail_17 ⟨(Nat.le_of_ble_eq_true rfl), (Nat.le_of_ble_eq_true rfl)⟩) (fun _ => rfl) (fun r_17 u_17 H locs hw_17 hP hD hS => ?_)
  have hP : va_P D vwCl (wMod cA h mm 0 dy co ti ro n nb B G T BA GA TA mo) H := hP
  have hD : va_D A (wMod cA h mm 0 dy co ti ro n nb B G T BA GA TA mo) := hD
  obtain rfl : r_17 = bI (isInB y 0 30) := hw_17
  refine lv_if_ne (tgt := 29) hx hb dX5_sail_20 (by decide) (fun c_20 => False.elim (by exact c_20 (congrArg bI (isIn_no hb1)))) (fun c_20 => ?_)
  refine lv_aload_n hx hb dX5_sail_23 rfl (lv_at hl 0 rfl) ?_
  refine lv_iconst (v := 1) hx hb dX5_sail_24 (by decide) ?_
  refine goI ([]) ([(mm 0, I_ cA 64 (pkB B)), (mm 1, I_ cA 15 (pkG G)), (mm 2, I_ cA 3 T), (mm 3, I_ cA 64 (pkB BA)), (mm 4, I_ cA 15 (pkG GA)), (mm 5, I_ cA 3 TA), (mm 6, I_ cA 8 mo)]) hP hD hS hA (rnV (rest := []) (m_no sa tb D cA cL l h mm 0 dy co ti ro n nb 1 ) ([]) ([(mm 0, I_ cA 64 (pkB B)), (mm 1, I_ cA 15 (pkG G)), (mm 2, I_ cA 3 T), (mm 3, I_ cA 64 (pkB BA)), (mm 4, I_ cA 15 (pkG GA)), (mm 5, I_ cA 3 TA), (mm 6, I_ cA 8 mo)]) hP hD hS hA hE ⟨hx, hb, hml, hown, hts⟩ (cwV 1 hts gX5_sail_X5_no rfl rfl rfl (by decide +kernel) ⟨(Nat.le_of_ble_eq_true rfl), (Nat.le_of_ble_eq_true rfl)⟩) 5 0 rfl rfl rfl rfl hl.1 rfl (Nat.le_of_ble_eq_true rfl) dX5_sail_25 ⟨(Nat.le_of_ble_eq_true rfl), (Nat.le_of_ble_eq_true rfl)⟩) (fun _ => (show List.map Prod.fst _ = [h] from rfl).trans (show [h] = List.map Prod.fst _ from rfl)) (fun r_25 u_25 H locs hw_25 hP hD hS => ?_)
  have hP : va_P D vwCl (wMod cA h mm 1 dy co ti ro n nb B G T BA GA TA mo) H := hP
  have hD : va_D A (wMod cA h mm 1 dy co ti ro n nb B G T BA GA TA mo) := hD
  obtain rfl : r_25 = 0 := hw_25
  exact enI () hx hb hr hlocks hS hP (rfl) dX5_sail_28
set_option maxRecDepth 100000 in
set_option maxHeartbeats 4000000 in
theorem m_aboard (sa tb : Nat → Nat) (D : va_G) (cA cL : ClassId) (l : Launch) (h : Nat) (mm : Nat → Nat) (th : Int32) (dy : Int32) (co : Int32) (ti : Int32) (ro : Int32) (n : Nat) (nb : Nat) (B : Nat → Nat → Int32) (G : Nat → Nat → Int32) (T : Nat → Int32) (BA : Nat → Nat → Int32) (GA : Nat → Nat → Int32) (TA : Nat → Int32) (mo : Nat → Int32) (k : Nat) (hk : k < 3) : KM sa tb D cA cL l yX5_aboard wsX5_aboard ({ frames := 0, cells := 0, slots := 0, locals := 0 }) [.ref h, .int (nI (5 * k))] (wMod cA h mm th dy co ti ro n nb B G T BA GA TA mo) (qI D (fun (r : Int32) (_ : Unit) => r = abd G k) (fun _ => wMod cA h mm th dy co ti ro n nb B G T BA GA TA mo)) := by
  refine KM.of (cc := cX5_aboard) (maxL := 2) (ret := some .int) (by decide) rfl (Nat.le_of_ble_eq_true rfl) ?_
  intro pg e s m args below meth c A hx hb hr hml hlocks hts hown hS hA hE hP hD ls hl
  have hown : s.vm.findClass RX5 = some m.cls := hown
  have hl : lv_has ls 2 [(0, .ref h), (1, .int (nI (5 * k)))] := hl
  have hwX5 : ∀ w ∈ wsX50, w ∈ wsX5_aboard := (fun _ h => List.mem_cons_of_mem _ (List.mem_append_right _ h))
  refine lv_aload_n hx hb dX5_aboard_0 rfl (lv_at hl 0 rfl) ?_
  refine va_get (D := D) (ci := 5) (v := .ref (mm 1)) (C := RX5) (T := TX5) (N := 14) hx hb hts hwX5 hown hE.K hP 0 rfl rfl 8 (by decide) (hts (.fieldLink RX5 20 "SedgeBargesModel" "g" "[I") (List.mem_of_getElem? (i := 1) rfl)) (fun _ h9 => h9) rfl dX5_aboard_1 ?_
  refine lv_iload_n hx hb dX5_aboard_4 rfl (lv_at hl 1 rfl) ?_
  refine lv_iconst (v := 2) hx hb dX5_aboard_5 (by decide) ?_
  refine rn_add (a := 5 * k) (b := 2) hx hb dX5_aboard_6 ?_
  refine r_ald (f := pkG G) (v := G 2 k) hx hb hE hP 2 (5 * k + 2) rfl (congrArg nI (by omega)) (by omega) (by decide) (pkG_at 2 (k) (by decide)) dX5_aboard_7 ?_
  refine lv_aload_n hx hb dX5_aboard_8 rfl (lv_at hl 0 rfl) ?_
  refine va_get (D := D) (ci := 5) (v := .ref (mm 1)) (C := RX5) (T := TX5) (N := 14) hx hb hts hwX5 hown hE.K hP 0 rfl rfl 8 (by decide) (hts (.fieldLink RX5 20 "SedgeBargesModel" "g" "[I") (List.mem_of_getElem? (i := 1) rfl)) (fun _ h9 => h9) rfl dX5_aboard_9 ?_
  refine lv_iload_n hx hb dX5_aboard_12 rfl (lv_at hl 1 rfl) ?_
  refine lv_iconst (v := 2) hx hb dX5_aboard_13 (by decide) ?_
  refine rn_add (a := 5 * k) (b := 2) hx hb dX5_aboard_14 ?_
  refine lv_iconst (v := 1) hx hb dX5_aboard_15 (by decide) ?_
  refine rn_add (a := (5 * k) + 2) (b := 1) hx hb dX5_aboard_16 ?_
  refine r_ald (f := pkG G) (v := G 3 k) hx hb hE hP 2 (5 * k + 3) rfl (congrArg nI (by omega)) (by omega) (by decide) (pkG_at 3 (k) (by decide)) dX5_aboard_17 ?_
  refine lv_iadd hx hb dX5_aboard_18 ?_
  exact enI () hx hb hr hlocks hS hP (rfl) dX5_aboard_19
set_option maxRecDepth 100000 in
set_option maxHeartbeats 4000000 in
theorem m_loadOf0 (sa tb : Nat → Nat) (D : va_G) (cA cL : ClassId) (l : Launch) (h : Nat) (mm : Nat → Nat) (th : Int32) (dy : Int32) (co : Int32) (ti : Int32) (ro : Int32) (n : Nat) (nb : Nat) (B : Nat → Nat → Int32) (G : Nat → Nat → Int32) (T : Nat → Int32) (BA : Nat → Nat → Int32) (GA : Nat → Nat → Int32) (TA : Nat → Int32) (mo : Nat → Int32) (k : Nat) (j : Nat) (hk : k < 3) (hj : j < 8) : KM sa tb D cA cL l yX5_loadOf wsX5_loadOf ({ frames := 1, cells := 0, slots := 0, locals := 24 }) [.ref h, .int (nI (5 * k)), .int (nI (8 * j)), .int 0] (wMod cA h mm th dy co ti ro n nb B G T BA GA TA mo) (qI D (fun (r : Int32) (_ : Unit) => r = imin (150 - abd G k) (B 6 j)) (fun _ => wMod cA h mm th dy co ti ro n nb (st B 6 j (B 6 j - imin (150 - abd G k) (B 6 j))) (st G 2 k (G 2 k + imin (150 - abd G k) (B 6 j))) T BA GA TA mo)) := by
  refine KM.of (cc := cX5_loadOf) (maxL := 5) (ret := some .int) (by decide) rfl (Nat.le_of_ble_eq_true rfl) ?_
  intro pg e s m args below meth c A hx hb hr hml hlocks hts hown hS hA hE hP hD ls hl
  have hown : s.vm.findClass RX5 = some m.cls := hown
  have hl : lv_has ls 5 [(0, .ref h), (1, .int (nI (5 * k))), (2, .int (nI (8 * j))), (3, .int 0)] := hl
  have hwX5 : ∀ w ∈ wsX50, w ∈ wsX5_loadOf := (fun _ h => List.mem_cons_of_mem _ (List.mem_append_right _ h))
  refine lv_sipush (v := 150) hx hb dX5_loadOf_0 (by decide) ?_
  refine lv_aload_n hx hb dX5_loadOf_3 rfl (lv_at hl 0 rfl) ?_
  refine lv_iload_n hx hb dX5_loadOf_4 rfl (lv_at hl 1 rfl) ?_
  refine goI ([]) ([]) hP hD hS hA (rnV (rest := [.int 150]) (m_aboard sa tb D cA cL l h mm th dy co ti ro n nb B G T BA GA TA mo k (show k < 3 from by first | omega | assumption | decide)) ([]) ([]) hP hD hS hA hE ⟨hx, hb, hml, hown, hts⟩ (cwV 1 hts gX5_loadOf_X5_aboard rfl rfl rfl (by decide +kernel) ⟨(Nat.le_of_ble_eq_true rfl), (Nat.le_of_ble_eq_true rfl)⟩) 5 0 rfl rfl rfl rfl hl.1 rfl (Nat.le_of_ble_eq_true rfl) dX5_loadOf_5 ⟨(Nat.le_of_ble_eq_true rfl), (Nat.le_of_ble_eq_true rfl)⟩) (fun _ => rfl) (fun r_5 u_5 H locs hw_5 hP hD hS => ?_)
  have hP : va_P D vwCl (wMod cA h mm th dy co ti ro n nb B G T BA GA TA mo) H := hP
  have hD : va_D A (wMod cA h mm th dy co ti ro n nb B G T BA GA TA mo) := hD
  obtain rfl : r_5 = abd G k := hw_5
  refine lv_isub hx hb dX5_loadOf_8 ?_
  refine lv_aload_n hx hb dX5_loadOf_9 rfl (lv_at hl 0 rfl) ?_
  refine va_get (D := D) (ci := 5) (v := .ref (mm 0)) (C := RX5) (T := TX5) (N := 14) hx hb hts hwX5 hown hE.K hP 0 rfl rfl 7 (by decide) (hts (.fieldLink RX5 16 "SedgeBargesModel" "b" "[I") (List.mem_of_getElem? (i := 1) rfl)) (fun _ h9 => h9) rfl dX5_loadOf_10 ?_
  refine lv_iload_n hx hb dX5_loadOf_13 rfl (lv_at hl 2 rfl) ?_
  refine lv_bipush (v := 6) hx hb dX5_loadOf_14 (by decide) ?_
  refine rn_add (a := 8 * j) (b := 6) hx hb dX5_loadOf_16 ?_
  refine lv_iload_n hx hb dX5_loadOf_17 rfl (lv_at hl 3 rfl) ?_
  refine rn_add (a := (8 * j) + 6) (b := 0) hx hb dX5_loadOf_18 ?_
  refine r_ald (f := pkB B) (v := B 6 j) hx hb hE hP 1 (8 * j + 6) rfl (congrArg nI (by omega)) (by omega) (by decide) (pkB_at 6 (j) (by decide)) dX5_loadOf_19 ?_
  refine r_mmin hx hb (hml.trans hl.1.symm) hown (hts (.methodLink RX5 73 Lib.Math.min.name) (List.mem_of_getElem? (i := 2) rfl)) (hts (.static Lib.Math.min.name) (List.mem_of_getElem? (i := 3) rfl)) (hts (.initialized "java/lang/Math") (List.mem_of_getElem? (i := 4) rfl)) (hts (.code Lib.Math.min.name Lib.Math.min.code 2 (some .int)) (List.mem_of_getElem? (i := 5) rfl)) (Nat.le_of_ble_eq_true rfl) (Nat.le_of_ble_eq_true rfl) (Nat.le_of_ble_eq_true rfl) (Nat.le_of_ble_eq_true rfl) dX5_loadOf_20 ?_
  refine lv_topi (fun z_1 hz_1 => ?_)
  refine lv_istore (lv' := [(4, .int z_1), (0, .ref h), (1, .int (nI (5 * k))), (2, .int (nI (8 * j))), (3, .int 0)]) hx hb dX5_loadOf_23 hl (by decide) rfl (fun ls hl => ?_)
  refine lv_aload_n hx hb dX5_loadOf_25 rfl (lv_at hl 1 rfl) ?_
  refine va_get (D := D) (ci := 5) (v := .ref (mm 0)) (C := RX5) (T := TX5) (N := 14) hx hb hts hwX5 hown hE.K hP 0 rfl rfl 7 (by decide) (hts (.fieldLink RX5 16 "SedgeBargesModel" "b" "[I") (List.mem_of_getElem? (i := 1) rfl)) (fun _ h9 => h9) rfl dX5_loadOf_26 ?_
  refine lv_iload_n hx hb dX5_loadOf_29 rfl (lv_at hl 3 rfl) ?_
  refine lv_bipush (v := 6) hx hb dX5_loadOf_30 (by decide) ?_
  refine rn_add (a := 8 * j) (b := 6) hx hb dX5_loadOf_32 ?_
  refine lv_iload_n hx hb dX5_loadOf_33 rfl (lv_at hl 4 rfl) ?_
  refine rn_add (a := (8 * j) + 6) (b := 0) hx hb dX5_loadOf_34 ?_
  refine lv_dup2_11 hx hb dX5_loadOf_35 rfl rfl ?_
  refine r_ald (f := pkB B) (v := B 6 j) hx hb hE hP 1 (8 * j + 6) rfl (congrArg nI (by omega)) (by omega) (by decide) (pkB_at 6 (j) (by decide)) dX5_loadOf_36 ?_
  refine lv_iload hx hb dX5_loadOf_37 (lv_at hl 0 rfl) ?_
  refine lv_isub hx hb dX5_loadOf_39 ?_
  refine lv_topi (fun z_2 hz_2 => ?_)
  refine r_ast (f := pkB B) (g := pkB (st B 6 j z_2)) hx hb hE hP hD hS 1 (8 * j + 6) rfl (congrArg nI (by omega)) (by omega) (by decide) (pkB_up 6 (j) _ (by decide)) dX5_loadOf_40 (fun H locs hP hD hS => ?_)
  have hP : va_P D vwCl (wMod cA h mm th dy co ti ro n nb (st B 6 j z_2) G T BA GA TA mo) H := hP
  have hD : va_D A (wMod cA h mm th dy co ti ro n nb (st B 6 j z_2) G T BA GA TA mo) := hD
  generalize hB_3 : st B 6 j z_2 = B_3 at hP hD
  refine lv_aload_n hx hb dX5_loadOf_41 rfl (lv_at hl 1 rfl) ?_
  refine va_get (D := D) (ci := 5) (v := .ref (mm 1)) (C := RX5) (T := TX5) (N := 14) hx hb hts hwX5 hown hE.K hP 0 rfl rfl 8 (by decide) (hts (.fieldLink RX5 20 "SedgeBargesModel" "g" "[I") (List.mem_of_getElem? (i := 6) rfl)) (fun _ h9 => h9) rfl dX5_loadOf_42 ?_
  refine lv_iload_n hx hb dX5_loadOf_45 rfl (lv_at hl 2 rfl) ?_
  refine lv_iconst (v := 2) hx hb dX5_loadOf_46 (by decide) ?_
  refine rn_add (a := 5 * k) (b := 2) hx hb dX5_loadOf_47 ?_
  refine lv_iload_n hx hb dX5_loadOf_48 rfl (lv_at hl 4 rfl) ?_
  refine rn_add (a := (5 * k) + 2) (b := 0) hx hb dX5_loadOf_49 ?_
  refine lv_dup2_11 hx hb dX5_loadOf_50 rfl rfl ?_
  refine r_ald (f := pkG G) (v := G 2 k) hx hb hE hP 2 (5 * k + 2) rfl (congrArg nI (by omega)) (by omega) (by decide) (pkG_at 2 (k) (by decide)) dX5_loadOf_51 ?_
  refine lv_iload hx hb dX5_loadOf_52 (lv_at hl 0 rfl) ?_
  refine lv_iadd hx hb dX5_loadOf_54 ?_
  refine lv_topi (fun z_4 hz_4 => ?_)
  refine r_ast (f := pkG G) (g := pkG (st G 2 k z_4)) hx hb hE hP hD hS 2 (5 * k + 2) rfl (congrArg nI (by omega)) (by omega) (by decide) (pkG_up 2 (k) _ (by decide)) dX5_loadOf_55 (fun H locs hP hD hS => ?_)
  have hP : va_P D vwCl (wMod cA h mm th dy co ti ro n nb B_3 (st G 2 k z_4) T BA GA TA mo) H := hP
  have hD : va_D A (wMod cA h mm th dy co ti ro n nb B_3 (st G 2 k z_4) T BA GA TA mo) := hD
  generalize hG_5 : st G 2 k z_4 = G_5 at hP hD
  refine lv_iload hx hb dX5_loadOf_56 (lv_at hl 0 rfl) ?_
  subst hG_5
  subst hz_4
  subst hB_3
  subst hz_2
  subst hz_1
  exact enI () hx hb hr hlocks hS hP (rfl) dX5_loadOf_58
set_option maxRecDepth 100000 in
set_option maxHeartbeats 4000000 in
theorem m_loadOf1 (sa tb : Nat → Nat) (D : va_G) (cA cL : ClassId) (l : Launch) (h : Nat) (mm : Nat → Nat) (th : Int32) (dy : Int32) (co : Int32) (ti : Int32) (ro : Int32) (n : Nat) (nb : Nat) (B : Nat → Nat → Int32) (G : Nat → Nat → Int32) (T : Nat → Int32) (BA : Nat → Nat → Int32) (GA : Nat → Nat → Int32) (TA : Nat → Int32) (mo : Nat → Int32) (k : Nat) (j : Nat) (hk : k < 3) (hj : j < 8) : KM sa tb D cA cL l yX5_loadOf wsX5_loadOf ({ frames := 1, cells := 0, slots := 0, locals := 24 }) [.ref h, .int (nI (5 * k)), .int (nI (8 * j)), .int 1] (wMod cA h mm th dy co ti ro n nb B G T BA GA TA mo) (qI D (fun (r : Int32) (_ : Unit) => r = imin (150 - abd G k) (B 7 j)) (fun _ => wMod cA h mm th dy co ti ro n nb (st B 7 j (B 7 j - imin (150 - abd G k) (B 7 j))) (st G 3 k (G 3 k + imin (150 - abd G k) (B 7 j))) T BA GA TA mo)) := by
  refine KM.of (cc := cX5_loadOf) (maxL := 5) (ret := some .int) (by decide) rfl (Nat.le_of_ble_eq_true rfl) ?_
  intro pg e s m args below meth c A hx hb hr hml hlocks hts hown hS hA hE hP hD ls hl
  have hown : s.vm.findClass RX5 = some m.cls := hown
  have hl : lv_has ls 5 [(0, .ref h), (1, .int (nI (5 * k))), (2, .int (nI (8 * j))), (3, .int 1)] := hl
  have hwX5 : ∀ w ∈ wsX50, w ∈ wsX5_loadOf := (fun _ h => List.mem_cons_of_mem _ (List.mem_append_right _ h))
  refine lv_sipush (v := 150) hx hb dX5_loadOf_0 (by decide) ?_
  refine lv_aload_n hx hb dX5_loadOf_3 rfl (lv_at hl 0 rfl) ?_
  refine lv_iload_n hx hb dX5_loadOf_4 rfl (lv_at hl 1 rfl) ?_
  refine goI ([]) ([]) hP hD hS hA (rnV (rest := [.int 150]) (m_aboard sa tb D cA cL l h mm th dy co ti ro n nb B G T BA GA TA mo k (show k < 3 from by first | omega | assumption | decide)) ([]) ([]) hP hD hS hA hE ⟨hx, hb, hml, hown, hts⟩ (cwV 1 hts gX5_loadOf_X5_aboard rfl rfl rfl (by decide +kernel) ⟨(Nat.le_of_ble_eq_true rfl), (Nat.le_of_ble_eq_true rfl)⟩) 5 0 rfl rfl rfl rfl hl.1 rfl (Nat.le_of_ble_eq_true rfl) dX5_loadOf_5 ⟨(Nat.le_of_ble_eq_true rfl), (Nat.le_of_ble_eq_true rfl)⟩) (fun _ => rfl) (fun r_5 u_5 H locs hw_5 hP hD hS => ?_)
  have hP : va_P D vwCl (wMod cA h mm th dy co ti ro n nb B G T BA GA TA mo) H := hP
  have hD : va_D A (wMod cA h mm th dy co ti ro n nb B G T BA GA TA mo) := hD
  obtain rfl : r_5 = abd G k := hw_5
  refine lv_isub hx hb dX5_loadOf_8 ?_
  refine lv_aload_n hx hb dX5_loadOf_9 rfl (lv_at hl 0 rfl) ?_
  refine va_get (D := D) (ci := 5) (v := .ref (mm 0)) (C := RX5) (T := TX5) (N := 14) hx hb hts hwX5 hown hE.K hP 0 rfl rfl 7 (by decide) (hts (.fieldLink RX5 16 "SedgeBargesModel" "b" "[I") (List.mem_of_getElem? (i := 1) rfl)) (fun _ h9 => h9) rfl dX5_loadOf_10 ?_
  refine lv_iload_n hx hb dX5_loadOf_13 rfl (lv_at hl 2 rfl) ?_
  refine lv_bipush (v := 6) hx hb dX5_loadOf_14 (by decide) ?_
  refine rn_add (a := 8 * j) (b := 6) hx hb dX5_loadOf_16 ?_
  refine lv_iload_n hx hb dX5_loadOf_17 rfl (lv_at hl 3 rfl) ?_
  refine rn_add (a := (8 * j) + 6) (b := 1) hx hb dX5_loadOf_18 ?_
  refine r_ald (f := pkB B) (v := B 7 j) hx hb hE hP 1 (8 * j + 7) rfl (congrArg nI (by omega)) (by omega) (by decide) (pkB_at 7 (j) (by decide)) dX5_loadOf_19 ?_
  refine r_mmin hx hb (hml.trans hl.1.symm) hown (hts (.methodLink RX5 73 Lib.Math.min.name) (List.mem_of_getElem? (i := 2) rfl)) (hts (.static Lib.Math.min.name) (List.mem_of_getElem? (i := 3) rfl)) (hts (.initialized "java/lang/Math") (List.mem_of_getElem? (i := 4) rfl)) (hts (.code Lib.Math.min.name Lib.Math.min.code 2 (some .int)) (List.mem_of_getElem? (i := 5) rfl)) (Nat.le_of_ble_eq_true rfl) (Nat.le_of_ble_eq_true rfl) (Nat.le_of_ble_eq_true rfl) (Nat.le_of_ble_eq_true rfl) dX5_loadOf_20 ?_
  refine lv_topi (fun z_1 hz_1 => ?_)
  refine lv_istore (lv' := [(4, .int z_1), (0, .ref h), (1, .int (nI (5 * k))), (2, .int (nI (8 * j))), (3, .int 1)]) hx hb dX5_loadOf_23 hl (by decide) rfl (fun ls hl => ?_)
  refine lv_aload_n hx hb dX5_loadOf_25 rfl (lv_at hl 1 rfl) ?_
  refine va_get (D := D) (ci := 5) (v := .ref (mm 0)) (C := RX5) (T := TX5) (N := 14) hx hb hts hwX5 hown hE.K hP 0 rfl rfl 7 (by decide) (hts (.fieldLink RX5 16 "SedgeBargesModel" "b" "[I") (List.mem_of_getElem? (i := 1) rfl)) (fun _ h9 => h9) rfl dX5_loadOf_26 ?_
  refine lv_iload_n hx hb dX5_loadOf_29 rfl (lv_at hl 3 rfl) ?_
  refine lv_bipush (v := 6) hx hb dX5_loadOf_30 (by decide) ?_
  refine rn_add (a := 8 * j) (b := 6) hx hb dX5_loadOf_32 ?_
  refine lv_iload_n hx hb dX5_loadOf_33 rfl (lv_at hl 4 rfl) ?_
  refine rn_add (a := (8 * j) + 6) (b := 1) hx hb dX5_loadOf_34 ?_
  refine lv_dup2_11 hx hb dX5_loadOf_35 rfl rfl ?_
  refine r_ald (f := pkB B) (v := B 7 j) hx hb hE hP 1 (8 * j + 7) rfl (congrArg nI (by omega)) (by omega) (by decide) (pkB_at 7 (j) (by decide)) dX5_loadOf_36 ?_
  refine lv_iload hx hb dX5_loadOf_37 (lv_at hl 0 rfl) ?_
  refine lv_isub hx hb dX5_loadOf_39 ?_
  refine lv_topi (fun z_2 hz_2 => ?_)
  refine r_ast (f := pkB B) (g := pkB (st B 7 j z_2)) hx hb hE hP hD hS 1 (8 * j + 7) rfl (congrArg nI (by omega)) (by omega) (by decide) (pkB_up 7 (j) _ (by decide)) dX5_loadOf_40 (fun H locs hP hD hS => ?_)
  have hP : va_P D vwCl (wMod cA h mm th dy co ti ro n nb (st B 7 j z_2) G T BA GA TA mo) H := hP
  have hD : va_D A (wMod cA h mm th dy co ti ro n nb (st B 7 j z_2) G T BA GA TA mo) := hD
  generalize hB_3 : st B 7 j z_2 = B_3 at hP hD
  refine lv_aload_n hx hb dX5_loadOf_41 rfl (lv_at hl 1 rfl) ?_
  refine va_get (D := D) (ci := 5) (v := .ref (mm 1)) (C := RX5) (T := TX5) (N := 14) hx hb hts hwX5 hown hE.K hP 0 rfl rfl 8 (by decide) (hts (.fieldLink RX5 20 "SedgeBargesModel" "g" "[I") (List.mem_of_getElem? (i := 6) rfl)) (fun _ h9 => h9) rfl dX5_loadOf_42 ?_
  refine lv_iload_n hx hb dX5_loadOf_45 rfl (lv_at hl 2 rfl) ?_
  refine lv_iconst (v := 2) hx hb dX5_loadOf_46 (by decide) ?_
  refine rn_add (a := 5 * k) (b := 2) hx hb dX5_loadOf_47 ?_
  refine lv_iload_n hx hb dX5_loadOf_48 rfl (lv_at hl 4 rfl) ?_
  refine rn_add (a := (5 * k) + 2) (b := 1) hx hb dX5_loadOf_49 ?_
  refine lv_dup2_11 hx hb dX5_loadOf_50 rfl rfl ?_
  refine r_ald (f := pkG G) (v := G 3 k) hx hb hE hP 2 (5 * k + 3) rfl (congrArg nI (by omega)) (by omega) (by decide) (pkG_at 3 (k) (by decide)) dX5_loadOf_51 ?_
  refine lv_iload hx hb dX5_loadOf_52 (lv_at hl 0 rfl) ?_
  refine lv_iadd hx hb dX5_loadOf_54 ?_
  refine lv_topi (fun z_4 hz_4 => ?_)
  refine r_ast (f := pkG G) (g := pkG (st G 3 k z_4)) hx hb hE hP hD hS 2 (5 * k + 3) rfl (congrArg nI (by omega)) (by omega) (by decide) (pkG_up 3 (k) _ (by decide)) dX5_loadOf_55 (fun H locs hP hD hS => ?_)
  have hP : va_P D vwCl (wMod cA h mm th dy co ti ro n nb B_3 (st G 3 k z_4) T BA GA TA mo) H := hP
  have hD : va_D A (wMod cA h mm th dy co ti ro n nb B_3 (st G 3 k z_4) T BA GA TA mo) := hD
  generalize hG_5 : st G 3 k z_4 = G_5 at hP hD
  refine lv_iload hx hb dX5_loadOf_56 (lv_at hl 0 rfl) ?_
  subst hG_5
  subst hz_4
  subst hB_3
  subst hz_2
  subst hz_1
  exact enI () hx hb hr hlocks hS hP (rfl) dX5_loadOf_58
set_option maxRecDepth 100000 in
set_option maxHeartbeats 4000000 in
theorem m_load (sa tb : Nat → Nat) (D : va_G) (cA cL : ClassId) (l : Launch) (h : Nat) (mm : Nat → Nat) (th : Int32) (dy : Int32) (co : Int32) (ti : Int32) (ro : Int32) (n : Nat) (nb : Nat) (B : Nat → Nat → Int32) (G : Nat → Nat → Int32) (T : Nat → Int32) (BA : Nat → Nat → Int32) (GA : Nat → Nat → Int32) (TA : Nat → Int32) (mo : Nat → Int32) (k : Nat) (j : Nat) (hk : k < nb) (hj : j < n) (hn : n ≤ 8) (hnb : nb ≤ 3) (hq : G 0 k = B 0 j) : KM sa tb D cA cL l yX5_load wsX5_load ({ frames := 2, cells := 0, slots := 0, locals := 48 }) [.ref h, .int (nI k), .int (nI j)] (wMod cA h mm th dy co ti ro n nb B G T BA GA TA mo) (qI D (fun (r : Int32) (_ : Unit) => r = ldS B G k j + ldR B G k j) (fun _ => wMod cA h mm 0 dy co ti ro n nb (ldB B G k j) (ldG B G k j) T BA GA TA mo)) := by
  refine KM.of (cc := cX5_load) (maxL := 3) (ret := some .int) (by decide) rfl (Nat.le_of_ble_eq_true rfl) ?_
  intro pg e s m args below meth c A hx hb hr hml hlocks hts hown hS hA hE hP hD ls hl
  have hown : s.vm.findClass RX5 = some m.cls := hown
  have hl : lv_has ls 3 [(0, .ref h), (1, .int (nI k)), (2, .int (nI j))] := hl
  have hwX5 : ∀ w ∈ wsX50, w ∈ wsX5_load := (fun _ h => List.mem_cons_of_mem _ (List.mem_append_right _ h))
  refine lv_aload_n hx hb dX5_load_0 rfl (lv_at hl 0 rfl) ?_
  refine lv_iconst (v := 0) hx hb dX5_load_1 (by decide) ?_
  refine va_put (D := D) (ci := 5) (v := .int 0) (ty := .int) (C := RX5) (T := TX5) (N := 14) hx hb hts hwX5 tyX5 tyX5_ok nmX5 hown hE.K hP hD hS 0 rfl rfl 0 (by decide) (hts (.fieldLink RX5 38 "SedgeBargesModel" "thrown" "I") (List.mem_of_getElem? (i := 1) rfl)) (fun _ h9 => h9) rfl (by decide +kernel) rfl rfl (Nat.le_of_ble_eq_true rfl) dX5_load_2 (fun H locs hP hD hS => ?_)
  have hP : va_P D vwCl (wMod cA h mm 0 dy co ti ro n nb B G T BA GA TA mo) H := hP
  have hD : va_D A (wMod cA h mm 0 dy co ti ro n nb B G T BA GA TA mo) := hD
  refine lv_aload_n hx hb dX5_load_5 rfl (lv_at hl 0 rfl) ?_
  refine lv_iload_n hx hb dX5_load_6 rfl (lv_at hl 1 rfl) ?_
  refine goI ([]) ([(mm 0, I_ cA 64 (pkB B)), (mm 1, I_ cA 15 (pkG G)), (mm 2, I_ cA 3 T), (mm 3, I_ cA 64 (pkB BA)), (mm 4, I_ cA 15 (pkG GA)), (mm 5, I_ cA 3 TA), (mm 6, I_ cA 8 mo)]) hP hD hS hA (rnV (rest := []) (m_isBarge sa tb D cA cL l h mm 0 dy co ti ro n nb (nI k) ) ([]) ([(mm 0, I_ cA 64 (pkB B)), (mm 1, I_ cA 15 (pkG G)), (mm 2, I_ cA 3 T), (mm 3, I_ cA 64 (pkB BA)), (mm 4, I_ cA 15 (pkG GA)), (mm 5, I_ cA 3 TA), (mm 6, I_ cA 8 mo)]) hP hD hS hA hE ⟨hx, hb, hml, hown, hts⟩ (cwV 1 hts gX5_load_X5_isBarge rfl rfl rfl (by decide +kernel) ⟨(Nat.le_of_ble_eq_true rfl), (Nat.le_of_ble_eq_true rfl)⟩) 5 0 rfl rfl rfl rfl hl.1 rfl (Nat.le_of_ble_eq_true rfl) dX5_load_7 ⟨(Nat.le_of_ble_eq_true rfl), (Nat.le_of_ble_eq_true rfl)⟩) (fun _ => rfl) (fun r_7 u_7 H locs hw_7 hP hD hS => ?_)
  have hP : va_P D vwCl (wMod cA h mm 0 dy co ti ro n nb B G T BA GA TA mo) H := hP
  have hD : va_D A (wMod cA h mm 0 dy co ti ro n nb B G T BA GA TA mo) := hD
  obtain rfl : r_7 = bI (isInB (nI k) 0 (nI nb - 1)) := hw_7
  refine lv_if_eq (tgt := 21) hx hb dX5_load_10 (by decide) (fun c_10 => False.elim (by exact absurd ((bI0 c_10).symm.trans (isBed_yes hk (by omega))) (by decide))) (fun c_10 => ?_)
  refine lv_aload_n hx hb dX5_load_13 rfl (lv_at hl 0 rfl) ?_
  refine lv_iload_n hx hb dX5_load_14 rfl (lv_at hl 2 rfl) ?_
  refine goI ([]) ([(mm 0, I_ cA 64 (pkB B)), (mm 1, I_ cA 15 (pkG G)), (mm 2, I_ cA 3 T), (mm 3, I_ cA 64 (pkB BA)), (mm 4, I_ cA 15 (pkG GA)), (mm 5, I_ cA 3 TA), (mm 6, I_ cA 8 mo)]) hP hD hS hA (rnV (rest := []) (m_isBed sa tb D cA cL l h mm 0 dy co ti ro n nb (nI j) ) ([]) ([(mm 0, I_ cA 64 (pkB B)), (mm 1, I_ cA 15 (pkG G)), (mm 2, I_ cA 3 T), (mm 3, I_ cA 64 (pkB BA)), (mm 4, I_ cA 15 (pkG GA)), (mm 5, I_ cA 3 TA), (mm 6, I_ cA 8 mo)]) hP hD hS hA hE ⟨hx, hb, hml, hown, hts⟩ (cwV 1 hts gX5_load_X5_isBed rfl rfl rfl (by decide +kernel) ⟨(Nat.le_of_ble_eq_true rfl), (Nat.le_of_ble_eq_true rfl)⟩) 5 0 rfl rfl rfl rfl hl.1 rfl (Nat.le_of_ble_eq_true rfl) dX5_load_15 ⟨(Nat.le_of_ble_eq_true rfl), (Nat.le_of_ble_eq_true rfl)⟩) (fun _ => rfl) (fun r_15 u_15 H locs hw_15 hP hD hS => ?_)
  have hP : va_P D vwCl (wMod cA h mm 0 dy co ti ro n nb B G T BA GA TA mo) H := hP
  have hD : va_D A (wMod cA h mm 0 dy co ti ro n nb B G T BA GA TA mo) := hD
  obtain rfl : r_15 = bI (isInB (nI j) 0 (nI n - 1)) := hw_15
  refine lv_if_ne (tgt := 27) hx hb dX5_load_18 (by decide) (fun c_18 => ?_) (fun c_18 => False.elim (by exact absurd ((bI0 c_18).symm.trans (isBed_yes hj (by omega))) (by decide)))
  refine lv_aload_n hx hb dX5_load_27 rfl (lv_at hl 0 rfl) ?_
  refine va_get (D := D) (ci := 5) (v := .ref (mm 1)) (C := RX5) (T := TX5) (N := 14) hx hb hts hwX5 hown hE.K hP 0 rfl rfl 8 (by decide) (hts (.fieldLink RX5 20 "SedgeBargesModel" "g" "[I") (List.mem_of_getElem? (i := 2) rfl)) (fun _ h9 => h9) rfl dX5_load_28 ?_
  refine lv_iconst (v := 5) hx hb dX5_load_31 (by decide) ?_
  refine lv_iload_n hx hb dX5_load_32 rfl (lv_at hl 1 rfl) ?_
  refine rn_mul (a := 5) (b := k) hx hb dX5_load_33 ?_
  refine r_ald (f := pkG G) (v := G 0 k) hx hb hE hP 2 (5 * k + 0) rfl (congrArg nI (by omega)) (by omega) (by decide) (pkG_at 0 (k) (by decide)) dX5_load_34 ?_
  refine lv_aload_n hx hb dX5_load_35 rfl (lv_at hl 0 rfl) ?_
  refine va_get (D := D) (ci := 5) (v := .ref (mm 0)) (C := RX5) (T := TX5) (N := 14) hx hb hts hwX5 hown hE.K hP 0 rfl rfl 7 (by decide) (hts (.fieldLink RX5 16 "SedgeBargesModel" "b" "[I") (List.mem_of_getElem? (i := 3) rfl)) (fun _ h9 => h9) rfl dX5_load_36 ?_
  refine lv_bipush (v := 8) hx hb dX5_load_39 (by decide) ?_
  refine lv_iload_n hx hb dX5_load_41 rfl (lv_at hl 2 rfl) ?_
  refine rn_mul (a := 8) (b := j) hx hb dX5_load_42 ?_
  refine r_ald (f := pkB B) (v := B 0 j) hx hb hE hP 1 (8 * j + 0) rfl (congrArg nI (by omega)) (by omega) (by decide) (pkB_at 0 (j) (by decide)) dX5_load_43 ?_
  refine lv_icmp_eq (tgt := 53) hx hb dX5_load_44 (by decide) (fun c_44 => ?_) (fun c_44 => False.elim (by exact c_44 hq))
  refine lv_aload_n hx hb dX5_load_53 rfl (lv_at hl 0 rfl) ?_
  refine lv_iconst (v := 5) hx hb dX5_load_54 (by decide) ?_
  refine lv_iload_n hx hb dX5_load_55 rfl (lv_at hl 1 rfl) ?_
  refine rn_mul (a := 5) (b := k) hx hb dX5_load_56 ?_
  refine lv_bipush (v := 8) hx hb dX5_load_57 (by decide) ?_
  refine lv_iload_n hx hb dX5_load_59 rfl (lv_at hl 2 rfl) ?_
  refine rn_mul (a := 8) (b := j) hx hb dX5_load_60 ?_
  refine lv_iconst (v := 0) hx hb dX5_load_61 (by decide) ?_
  refine goI ([]) ([]) hP hD hS hA (rnV (rest := []) (m_loadOf0 sa tb D cA cL l h mm 0 dy co ti ro n nb B G T BA GA TA mo k j (show k < 3 from by first | omega | assumption | decide) (show j < 8 from by first | omega | assumption | decide)) ([]) ([]) hP hD hS hA hE ⟨hx, hb, hml, hown, hts⟩ (cwV 3 hts gX5_load_X5_loadOf rfl rfl rfl (by decide +kernel) ⟨(Nat.le_of_ble_eq_true rfl), (Nat.le_of_ble_eq_true rfl)⟩) 5 0 rfl rfl rfl rfl hl.1 rfl (Nat.le_of_ble_eq_true rfl) dX5_load_62 ⟨(Nat.le_of_ble_eq_true rfl), (Nat.le_of_ble_eq_true rfl)⟩) (fun _ => (show List.map Prod.fst _ = [h, mm 0, mm 1, mm 2, mm 3, mm 4, mm 5, mm 6] from rfl).trans (show [h, mm 0, mm 1, mm 2, mm 3, mm 4, mm 5, mm 6] = List.map Prod.fst _ from rfl)) (fun r_62 u_62 H locs hw_62 hP hD hS => ?_)
  have hP : va_P D vwCl (wMod cA h mm 0 dy co ti ro n nb (st B 6 j (B 6 j - imin (150 - abd G k) (B 6 j))) (st G 2 k (G 2 k + imin (150 - abd G k) (B 6 j))) T BA GA TA mo) H := hP
  have hD : va_D A (wMod cA h mm 0 dy co ti ro n nb (st B 6 j (B 6 j - imin (150 - abd G k) (B 6 j))) (st G 2 k (G 2 k + imin (150 - abd G k) (B 6 j))) T BA GA TA mo) := hD
  generalize hBq1 : st B 6 j (B 6 j - imin (150 - abd G k) (B 6 j)) = Bq1 at hP hD
  generalize hGq2 : st G 2 k (G 2 k + imin (150 - abd G k) (B 6 j)) = Gq2 at hP hD
  have hr_62 : r_62 = imin (150 - abd G k) (B 6 j) := hw_62
  refine lv_aload_n hx hb dX5_load_65 rfl (lv_at hl 0 rfl) ?_
  refine lv_iconst (v := 5) hx hb dX5_load_66 (by decide) ?_
  refine lv_iload_n hx hb dX5_load_67 rfl (lv_at hl 1 rfl) ?_
  refine rn_mul (a := 5) (b := k) hx hb dX5_load_68 ?_
  refine lv_bipush (v := 8) hx hb dX5_load_69 (by decide) ?_
  refine lv_iload_n hx hb dX5_load_71 rfl (lv_at hl 2 rfl) ?_
  refine rn_mul (a := 8) (b := j) hx hb dX5_load_72 ?_
  refine lv_iconst (v := 1) hx hb dX5_load_73 (by decide) ?_
  refine goI ([]) ([]) hP hD hS hA (rnV (rest := [.int r_62]) (m_loadOf1 sa tb D cA cL l h mm 0 dy co ti ro n nb Bq1 Gq2 T BA GA TA mo k j (show k < 3 from by first | omega | assumption | decide) (show j < 8 from by first | omega | assumption | decide)) ([]) ([]) hP hD hS hA hE ⟨hx, hb, hml, hown, hts⟩ (cwV 3 hts gX5_load_X5_loadOf rfl rfl rfl (by decide +kernel) ⟨(Nat.le_of_ble_eq_true rfl), (Nat.le_of_ble_eq_true rfl)⟩) 5 0 rfl rfl rfl rfl hl.1 rfl (Nat.le_of_ble_eq_true rfl) dX5_load_74 ⟨(Nat.le_of_ble_eq_true rfl), (Nat.le_of_ble_eq_true rfl)⟩) (fun _ => (show List.map Prod.fst _ = [h, mm 0, mm 1, mm 2, mm 3, mm 4, mm 5, mm 6] from rfl).trans (show [h, mm 0, mm 1, mm 2, mm 3, mm 4, mm 5, mm 6] = List.map Prod.fst _ from rfl)) (fun r_74 u_74 H locs hw_74 hP hD hS => ?_)
  have hP : va_P D vwCl (wMod cA h mm 0 dy co ti ro n nb (st Bq1 7 j (Bq1 7 j - imin (150 - abd Gq2 k) (Bq1 7 j))) (st Gq2 3 k (Gq2 3 k + imin (150 - abd Gq2 k) (Bq1 7 j))) T BA GA TA mo) H := hP
  have hD : va_D A (wMod cA h mm 0 dy co ti ro n nb (st Bq1 7 j (Bq1 7 j - imin (150 - abd Gq2 k) (Bq1 7 j))) (st Gq2 3 k (Gq2 3 k + imin (150 - abd Gq2 k) (Bq1 7 j))) T BA GA TA mo) := hD
  have hr_74 : r_74 = imin (150 - abd Gq2 k) (Bq1 7 j) := hw_74
  refine lv_iadd hx hb dX5_load_77 ?_
  have hW_B : ldB B G k j = st Bq1 7 j (Bq1 7 j - imin (150 - abd Gq2 k) (Bq1 7 j)) := load_B' hBq1 hGq2
  rw [← hW_B] at hP
  have hW_G : ldG B G k j = st Gq2 3 k (Gq2 3 k + imin (150 - abd Gq2 k) (Bq1 7 j)) := load_G' hBq1 hGq2
  rw [← hW_G] at hP
  exact enI () hx hb hr hlocks hS hP (by rw [hr_62, hr_74]; exact load_r' hBq1 hGq2) dX5_load_78
set_option maxRecDepth 100000 in
set_option maxHeartbeats 4000000 in
theorem m_load_1 (sa tb : Nat → Nat) (D : va_G) (cA cL : ClassId) (l : Launch) (h : Nat) (mm : Nat → Nat) (th : Int32) (dy : Int32) (co : Int32) (ti : Int32) (ro : Int32) (n : Nat) (nb : Nat) (B : Nat → Nat → Int32) (G : Nat → Nat → Int32) (T : Nat → Int32) (BA : Nat → Nat → Int32) (GA : Nat → Nat → Int32) (TA : Nat → Int32) (mo : Nat → Int32) (x : Int32) (y : Int32) (hb0 : x < 0 ∨ ¬ x < nI nb) (hnb : nb ≤ 3) : KM sa tb D cA cL l yX5_load wsX5_load ({ frames := 2, cells := 0, slots := 0, locals := 43 }) [.ref h, .int x, .int y] (wMod cA h mm th dy co ti ro n nb B G T BA GA TA mo) (qI D (fun (r : Int32) (_ : Unit) => r = 0) (fun _ => wMod cA h mm 1 dy co ti ro n nb B G T BA GA TA mo)) := by
  refine KM.of (cc := cX5_load) (maxL := 3) (ret := some .int) (by decide) rfl (Nat.le_of_ble_eq_true rfl) ?_
  intro pg e s m args below meth c A hx hb hr hml hlocks hts hown hS hA hE hP hD ls hl
  have hown : s.vm.findClass RX5 = some m.cls := hown
  have hl : lv_has ls 3 [(0, .ref h), (1, .int x), (2, .int y)] := hl
  have hwX5 : ∀ w ∈ wsX50, w ∈ wsX5_load := (fun _ h => List.mem_cons_of_mem _ (List.mem_append_right _ h))
  refine lv_aload_n hx hb dX5_load_0 rfl (lv_at hl 0 rfl) ?_
  refine lv_iconst (v := 0) hx hb dX5_load_1 (by decide) ?_
  refine va_put (D := D) (ci := 5) (v := .int 0) (ty := .int) (C := RX5) (T := TX5) (N := 14) hx hb hts hwX5 tyX5 tyX5_ok nmX5 hown hE.K hP hD hS 0 rfl rfl 0 (by decide) (hts (.fieldLink RX5 38 "SedgeBargesModel" "thrown" "I") (List.mem_of_getElem? (i := 1) rfl)) (fun _ h9 => h9) rfl (by decide +kernel) rfl rfl (Nat.le_of_ble_eq_true rfl) dX5_load_2 (fun H locs hP hD hS => ?_)
  have hP : va_P D vwCl (wMod cA h mm 0 dy co ti ro n nb B G T BA GA TA mo) H := hP
  have hD : va_D A (wMod cA h mm 0 dy co ti ro n nb B G T BA GA TA mo) := hD
  refine lv_aload_n hx hb dX5_load_5 rfl (lv_at hl 0 rfl) ?_
  refine lv_iload_n hx hb dX5_load_6 rfl (lv_at hl 1 rfl) ?_
  refine goI ([]) ([(mm 0, I_ cA 64 (pkB B)), (mm 1, I_ cA 15 (pkG G)), (mm 2, I_ cA 3 T), (mm 3, I_ cA 64 (pkB BA)), (mm 4, I_ cA 15 (pkG GA)), (mm 5, I_ cA 3 TA), (mm 6, I_ cA 8 mo)]) hP hD hS hA (rnV (rest := []) (m_isBarge sa tb D cA cL l h mm 0 dy co ti ro n nb x ) ([]) ([(mm 0, I_ cA 64 (pkB B)), (mm 1, I_ cA 15 (pkG G)), (mm 2, I_ cA 3 T), (mm 3, I_ cA 64 (pkB BA)), (mm 4, I_ cA 15 (pkG GA)), (mm 5, I_ cA 3 TA), (mm 6, I_ cA 8 mo)]) hP hD hS hA hE ⟨hx, hb, hml, hown, hts⟩ (cwV 1 hts gX5_load_X5_isBarge rfl rfl rfl (by decide +kernel) ⟨(Nat.le_of_ble_eq_true rfl), (Nat.le_of_ble_eq_true rfl)⟩) 5 0 rfl rfl rfl rfl hl.1 rfl (Nat.le_of_ble_eq_true rfl) dX5_load_7 ⟨(Nat.le_of_ble_eq_true rfl), (Nat.le_of_ble_eq_true rfl)⟩) (fun _ => rfl) (fun r_7 u_7 H locs hw_7 hP hD hS => ?_)
  have hP : va_P D vwCl (wMod cA h mm 0 dy co ti ro n nb B G T BA GA TA mo) H := hP
  have hD : va_D A (wMod cA h mm 0 dy co ti ro n nb B G T BA GA TA mo) := hD
  obtain rfl : r_7 = bI (isInB x 0 (nI nb - 1)) := hw_7
  refine lv_if_eq (tgt := 21) hx hb dX5_load_10 (by decide) (fun c_10 => ?_) (fun c_10 => False.elim (by exact c_10 (congrArg bI (isBed_no hb0 (by omega)))))
  refine lv_aload_n hx hb dX5_load_21 rfl (lv_at hl 0 rfl) ?_
  refine lv_iconst (v := 1) hx hb dX5_load_22 (by decide) ?_
  refine goI ([]) ([(mm 0, I_ cA 64 (pkB B)), (mm 1, I_ cA 15 (pkG G)), (mm 2, I_ cA 3 T), (mm 3, I_ cA 64 (pkB BA)), (mm 4, I_ cA 15 (pkG GA)), (mm 5, I_ cA 3 TA), (mm 6, I_ cA 8 mo)]) hP hD hS hA (rnV (rest := []) (m_no sa tb D cA cL l h mm 0 dy co ti ro n nb 1 ) ([]) ([(mm 0, I_ cA 64 (pkB B)), (mm 1, I_ cA 15 (pkG G)), (mm 2, I_ cA 3 T), (mm 3, I_ cA 64 (pkB BA)), (mm 4, I_ cA 15 (pkG GA)), (mm 5, I_ cA 3 TA), (mm 6, I_ cA 8 mo)]) hP hD hS hA hE ⟨hx, hb, hml, hown, hts⟩ (cwV 1 hts gX5_load_X5_no rfl rfl rfl (by decide +kernel) ⟨(Nat.le_of_ble_eq_true rfl), (Nat.le_of_ble_eq_true rfl)⟩) 5 0 rfl rfl rfl rfl hl.1 rfl (Nat.le_of_ble_eq_true rfl) dX5_load_23 ⟨(Nat.le_of_ble_eq_true rfl), (Nat.le_of_ble_eq_true rfl)⟩) (fun _ => (show List.map Prod.fst _ = [h] from rfl).trans (show [h] = List.map Prod.fst _ from rfl)) (fun r_23 u_23 H locs hw_23 hP hD hS => ?_)
  have hP : va_P D vwCl (wMod cA h mm 1 dy co ti ro n nb B G T BA GA TA mo) H := hP
  have hD : va_D A (wMod cA h mm 1 dy co ti ro n nb B G T BA GA TA mo) := hD
  obtain rfl : r_23 = 0 := hw_23
  exact enI () hx hb hr hlocks hS hP (rfl) dX5_load_26
set_option maxRecDepth 100000 in
set_option maxHeartbeats 4000000 in
theorem m_load_2 (sa tb : Nat → Nat) (D : va_G) (cA cL : ClassId) (l : Launch) (h : Nat) (mm : Nat → Nat) (th : Int32) (dy : Int32) (co : Int32) (ti : Int32) (ro : Int32) (n : Nat) (nb : Nat) (B : Nat → Nat → Int32) (G : Nat → Nat → Int32) (T : Nat → Int32) (BA : Nat → Nat → Int32) (GA : Nat → Nat → Int32) (TA : Nat → Int32) (mo : Nat → Int32) (k : Nat) (y : Int32) (hk : k < nb) (hnb : nb ≤ 3) (hb1 : y < 0 ∨ ¬ y < nI n) (hn : n ≤ 8) : KM sa tb D cA cL l yX5_load wsX5_load ({ frames := 2, cells := 0, slots := 0, locals := 43 }) [.ref h, .int (nI k), .int y] (wMod cA h mm th dy co ti ro n nb B G T BA GA TA mo) (qI D (fun (r : Int32) (_ : Unit) => r = 0) (fun _ => wMod cA h mm 1 dy co ti ro n nb B G T BA GA TA mo)) := by
  refine KM.of (cc := cX5_load) (maxL := 3) (ret := some .int) (by decide) rfl (Nat.le_of_ble_eq_true rfl) ?_
  intro pg e s m args below meth c A hx hb hr hml hlocks hts hown hS hA hE hP hD ls hl
  have hown : s.vm.findClass RX5 = some m.cls := hown
  have hl : lv_has ls 3 [(0, .ref h), (1, .int (nI k)), (2, .int y)] := hl
  have hwX5 : ∀ w ∈ wsX50, w ∈ wsX5_load := (fun _ h => List.mem_cons_of_mem _ (List.mem_append_right _ h))
  refine lv_aload_n hx hb dX5_load_0 rfl (lv_at hl 0 rfl) ?_
  refine lv_iconst (v := 0) hx hb dX5_load_1 (by decide) ?_
  refine va_put (D := D) (ci := 5) (v := .int 0) (ty := .int) (C := RX5) (T := TX5) (N := 14) hx hb hts hwX5 tyX5 tyX5_ok nmX5 hown hE.K hP hD hS 0 rfl rfl 0 (by decide) (hts (.fieldLink RX5 38 "SedgeBargesModel" "thrown" "I") (List.mem_of_getElem? (i := 1) rfl)) (fun _ h9 => h9) rfl (by decide +kernel) rfl rfl (Nat.le_of_ble_eq_true rfl) dX5_load_2 (fun H locs hP hD hS => ?_)
  have hP : va_P D vwCl (wMod cA h mm 0 dy co ti ro n nb B G T BA GA TA mo) H := hP
  have hD : va_D A (wMod cA h mm 0 dy co ti ro n nb B G T BA GA TA mo) := hD
  refine lv_aload_n hx hb dX5_load_5 rfl (lv_at hl 0 rfl) ?_
  refine lv_iload_n hx hb dX5_load_6 rfl (lv_at hl 1 rfl) ?_
  refine goI ([]) ([(mm 0, I_ cA 64 (pkB B)), (mm 1, I_ cA 15 (pkG G)), (mm 2, I_ cA 3 T), (mm 3, I_ cA 64 (pkB BA)), (mm 4, I_ cA 15 (pkG GA)), (mm 5, I_ cA 3 TA), (mm 6, I_ cA 8 mo)]) hP hD hS hA (rnV (rest := []) (m_isBarge sa tb D cA cL l h mm 0 dy co ti ro n nb (nI k) ) ([]) ([(mm 0, I_ cA 64 (pkB B)), (mm 1, I_ cA 15 (pkG G)), (mm 2, I_ cA 3 T), (mm 3, I_ cA 64 (pkB BA)), (mm 4, I_ cA 15 (pkG GA)), (mm 5, I_ cA 3 TA), (mm 6, I_ cA 8 mo)]) hP hD hS hA hE ⟨hx, hb, hml, hown, hts⟩ (cwV 1 hts gX5_load_X5_isBarge rfl rfl rfl (by decide +kernel) ⟨(Nat.le_of_ble_eq_true rfl), (Nat.le_of_ble_eq_true rfl)⟩) 5 0 rfl rfl rfl rfl hl.1 rfl (Nat.le_of_ble_eq_true rfl) dX5_load_7 ⟨(Nat.le_of_ble_eq_true rfl), (Nat.le_of_ble_eq_true rfl)⟩) (fun _ => rfl) (fun r_7 u_7 H locs hw_7 hP hD hS => ?_)
  have hP : va_P D vwCl (wMod cA h mm 0 dy co ti ro n nb B G T BA GA TA mo) H := hP
  have hD : va_D A (wMod cA h mm 0 dy co ti ro n nb B G T BA GA TA mo) := hD
  obtain rfl : r_7 = bI (isInB (nI k) 0 (nI nb - 1)) := hw_7
  refine lv_if_eq (tgt := 21) hx hb dX5_load_10 (by decide) (fun c_10 => False.elim (by exact absurd ((bI0 c_10).symm.trans (isBed_yes hk (by omega))) (by decide))) (fun c_10 => ?_)
  refine lv_aload_n hx hb dX5_load_13 rfl (lv_at hl 0 rfl) ?_
  refine lv_iload_n hx hb dX5_load_14 rfl (lv_at hl 2 rfl) ?_
  refine goI ([]) ([(mm 0, I_ cA 64 (pkB B)), (mm 1, I_ cA 15 (pkG G)), (mm 2, I_ cA 3 T), (mm 3, I_ cA 64 (pkB BA)), (mm 4, I_ cA 15 (pkG GA)), (mm 5, I_ cA 3 TA), (mm 6, I_ cA 8 mo)]) hP hD hS hA (rnV (rest := []) (m_isBed sa tb D cA cL l h mm 0 dy co ti ro n nb y ) ([]) ([(mm 0, I_ cA 64 (pkB B)), (mm 1, I_ cA 15 (pkG G)), (mm 2, I_ cA 3 T), (mm 3, I_ cA 64 (pkB BA)), (mm 4, I_ cA 15 (pkG GA)), (mm 5, I_ cA 3 TA), (mm 6, I_ cA 8 mo)]) hP hD hS hA hE ⟨hx, hb, hml, hown, hts⟩ (cwV 1 hts gX5_load_X5_isBed rfl rfl rfl (by decide +kernel) ⟨(Nat.le_of_ble_eq_true rfl), (Nat.le_of_ble_eq_true rfl)⟩) 5 0 rfl rfl rfl rfl hl.1 rfl (Nat.le_of_ble_eq_true rfl) dX5_load_15 ⟨(Nat.le_of_ble_eq_true rfl), (Nat.le_of_ble_eq_true rfl)⟩) (fun _ => rfl) (fun r_15 u_15 H locs hw_15 hP hD hS => ?_)
  have hP : va_P D vwCl (wMod cA h mm 0 dy co ti ro n nb B G T BA GA TA mo) H := hP
  have hD : va_D A (wMod cA h mm 0 dy co ti ro n nb B G T BA GA TA mo) := hD
  obtain rfl : r_15 = bI (isInB y 0 (nI n - 1)) := hw_15
  refine lv_if_ne (tgt := 27) hx hb dX5_load_18 (by decide) (fun c_18 => False.elim (by exact c_18 (congrArg bI (isBed_no hb1 (by omega))))) (fun c_18 => ?_)
  refine lv_aload_n hx hb dX5_load_21 rfl (lv_at hl 0 rfl) ?_
  refine lv_iconst (v := 1) hx hb dX5_load_22 (by decide) ?_
  refine goI ([]) ([(mm 0, I_ cA 64 (pkB B)), (mm 1, I_ cA 15 (pkG G)), (mm 2, I_ cA 3 T), (mm 3, I_ cA 64 (pkB BA)), (mm 4, I_ cA 15 (pkG GA)), (mm 5, I_ cA 3 TA), (mm 6, I_ cA 8 mo)]) hP hD hS hA (rnV (rest := []) (m_no sa tb D cA cL l h mm 0 dy co ti ro n nb 1 ) ([]) ([(mm 0, I_ cA 64 (pkB B)), (mm 1, I_ cA 15 (pkG G)), (mm 2, I_ cA 3 T), (mm 3, I_ cA 64 (pkB BA)), (mm 4, I_ cA 15 (pkG GA)), (mm 5, I_ cA 3 TA), (mm 6, I_ cA 8 mo)]) hP hD hS hA hE ⟨hx, hb, hml, hown, hts⟩ (cwV 1 hts gX5_load_X5_no rfl rfl rfl (by decide +kernel) ⟨(Nat.le_of_ble_eq_true rfl), (Nat.le_of_ble_eq_true rfl)⟩) 5 0 rfl rfl rfl rfl hl.1 rfl (Nat.le_of_ble_eq_true rfl) dX5_load_23 ⟨(Nat.le_of_ble_eq_true rfl), (Nat.le_of_ble_eq_true rfl)⟩) (fun _ => (show List.map Prod.fst _ = [h] from rfl).trans (show [h] = List.map Prod.fst _ from rfl)) (fun r_23 u_23 H locs hw_23 hP hD hS => ?_)
  have hP : va_P D vwCl (wMod cA h mm 1 dy co ti ro n nb B G T BA GA TA mo) H := hP
  have hD : va_D A (wMod cA h mm 1 dy co ti ro n nb B G T BA GA TA mo) := hD
  obtain rfl : r_23 = 0 := hw_23
  exact enI () hx hb hr hlocks hS hP (rfl) dX5_load_26
set_option maxRecDepth 100000 in
set_option maxHeartbeats 4000000 in
theorem m_load_3 (sa tb : Nat → Nat) (D : va_G) (cA cL : ClassId) (l : Launch) (h : Nat) (mm : Nat → Nat) (th : Int32) (dy : Int32) (co : Int32) (ti : Int32) (ro : Int32) (n : Nat) (nb : Nat) (B : Nat → Nat → Int32) (G : Nat → Nat → Int32) (T : Nat → Int32) (BA : Nat → Nat → Int32) (GA : Nat → Nat → Int32) (TA : Nat → Int32) (mo : Nat → Int32) (k : Nat) (j : Nat) (hk : k < nb) (hj : j < n) (hn : n ≤ 8) (hnb : nb ≤ 3) (hq : ¬ G 0 k = B 0 j) : KM sa tb D cA cL l yX5_load wsX5_load ({ frames := 2, cells := 0, slots := 0, locals := 43 }) [.ref h, .int (nI k), .int (nI j)] (wMod cA h mm th dy co ti ro n nb B G T BA GA TA mo) (qI D (fun (r : Int32) (_ : Unit) => r = 0) (fun _ => wMod cA h mm 2 dy co ti ro n nb B G T BA GA TA mo)) := by
  refine KM.of (cc := cX5_load) (maxL := 3) (ret := some .int) (by decide) rfl (Nat.le_of_ble_eq_true rfl) ?_
  intro pg e s m args below meth c A hx hb hr hml hlocks hts hown hS hA hE hP hD ls hl
  have hown : s.vm.findClass RX5 = some m.cls := hown
  have hl : lv_has ls 3 [(0, .ref h), (1, .int (nI k)), (2, .int (nI j))] := hl
  have hwX5 : ∀ w ∈ wsX50, w ∈ wsX5_load := (fun _ h => List.mem_cons_of_mem _ (List.mem_append_right _ h))
  refine lv_aload_n hx hb dX5_load_0 rfl (lv_at hl 0 rfl) ?_
  refine lv_iconst (v := 0) hx hb dX5_load_1 (by decide) ?_
  refine va_put (D := D) (ci := 5) (v := .int 0) (ty := .int) (C := RX5) (T := TX5) (N := 14) hx hb hts hwX5 tyX5 tyX5_ok nmX5 hown hE.K hP hD hS 0 rfl rfl 0 (by decide) (hts (.fieldLink RX5 38 "SedgeBargesModel" "thrown" "I") (List.mem_of_getElem? (i := 1) rfl)) (fun _ h9 => h9) rfl (by decide +kernel) rfl rfl (Nat.le_of_ble_eq_true rfl) dX5_load_2 (fun H locs hP hD hS => ?_)
  have hP : va_P D vwCl (wMod cA h mm 0 dy co ti ro n nb B G T BA GA TA mo) H := hP
  have hD : va_D A (wMod cA h mm 0 dy co ti ro n nb B G T BA GA TA mo) := hD
  refine lv_aload_n hx hb dX5_load_5 rfl (lv_at hl 0 rfl) ?_
  refine lv_iload_n hx hb dX5_load_6 rfl (lv_at hl 1 rfl) ?_
  refine goI ([]) ([(mm 0, I_ cA 64 (pkB B)), (mm 1, I_ cA 15 (pkG G)), (mm 2, I_ cA 3 T), (mm 3, I_ cA 64 (pkB BA)), (mm 4, I_ cA 15 (pkG GA)), (mm 5, I_ cA 3 TA), (mm 6, I_ cA 8 mo)]) hP hD hS hA (rnV (rest := []) (m_isBarge sa tb D cA cL l h mm 0 dy co ti ro n nb (nI k) ) ([]) ([(mm 0, I_ cA 64 (pkB B)), (mm 1, I_ cA 15 (pkG G)), (mm 2, I_ cA 3 T), (mm 3, I_ cA 64 (pkB BA)), (mm 4, I_ cA 15 (pkG GA)), (mm 5, I_ cA 3 TA), (mm 6, I_ cA 8 mo)]) hP hD hS hA hE ⟨hx, hb, hml, hown, hts⟩ (cwV 1 hts gX5_load_X5_isBarge rfl rfl rfl (by decide +kernel) ⟨(Nat.le_of_ble_eq_true rfl), (Nat.le_of_ble_eq_true rfl)⟩) 5 0 rfl rfl rfl rfl hl.1 rfl (Nat.le_of_ble_eq_true rfl) dX5_load_7 ⟨(Nat.le_of_ble_eq_true rfl), (Nat.le_of_ble_eq_true rfl)⟩) (fun _ => rfl) (fun r_7 u_7 H locs hw_7 hP hD hS => ?_)
  have hP : va_P D vwCl (wMod cA h mm 0 dy co ti ro n nb B G T BA GA TA mo) H := hP
  have hD : va_D A (wMod cA h mm 0 dy co ti ro n nb B G T BA GA TA mo) := hD
  obtain rfl : r_7 = bI (isInB (nI k) 0 (nI nb - 1)) := hw_7
  refine lv_if_eq (tgt := 21) hx hb dX5_load_10 (by decide) (fun c_10 => False.elim (by exact absurd ((bI0 c_10).symm.trans (isBed_yes hk (by omega))) (by decide))) (fun c_10 => ?_)
  refine lv_aload_n hx hb dX5_load_13 rfl (lv_at hl 0 rfl) ?_
  refine lv_iload_n hx hb dX5_load_14 rfl (lv_at hl 2 rfl) ?_
  refine goI ([]) ([(mm 0, I_ cA 64 (pkB B)), (mm 1, I_ cA 15 (pkG G)), (mm 2, I_ cA 3 T), (mm 3, I_ cA 64 (pkB BA)), (mm 4, I_ cA 15 (pkG GA)), (mm 5, I_ cA 3 TA), (mm 6, I_ cA 8 mo)]) hP hD hS hA (rnV (rest := []) (m_isBed sa tb D cA cL l h mm 0 dy co ti ro n nb (nI j) ) ([]) ([(mm 0, I_ cA 64 (pkB B)), (mm 1, I_ cA 15 (pkG G)), (mm 2, I_ cA 3 T), (mm 3, I_ cA 64 (pkB BA)), (mm 4, I_ cA 15 (pkG GA)), (mm 5, I_ cA 3 TA), (mm 6, I_ cA 8 mo)]) hP hD hS hA hE ⟨hx, hb, hml, hown, hts⟩ (cwV 1 hts gX5_load_X5_isBed rfl rfl rfl (by decide +kernel) ⟨(Nat.le_of_ble_eq_true rfl), (Nat.le_of_ble_eq_true rfl)⟩) 5 0 rfl rfl rfl rfl hl.1 rfl (Nat.le_of_ble_eq_true rfl) dX5_load_15 ⟨(Nat.le_of_ble_eq_true rfl), (Nat.le_of_ble_eq_true rfl)⟩) (fun _ => rfl) (fun r_15 u_15 H locs hw_15 hP hD hS => ?_)
  have hP : va_P D vwCl (wMod cA h mm 0 dy co ti ro n nb B G T BA GA TA mo) H := hP
  have hD : va_D A (wMod cA h mm 0 dy co ti ro n nb B G T BA GA TA mo) := hD
  obtain rfl : r_15 = bI (isInB (nI j) 0 (nI n - 1)) := hw_15
  refine lv_if_ne (tgt := 27) hx hb dX5_load_18 (by decide) (fun c_18 => ?_) (fun c_18 => False.elim (by exact absurd ((bI0 c_18).symm.trans (isBed_yes hj (by omega))) (by decide)))
  refine lv_aload_n hx hb dX5_load_27 rfl (lv_at hl 0 rfl) ?_
  refine va_get (D := D) (ci := 5) (v := .ref (mm 1)) (C := RX5) (T := TX5) (N := 14) hx hb hts hwX5 hown hE.K hP 0 rfl rfl 8 (by decide) (hts (.fieldLink RX5 20 "SedgeBargesModel" "g" "[I") (List.mem_of_getElem? (i := 2) rfl)) (fun _ h9 => h9) rfl dX5_load_28 ?_
  refine lv_iconst (v := 5) hx hb dX5_load_31 (by decide) ?_
  refine lv_iload_n hx hb dX5_load_32 rfl (lv_at hl 1 rfl) ?_
  refine rn_mul (a := 5) (b := k) hx hb dX5_load_33 ?_
  refine r_ald (f := pkG G) (v := G 0 k) hx hb hE hP 2 (5 * k + 0) rfl (congrArg nI (by omega)) (by omega) (by decide) (pkG_at 0 (k) (by decide)) dX5_load_34 ?_
  refine lv_aload_n hx hb dX5_load_35 rfl (lv_at hl 0 rfl) ?_
  refine va_get (D := D) (ci := 5) (v := .ref (mm 0)) (C := RX5) (T := TX5) (N := 14) hx hb hts hwX5 hown hE.K hP 0 rfl rfl 7 (by decide) (hts (.fieldLink RX5 16 "SedgeBargesModel" "b" "[I") (List.mem_of_getElem? (i := 3) rfl)) (fun _ h9 => h9) rfl dX5_load_36 ?_
  refine lv_bipush (v := 8) hx hb dX5_load_39 (by decide) ?_
  refine lv_iload_n hx hb dX5_load_41 rfl (lv_at hl 2 rfl) ?_
  refine rn_mul (a := 8) (b := j) hx hb dX5_load_42 ?_
  refine r_ald (f := pkB B) (v := B 0 j) hx hb hE hP 1 (8 * j + 0) rfl (congrArg nI (by omega)) (by omega) (by decide) (pkB_at 0 (j) (by decide)) dX5_load_43 ?_
  refine lv_icmp_eq (tgt := 53) hx hb dX5_load_44 (by decide) (fun c_44 => False.elim (by exact hq c_44)) (fun c_44 => ?_)
  refine lv_aload_n hx hb dX5_load_47 rfl (lv_at hl 0 rfl) ?_
  refine lv_iconst (v := 2) hx hb dX5_load_48 (by decide) ?_
  refine goI ([]) ([(mm 0, I_ cA 64 (pkB B)), (mm 1, I_ cA 15 (pkG G)), (mm 2, I_ cA 3 T), (mm 3, I_ cA 64 (pkB BA)), (mm 4, I_ cA 15 (pkG GA)), (mm 5, I_ cA 3 TA), (mm 6, I_ cA 8 mo)]) hP hD hS hA (rnV (rest := []) (m_no sa tb D cA cL l h mm 0 dy co ti ro n nb 2 ) ([]) ([(mm 0, I_ cA 64 (pkB B)), (mm 1, I_ cA 15 (pkG G)), (mm 2, I_ cA 3 T), (mm 3, I_ cA 64 (pkB BA)), (mm 4, I_ cA 15 (pkG GA)), (mm 5, I_ cA 3 TA), (mm 6, I_ cA 8 mo)]) hP hD hS hA hE ⟨hx, hb, hml, hown, hts⟩ (cwV 1 hts gX5_load_X5_no rfl rfl rfl (by decide +kernel) ⟨(Nat.le_of_ble_eq_true rfl), (Nat.le_of_ble_eq_true rfl)⟩) 5 0 rfl rfl rfl rfl hl.1 rfl (Nat.le_of_ble_eq_true rfl) dX5_load_49 ⟨(Nat.le_of_ble_eq_true rfl), (Nat.le_of_ble_eq_true rfl)⟩) (fun _ => (show List.map Prod.fst _ = [h] from rfl).trans (show [h] = List.map Prod.fst _ from rfl)) (fun r_49 u_49 H locs hw_49 hP hD hS => ?_)
  have hP : va_P D vwCl (wMod cA h mm 2 dy co ti ro n nb B G T BA GA TA mo) H := hP
  have hD : va_D A (wMod cA h mm 2 dy co ti ro n nb B G T BA GA TA mo) := hD
  obtain rfl : r_49 = 0 := hw_49
  exact enI () hx hb hr hlocks hS hP (rfl) dX5_load_52
set_option maxRecDepth 100000 in
set_option maxHeartbeats 4000000 in
theorem m_landingAt (sa tb : Nat → Nat) (D : va_G) (cA cL : ClassId) (l : Launch) (x : Int32)  : KM sa tb D cA cL l yX5_landingAt wsX5_landingAt ({ frames := 0, cells := 0, slots := 0, locals := 0 }) [.int x] ([]) (qI D (fun (r : Int32) (_ : Unit) => r = landAt x) (fun _ => [])) := by
  refine KM.of (cc := cX5_landingAt) (maxL := 2) (ret := some .int) (by decide) rfl (Nat.le_of_ble_eq_true rfl) ?_
  intro pg e s m args below meth c A hx hb hr hml hlocks hts hown hS hA hE hP hD ls hl
  have hown : s.vm.findClass RX5 = some m.cls := hown
  have hl : lv_has ls 2 [(0, .int x)] := hl
  refine lv_iconst (v := 0) hx hb dX5_landingAt_0 (by decide) ?_
  refine lv_istore_n (lv' := [(1, .int 0), (0, .int x)]) hx hb dX5_landingAt_1 rfl hl (by decide) rfl (fun ls hl => ?_)
  refine lv_iload_n hx hb dX5_landingAt_2 rfl (lv_at hl 0 rfl) ?_
  refine lv_iconst (v := 3) hx hb dX5_landingAt_3 (by decide) ?_
  refine lv_icmp_ge (tgt := 24) hx hb dX5_landingAt_4 (by decide) (fun q => absurd q (by decide)) (fun _ => ?_)
  refine va_gets hx hb (hE.2.2.2.2.2.2.2.1.2.2.2.2.1).1 hS hown (hts (.fieldLink RX5 104 "SedgeBargesModel" "LANDING" "[I") (List.mem_of_getElem? (i := 1) rfl)) (fun _ h9 => h9) dX5_landingAt_7 ?_
  refine lv_iload_n hx hb dX5_landingAt_10 rfl (lv_at hl 0 rfl) ?_
  refine r_tld hx hb (hE.2.2.2.2.2.2.2.1.2.2.2.2.1) hS (0) rfl (by omega) (by decide) rfl dX5_landingAt_11 ?_
  refine lv_iload_n hx hb dX5_landingAt_12 rfl (lv_at hl 1 rfl) ?_
  refine lv_icmp_ne (tgt := 18) hx hb dX5_landingAt_13 (by decide) (fun c_13 => ?_) (fun c_13 => ?_)
  · refine lv_iinc (v := 1) (lv' := [(1, .int 1), (0, .int x)]) (k := 0) hx hb dX5_landingAt_18 hl rfl (by decide) (by decide) rfl (fun ls hl => ?_)
    refine lv_goto (tgt := 2) hx hb dX5_landingAt_21 (by decide) ?_
    refine lv_iload_n hx hb dX5_landingAt_2 rfl (lv_at hl 0 rfl) ?_
    refine lv_iconst (v := 3) hx hb dX5_landingAt_3 (by decide) ?_
    refine lv_icmp_ge (tgt := 24) hx hb dX5_landingAt_4 (by decide) (fun q => absurd q (by decide)) (fun _ => ?_)
    refine va_gets hx hb (hE.2.2.2.2.2.2.2.1.2.2.2.2.1).1 hS hown (hts (.fieldLink RX5 104 "SedgeBargesModel" "LANDING" "[I") (List.mem_of_getElem? (i := 1) rfl)) (fun _ h9 => h9) dX5_landingAt_7 ?_
    refine lv_iload_n hx hb dX5_landingAt_10 rfl (lv_at hl 0 rfl) ?_
    refine r_tld hx hb (hE.2.2.2.2.2.2.2.1.2.2.2.2.1) hS (1) rfl (by omega) (by decide) rfl dX5_landingAt_11 ?_
    refine lv_iload_n hx hb dX5_landingAt_12 rfl (lv_at hl 1 rfl) ?_
    refine lv_icmp_ne (tgt := 18) hx hb dX5_landingAt_13 (by decide) (fun c_13_2 => ?_) (fun c_13_2 => ?_)
    · refine lv_iinc (v := 2) (lv' := [(1, .int 2), (0, .int x)]) (k := 0) hx hb dX5_landingAt_18 hl rfl (by decide) (by decide) rfl (fun ls hl => ?_)
      refine lv_goto (tgt := 2) hx hb dX5_landingAt_21 (by decide) ?_
      refine lv_iload_n hx hb dX5_landingAt_2 rfl (lv_at hl 0 rfl) ?_
      refine lv_iconst (v := 3) hx hb dX5_landingAt_3 (by decide) ?_
      refine lv_icmp_ge (tgt := 24) hx hb dX5_landingAt_4 (by decide) (fun q => absurd q (by decide)) (fun _ => ?_)
      refine va_gets hx hb (hE.2.2.2.2.2.2.2.1.2.2.2.2.1).1 hS hown (hts (.fieldLink RX5 104 "SedgeBargesModel" "LANDING" "[I") (List.mem_of_getElem? (i := 1) rfl)) (fun _ h9 => h9) dX5_landingAt_7 ?_
      refine lv_iload_n hx hb dX5_landingAt_10 rfl (lv_at hl 0 rfl) ?_
      refine r_tld hx hb (hE.2.2.2.2.2.2.2.1.2.2.2.2.1) hS (2) rfl (by omega) (by decide) rfl dX5_landingAt_11 ?_
      refine lv_iload_n hx hb dX5_landingAt_12 rfl (lv_at hl 1 rfl) ?_
      refine lv_icmp_ne (tgt := 18) hx hb dX5_landingAt_13 (by decide) (fun c_13_3 => ?_) (fun c_13_3 => ?_)
      · refine lv_iinc (v := 3) (lv' := [(1, .int 3), (0, .int x)]) (k := 0) hx hb dX5_landingAt_18 hl rfl (by decide) (by decide) rfl (fun ls hl => ?_)
        refine lv_goto (tgt := 2) hx hb dX5_landingAt_21 (by decide) ?_
        refine lv_iload_n hx hb dX5_landingAt_2 rfl (lv_at hl 0 rfl) ?_
        refine lv_iconst (v := 3) hx hb dX5_landingAt_3 (by decide) ?_
        refine lv_icmp_ge (tgt := 24) hx hb dX5_landingAt_4 (by decide) (fun _ => ?_) (fun q => absurd (by decide) q)
        refine lv_iconst (v := (-1)) hx hb dX5_landingAt_24 (by decide) ?_
        exact enI () hx hb hr hlocks hS hP (by unfold landAt; first | exact (if_pos c_13).symm | exact ((if_neg c_13).trans (if_pos c_13_2)).symm | exact ((if_neg c_13).trans ((if_neg c_13_2).trans (if_pos c_13_3))).symm | exact ((if_neg c_13).trans ((if_neg c_13_2).trans (if_neg c_13_3))).symm) dX5_landingAt_25
      · refine lv_iload_n hx hb dX5_landingAt_16 rfl (lv_at hl 0 rfl) ?_
        exact enI () hx hb hr hlocks hS hP (by unfold landAt; first | exact (if_pos c_13).symm | exact ((if_neg c_13).trans (if_pos c_13_2)).symm | exact ((if_neg c_13).trans ((if_neg c_13_2).trans (if_pos c_13_3))).symm | exact ((if_neg c_13).trans ((if_neg c_13_2).trans (if_neg c_13_3))).symm) dX5_landingAt_17
    · refine lv_iload_n hx hb dX5_landingAt_16 rfl (lv_at hl 0 rfl) ?_
      exact enI () hx hb hr hlocks hS hP (by unfold landAt; first | exact (if_pos c_13).symm | exact ((if_neg c_13).trans (if_pos c_13_2)).symm | exact ((if_neg c_13).trans ((if_neg c_13_2).trans (if_pos c_13_3))).symm | exact ((if_neg c_13).trans ((if_neg c_13_2).trans (if_neg c_13_3))).symm) dX5_landingAt_17
  · refine lv_iload_n hx hb dX5_landingAt_16 rfl (lv_at hl 0 rfl) ?_
    exact enI () hx hb hr hlocks hS hP (by unfold landAt; first | exact (if_pos c_13).symm | exact ((if_neg c_13).trans (if_pos c_13_2)).symm | exact ((if_neg c_13).trans ((if_neg c_13_2).trans (if_pos c_13_3))).symm | exact ((if_neg c_13).trans ((if_neg c_13_2).trans (if_neg c_13_3))).symm) dX5_landingAt_17
set_option maxRecDepth 100000 in
set_option maxHeartbeats 4000000 in
theorem m_price (sa tb : Nat → Nat) (D : va_G) (cA cL : ClassId) (l : Launch) (j : Nat) (s9 : Int32) (hj : j < 3) : KM sa tb D cA cL l yX5_price wsX5_price ({ frames := 1, cells := 0, slots := 0, locals := 24 }) [.int (nI j), .int s9] ([]) (qI D (fun (r : Int32) (_ : Unit) => r = prA j s9) (fun _ => [])) := by
  refine KM.of (cc := cX5_price) (maxL := 2) (ret := some .int) (by decide) rfl (Nat.le_of_ble_eq_true rfl) ?_
  intro pg e s m args below meth c A hx hb hr hml hlocks hts hown hS hA hE hP hD ls hl
  have hown : s.vm.findClass RX5 = some m.cls := hown
  have hl : lv_has ls 2 [(0, .int (nI j)), (1, .int s9)] := hl
  refine lv_iconst (v := 1) hx hb dX5_price_0 (by decide) ?_
  refine va_gets hx hb (hE.2.2.2.2.2.2.2.1.2.2.2.2.2).1 hS hown (hts (.fieldLink RX5 107 "SedgeBargesModel" "WORTH" "[I") (List.mem_of_getElem? (i := 1) rfl)) (fun _ h9 => h9) dX5_price_1 ?_
  refine lv_iload_n hx hb dX5_price_4 rfl (lv_at hl 0 rfl) ?_
  refine r_tld hx hb (hE.2.2.2.2.2.2.2.1.2.2.2.2.2) hS (j) rfl (by omega) (by decide) rfl dX5_price_5 ?_
  refine lv_iload_n hx hb dX5_price_6 rfl (lv_at hl 1 rfl) ?_
  refine lv_bipush (v := 25) hx hb dX5_price_7 (by decide) ?_
  refine lv_idiv hx hb dX5_price_9 (by decide) ?_
  refine lv_isub hx hb dX5_price_10 ?_
  refine r_mmax hx hb (hml.trans hl.1.symm) hown (hts (.methodLink RX5 110 Lib.Math.max.name) (List.mem_of_getElem? (i := 2) rfl)) (hts (.static Lib.Math.max.name) (List.mem_of_getElem? (i := 3) rfl)) (hts (.initialized "java/lang/Math") (List.mem_of_getElem? (i := 4) rfl)) (hts (.code Lib.Math.max.name Lib.Math.max.code 2 (some .int)) (List.mem_of_getElem? (i := 5) rfl)) (Nat.le_of_ble_eq_true rfl) (Nat.le_of_ble_eq_true rfl) (Nat.le_of_ble_eq_true rfl) (Nat.le_of_ble_eq_true rfl) dX5_price_11 ?_
  exact enI () hx hb hr hlocks hS hP (rfl) dX5_price_14
set_option maxRecDepth 100000 in
set_option maxHeartbeats 4000000 in
theorem m_reedPrice (sa tb : Nat → Nat) (D : va_G) (cA cL : ClassId) (l : Launch) (j : Nat) (s9 : Int32) (hj : j < 3) : KM sa tb D cA cL l yX5_reedPrice wsX5_reedPrice ({ frames := 2, cells := 0, slots := 0, locals := 45 }) [.int (nI j), .int s9] ([]) (qI D (fun (r : Int32) (_ : Unit) => r = prB j s9) (fun _ => [])) := by
  refine KM.of (cc := cX5_reedPrice) (maxL := 2) (ret := some .int) (by decide) rfl (Nat.le_of_ble_eq_true rfl) ?_
  intro pg e s m args below meth c A hx hb hr hml hlocks hts hown hS hA hE hP hD ls hl
  have hown : s.vm.findClass RX5 = some m.cls := hown
  have hl : lv_has ls 2 [(0, .int (nI j)), (1, .int s9)] := hl
  refine lv_iconst (v := 1) hx hb dX5_reedPrice_0 (by decide) ?_
  refine lv_iload_n hx hb dX5_reedPrice_1 rfl (lv_at hl 0 rfl) ?_
  refine lv_iload_n hx hb dX5_reedPrice_2 rfl (lv_at hl 1 rfl) ?_
  refine goI ([]) ([]) hP hD hS hA (rnS (rest := [.int 1]) (m_price sa tb D cA cL l j s9 (show j < 3 from by first | omega | assumption | decide)) ([]) ([]) hP hD hS hA hE ⟨hx, hb, hml, hown, hts⟩ (va_cwS 2 hts gX5_reedPrice_X5_price rfl rfl rfl (by decide +kernel) ⟨(Nat.le_of_ble_eq_true rfl), (Nat.le_of_ble_eq_true rfl)⟩) rfl hl.1 rfl (Nat.le_of_ble_eq_true rfl) dX5_reedPrice_3 ⟨(Nat.le_of_ble_eq_true rfl), (Nat.le_of_ble_eq_true rfl)⟩) (fun _ => rfl) (fun r_3 u_3 H locs hw_3 hP hD hS => ?_)
  have hP : va_P D vwCl ([]) H := hP
  have hD : va_D A ([]) := hD
  obtain rfl : r_3 = prA j s9 := hw_3
  refine lv_iconst (v := 2) hx hb dX5_reedPrice_6 (by decide) ?_
  refine lv_idiv hx hb dX5_reedPrice_7 (by decide) ?_
  refine r_mmax hx hb (hml.trans hl.1.symm) hown (hts (.methodLink RX5 110 Lib.Math.max.name) (List.mem_of_getElem? (i := 1) rfl)) (hts (.static Lib.Math.max.name) (List.mem_of_getElem? (i := 2) rfl)) (hts (.initialized "java/lang/Math") (List.mem_of_getElem? (i := 3) rfl)) (hts (.code Lib.Math.max.name Lib.Math.max.code 2 (some .int)) (List.mem_of_getElem? (i := 4) rfl)) (Nat.le_of_ble_eq_true rfl) (Nat.le_of_ble_eq_true rfl) (Nat.le_of_ble_eq_true rfl) (Nat.le_of_ble_eq_true rfl) dX5_reedPrice_8 ?_
  exact enI () hx hb hr hlocks hS hP (rfl) dX5_reedPrice_11
set_option maxRecDepth 100000 in
set_option maxHeartbeats 4000000 in
theorem m_brings (sa tb : Nat → Nat) (D : va_G) (cA cL : ClassId) (l : Launch) (h : Nat) (mm : Nat → Nat) (th : Int32) (dy : Int32) (co : Int32) (ti : Int32) (ro : Int32) (n : Nat) (nb : Nat) (B : Nat → Nat → Int32) (G : Nat → Nat → Int32) (T : Nat → Int32) (BA : Nat → Nat → Int32) (GA : Nat → Nat → Int32) (TA : Nat → Int32) (mo : Nat → Int32) (k : Nat) (j : Nat) (s9 : Int32) (hk : k < 3) (hj : j < 3) : KM sa tb D cA cL l yX5_brings wsX5_brings ({ frames := 3, cells := 0, slots := 0, locals := 66 }) [.ref h, .int (nI (5 * k)), .int (nI j), .int s9] (wMod cA h mm th dy co ti ro n nb B G T BA GA TA mo) (qI D (fun (r : Int32) (_ : Unit) => r = G 2 k * prA j s9 + G 3 k * prB j s9) (fun _ => wMod cA h mm th dy co ti ro n nb B G T BA GA TA mo)) := by
  refine KM.of (cc := cX5_brings) (maxL := 4) (ret := some .int) (by decide) rfl (Nat.le_of_ble_eq_true rfl) ?_
  intro pg e s m args below meth c A hx hb hr hml hlocks hts hown hS hA hE hP hD ls hl
  have hown : s.vm.findClass RX5 = some m.cls := hown
  have hl : lv_has ls 4 [(0, .ref h), (1, .int (nI (5 * k))), (2, .int (nI j)), (3, .int s9)] := hl
  have hwX5 : ∀ w ∈ wsX50, w ∈ wsX5_brings := (fun _ h => List.mem_cons_of_mem _ (List.mem_append_right _ h))
  refine lv_aload_n hx hb dX5_brings_0 rfl (lv_at hl 0 rfl) ?_
  refine va_get (D := D) (ci := 5) (v := .ref (mm 1)) (C := RX5) (T := TX5) (N := 14) hx hb hts hwX5 hown hE.K hP 0 rfl rfl 8 (by decide) (hts (.fieldLink RX5 20 "SedgeBargesModel" "g" "[I") (List.mem_of_getElem? (i := 1) rfl)) (fun _ h9 => h9) rfl dX5_brings_1 ?_
  refine lv_iload_n hx hb dX5_brings_4 rfl (lv_at hl 1 rfl) ?_
  refine lv_iconst (v := 2) hx hb dX5_brings_5 (by decide) ?_
  refine rn_add (a := 5 * k) (b := 2) hx hb dX5_brings_6 ?_
  refine r_ald (f := pkG G) (v := G 2 k) hx hb hE hP 2 (5 * k + 2) rfl (congrArg nI (by omega)) (by omega) (by decide) (pkG_at 2 (k) (by decide)) dX5_brings_7 ?_
  refine lv_iload_n hx hb dX5_brings_8 rfl (lv_at hl 2 rfl) ?_
  refine lv_iload_n hx hb dX5_brings_9 rfl (lv_at hl 3 rfl) ?_
  refine goI ([]) (wMod cA h mm th dy co ti ro n nb B G T BA GA TA mo) hP hD hS hA (rnS (rest := [.int (G 2 k)]) (m_price sa tb D cA cL l j s9 (show j < 3 from by first | omega | assumption | decide)) ([]) (wMod cA h mm th dy co ti ro n nb B G T BA GA TA mo) hP hD hS hA hE ⟨hx, hb, hml, hown, hts⟩ (va_cwS 2 hts gX5_brings_X5_price rfl rfl rfl (by decide +kernel) ⟨(Nat.le_of_ble_eq_true rfl), (Nat.le_of_ble_eq_true rfl)⟩) rfl hl.1 rfl (Nat.le_of_ble_eq_true rfl) dX5_brings_10 ⟨(Nat.le_of_ble_eq_true rfl), (Nat.le_of_ble_eq_true rfl)⟩) (fun _ => rfl) (fun r_10 u_10 H locs hw_10 hP hD hS => ?_)
  have hP : va_P D vwCl (wMod cA h mm th dy co ti ro n nb B G T BA GA TA mo) H := hP
  have hD : va_D A (wMod cA h mm th dy co ti ro n nb B G T BA GA TA mo) := hD
  obtain rfl : r_10 = prA j s9 := hw_10
  refine lv_imul hx hb dX5_brings_13 ?_
  refine lv_aload_n hx hb dX5_brings_14 rfl (lv_at hl 0 rfl) ?_
  refine va_get (D := D) (ci := 5) (v := .ref (mm 1)) (C := RX5) (T := TX5) (N := 14) hx hb hts hwX5 hown hE.K hP 0 rfl rfl 8 (by decide) (hts (.fieldLink RX5 20 "SedgeBargesModel" "g" "[I") (List.mem_of_getElem? (i := 1) rfl)) (fun _ h9 => h9) rfl dX5_brings_15 ?_
  refine lv_iload_n hx hb dX5_brings_18 rfl (lv_at hl 1 rfl) ?_
  refine lv_iconst (v := 2) hx hb dX5_brings_19 (by decide) ?_
  refine rn_add (a := 5 * k) (b := 2) hx hb dX5_brings_20 ?_
  refine lv_iconst (v := 1) hx hb dX5_brings_21 (by decide) ?_
  refine rn_add (a := (5 * k) + 2) (b := 1) hx hb dX5_brings_22 ?_
  refine r_ald (f := pkG G) (v := G 3 k) hx hb hE hP 2 (5 * k + 3) rfl (congrArg nI (by omega)) (by omega) (by decide) (pkG_at 3 (k) (by decide)) dX5_brings_23 ?_
  refine lv_iload_n hx hb dX5_brings_24 rfl (lv_at hl 2 rfl) ?_
  refine lv_iload_n hx hb dX5_brings_25 rfl (lv_at hl 3 rfl) ?_
  refine goI ([]) (wMod cA h mm th dy co ti ro n nb B G T BA GA TA mo) hP hD hS hA (rnS (rest := [.int (G 3 k), .int ((G 2 k) * (prA j s9))]) (m_reedPrice sa tb D cA cL l j s9 (show j < 3 from by first | omega | assumption | decide)) ([]) (wMod cA h mm th dy co ti ro n nb B G T BA GA TA mo) hP hD hS hA hE ⟨hx, hb, hml, hown, hts⟩ (va_cwS 2 hts gX5_brings_X5_reedPrice rfl rfl rfl (by decide +kernel) ⟨(Nat.le_of_ble_eq_true rfl), (Nat.le_of_ble_eq_true rfl)⟩) rfl hl.1 rfl (Nat.le_of_ble_eq_true rfl) dX5_brings_26 ⟨(Nat.le_of_ble_eq_true rfl), (Nat.le_of_ble_eq_true rfl)⟩) (fun _ => rfl) (fun r_26 u_26 H locs hw_26 hP hD hS => ?_)
  have hP : va_P D vwCl (wMod cA h mm th dy co ti ro n nb B G T BA GA TA mo) H := hP
  have hD : va_D A (wMod cA h mm th dy co ti ro n nb B G T BA GA TA mo) := hD
  obtain rfl : r_26 = prB j s9 := hw_26
  refine lv_imul hx hb dX5_brings_29 ?_
  refine lv_iadd hx hb dX5_brings_30 ?_
  exact enI () hx hb hr hlocks hS hP (rfl) dX5_brings_31
set_option maxRecDepth 100000 in
set_option maxHeartbeats 4000000 in
theorem m_sell (sa tb : Nat → Nat) (D : va_G) (cA cL : ClassId) (l : Launch) (h : Nat) (mm : Nat → Nat) (th : Int32) (dy : Int32) (co : Int32) (ti : Int32) (ro : Int32) (n : Nat) (nb : Nat) (B : Nat → Nat → Int32) (G : Nat → Nat → Int32) (T : Nat → Int32) (BA : Nat → Nat → Int32) (GA : Nat → Nat → Int32) (TA : Nat → Int32) (mo : Nat → Int32) (k : Nat) (j : Nat) (hk : k < nb) (hnb : nb ≤ 3) (hj : j < 3) (hq : landAt (G 0 k) = nI j) : KM sa tb D cA cL l yX5_sell wsX5_sell ({ frames := 4, cells := 0, slots := 0, locals := 89 }) [.ref h, .int (nI k)] (wMod cA h mm th dy co ti ro n nb B G T BA GA TA mo) (qI D (fun (r : Int32) (_ : Unit) => r = earn G T k j) (fun _ => wMod cA h mm 0 dy (co + earn G T k j) ti ro n nb B (sellG G T k j) (sellT G T k j) BA GA TA mo)) := by
  refine KM.of (cc := cX5_sell) (maxL := 5) (ret := some .int) (by decide) rfl (Nat.le_of_ble_eq_true rfl) ?_
  intro pg e s m args below meth c A hx hb hr hml hlocks hts hown hS hA hE hP hD ls hl
  have hown : s.vm.findClass RX5 = some m.cls := hown
  have hl : lv_has ls 5 [(0, .ref h), (1, .int (nI k))] := hl
  have hwX5 : ∀ w ∈ wsX50, w ∈ wsX5_sell := (fun _ h => List.mem_cons_of_mem _ (List.mem_append_right _ h))
  refine lv_aload_n hx hb dX5_sell_0 rfl (lv_at hl 0 rfl) ?_
  refine lv_iconst (v := 0) hx hb dX5_sell_1 (by decide) ?_
  refine va_put (D := D) (ci := 5) (v := .int 0) (ty := .int) (C := RX5) (T := TX5) (N := 14) hx hb hts hwX5 tyX5 tyX5_ok nmX5 hown hE.K hP hD hS 0 rfl rfl 0 (by decide) (hts (.fieldLink RX5 38 "SedgeBargesModel" "thrown" "I") (List.mem_of_getElem? (i := 1) rfl)) (fun _ h9 => h9) rfl (by decide +kernel) rfl rfl (Nat.le_of_ble_eq_true rfl) dX5_sell_2 (fun H locs hP hD hS => ?_)
  have hP : va_P D vwCl (wMod cA h mm 0 dy co ti ro n nb B G T BA GA TA mo) H := hP
  have hD : va_D A (wMod cA h mm 0 dy co ti ro n nb B G T BA GA TA mo) := hD
  refine lv_aload_n hx hb dX5_sell_5 rfl (lv_at hl 0 rfl) ?_
  refine lv_iload_n hx hb dX5_sell_6 rfl (lv_at hl 1 rfl) ?_
  refine goI ([]) ([(mm 0, I_ cA 64 (pkB B)), (mm 1, I_ cA 15 (pkG G)), (mm 2, I_ cA 3 T), (mm 3, I_ cA 64 (pkB BA)), (mm 4, I_ cA 15 (pkG GA)), (mm 5, I_ cA 3 TA), (mm 6, I_ cA 8 mo)]) hP hD hS hA (rnV (rest := []) (m_isBarge sa tb D cA cL l h mm 0 dy co ti ro n nb (nI k) ) ([]) ([(mm 0, I_ cA 64 (pkB B)), (mm 1, I_ cA 15 (pkG G)), (mm 2, I_ cA 3 T), (mm 3, I_ cA 64 (pkB BA)), (mm 4, I_ cA 15 (pkG GA)), (mm 5, I_ cA 3 TA), (mm 6, I_ cA 8 mo)]) hP hD hS hA hE ⟨hx, hb, hml, hown, hts⟩ (cwV 1 hts gX5_sell_X5_isBarge rfl rfl rfl (by decide +kernel) ⟨(Nat.le_of_ble_eq_true rfl), (Nat.le_of_ble_eq_true rfl)⟩) 5 0 rfl rfl rfl rfl hl.1 rfl (Nat.le_of_ble_eq_true rfl) dX5_sell_7 ⟨(Nat.le_of_ble_eq_true rfl), (Nat.le_of_ble_eq_true rfl)⟩) (fun _ => rfl) (fun r_7 u_7 H locs hw_7 hP hD hS => ?_)
  have hP : va_P D vwCl (wMod cA h mm 0 dy co ti ro n nb B G T BA GA TA mo) H := hP
  have hD : va_D A (wMod cA h mm 0 dy co ti ro n nb B G T BA GA TA mo) := hD
  obtain rfl : r_7 = bI (isInB (nI k) 0 (nI nb - 1)) := hw_7
  refine lv_if_ne (tgt := 19) hx hb dX5_sell_10 (by decide) (fun c_10 => ?_) (fun c_10 => False.elim (by exact absurd ((bI0 c_10).symm.trans (isBed_yes hk (by omega))) (by decide)))
  refine lv_iconst (v := 5) hx hb dX5_sell_19 (by decide) ?_
  refine lv_iload_n hx hb dX5_sell_20 rfl (lv_at hl 1 rfl) ?_
  refine rn_mul (a := 5) (b := k) hx hb dX5_sell_21 ?_
  refine lv_istore_n (lv' := [(2, .int (nI (5 * k))), (0, .ref h), (1, .int (nI k))]) hx hb dX5_sell_22 rfl hl (by decide) rfl (fun ls hl => ?_)
  refine lv_aload_n hx hb dX5_sell_23 rfl (lv_at hl 1 rfl) ?_
  refine va_get (D := D) (ci := 5) (v := .ref (mm 1)) (C := RX5) (T := TX5) (N := 14) hx hb hts hwX5 hown hE.K hP 0 rfl rfl 8 (by decide) (hts (.fieldLink RX5 20 "SedgeBargesModel" "g" "[I") (List.mem_of_getElem? (i := 2) rfl)) (fun _ h9 => h9) rfl dX5_sell_24 ?_
  refine lv_iload_n hx hb dX5_sell_27 rfl (lv_at hl 0 rfl) ?_
  refine r_ald (f := pkG G) (v := G 0 k) hx hb hE hP 2 (5 * k + 0) rfl (congrArg nI (by omega)) (by omega) (by decide) (pkG_at 0 (k) (by decide)) dX5_sell_28 ?_
  refine goI ([]) (wMod cA h mm 0 dy co ti ro n nb B G T BA GA TA mo) hP hD hS hA (rnS (rest := []) (m_landingAt sa tb D cA cL l (G 0 k) ) ([]) (wMod cA h mm 0 dy co ti ro n nb B G T BA GA TA mo) hP hD hS hA hE ⟨hx, hb, hml, hown, hts⟩ (va_cwS 1 hts gX5_sell_X5_landingAt rfl rfl rfl (by decide +kernel) ⟨(Nat.le_of_ble_eq_true rfl), (Nat.le_of_ble_eq_true rfl)⟩) rfl hl.1 rfl (Nat.le_of_ble_eq_true rfl) dX5_sell_29 ⟨(Nat.le_of_ble_eq_true rfl), (Nat.le_of_ble_eq_true rfl)⟩) (fun _ => rfl) (fun r_29 u_29 H locs hw_29 hP hD hS => ?_)
  have hP : va_P D vwCl (wMod cA h mm 0 dy co ti ro n nb B G T BA GA TA mo) H := hP
  have hD : va_D A (wMod cA h mm 0 dy co ti ro n nb B G T BA GA TA mo) := hD
  obtain rfl : r_29 = nI j := hw_29.trans hq
  refine lv_istore_n (lv' := [(3, .int (nI j)), (2, .int (nI (5 * k))), (0, .ref h), (1, .int (nI k))]) hx hb dX5_sell_32 rfl hl (by decide) rfl (fun ls hl => ?_)
  refine lv_iload_n hx hb dX5_sell_33 rfl (lv_at hl 0 rfl) ?_
  refine lv_if_ge (tgt := 43) hx hb dX5_sell_34 (by decide) (fun _ => ?_) (fun q => absurd (nI_pos' (by omega)) q)
  refine lv_aload_n hx hb dX5_sell_43 rfl (lv_at hl 2 rfl) ?_
  refine lv_iload_n hx hb dX5_sell_44 rfl (lv_at hl 1 rfl) ?_
  refine lv_iload_n hx hb dX5_sell_45 rfl (lv_at hl 0 rfl) ?_
  refine lv_aload_n hx hb dX5_sell_46 rfl (lv_at hl 2 rfl) ?_
  refine va_get (D := D) (ci := 5) (v := .ref (mm 2)) (C := RX5) (T := TX5) (N := 14) hx hb hts hwX5 hown hE.K hP 0 rfl rfl 9 (by decide) (hts (.fieldLink RX5 23 "SedgeBargesModel" "store" "[I") (List.mem_of_getElem? (i := 3) rfl)) (fun _ h9 => h9) rfl dX5_sell_47 ?_
  refine lv_iload_n hx hb dX5_sell_50 rfl (lv_at hl 0 rfl) ?_
  refine r_ald (f := T) (v := T j) hx hb hE hP 3 (j) rfl rfl (by omega) (by decide) rfl dX5_sell_51 ?_
  refine goI ([]) ([]) hP hD hS hA (rnV (rest := []) (m_brings sa tb D cA cL l h mm 0 dy co ti ro n nb B G T BA GA TA mo k j (T j) (show k < 3 from by first | omega | assumption | decide) (show j < 3 from by first | omega | assumption | decide)) ([]) ([]) hP hD hS hA hE ⟨hx, hb, hml, hown, hts⟩ (cwV 3 hts gX5_sell_X5_brings rfl rfl rfl (by decide +kernel) ⟨(Nat.le_of_ble_eq_true rfl), (Nat.le_of_ble_eq_true rfl)⟩) 5 0 rfl rfl rfl rfl hl.1 rfl (Nat.le_of_ble_eq_true rfl) dX5_sell_52 ⟨(Nat.le_of_ble_eq_true rfl), (Nat.le_of_ble_eq_true rfl)⟩) (fun _ => rfl) (fun r_52 u_52 H locs hw_52 hP hD hS => ?_)
  have hP : va_P D vwCl (wMod cA h mm 0 dy co ti ro n nb B G T BA GA TA mo) H := hP
  have hD : va_D A (wMod cA h mm 0 dy co ti ro n nb B G T BA GA TA mo) := hD
  obtain rfl : r_52 = G 2 k * prA j (T j) + G 3 k * prB j (T j) := hw_52
  refine lv_topi (fun z_1 hz_1 => ?_)
  refine lv_istore (lv' := [(4, .int z_1), (3, .int (nI j)), (2, .int (nI (5 * k))), (0, .ref h), (1, .int (nI k))]) hx hb dX5_sell_55 hl (by decide) rfl (fun ls hl => ?_)
  refine lv_aload_n hx hb dX5_sell_57 rfl (lv_at hl 3 rfl) ?_
  refine va_get (D := D) (ci := 5) (v := .ref (mm 2)) (C := RX5) (T := TX5) (N := 14) hx hb hts hwX5 hown hE.K hP 0 rfl rfl 9 (by decide) (hts (.fieldLink RX5 23 "SedgeBargesModel" "store" "[I") (List.mem_of_getElem? (i := 3) rfl)) (fun _ h9 => h9) rfl dX5_sell_58 ?_
  refine lv_iload_n hx hb dX5_sell_61 rfl (lv_at hl 1 rfl) ?_
  refine lv_dup2_11 hx hb dX5_sell_62 rfl rfl ?_
  refine r_ald (f := T) (v := T j) hx hb hE hP 3 (j) rfl rfl (by omega) (by decide) rfl dX5_sell_63 ?_
  refine lv_aload_n hx hb dX5_sell_64 rfl (lv_at hl 3 rfl) ?_
  refine lv_iload_n hx hb dX5_sell_65 rfl (lv_at hl 2 rfl) ?_
  refine goI ([]) ([]) hP hD hS hA (rnV (rest := [.int (T j), .int (nI j), .ref (mm 2)]) (m_aboard sa tb D cA cL l h mm 0 dy co ti ro n nb B G T BA GA TA mo k (show k < 3 from by first | omega | assumption | decide)) ([]) ([]) hP hD hS hA hE ⟨hx, hb, hml, hown, hts⟩ (cwV 1 hts gX5_sell_X5_aboard rfl rfl rfl (by decide +kernel) ⟨(Nat.le_of_ble_eq_true rfl), (Nat.le_of_ble_eq_true rfl)⟩) 5 0 rfl rfl rfl rfl hl.1 rfl (Nat.le_of_ble_eq_true rfl) dX5_sell_66 ⟨(Nat.le_of_ble_eq_true rfl), (Nat.le_of_ble_eq_true rfl)⟩) (fun _ => rfl) (fun r_66 u_66 H locs hw_66 hP hD hS => ?_)
  have hP : va_P D vwCl (wMod cA h mm 0 dy co ti ro n nb B G T BA GA TA mo) H := hP
  have hD : va_D A (wMod cA h mm 0 dy co ti ro n nb B G T BA GA TA mo) := hD
  obtain rfl : r_66 = abd G k := hw_66
  refine lv_iadd hx hb dX5_sell_69 ?_
  refine lv_topi (fun z_2 hz_2 => ?_)
  refine r_ast (f := T) (g := upd T j z_2) hx hb hE hP hD hS 3 (j) rfl rfl (by omega) (by decide) rfl dX5_sell_70 (fun H locs hP hD hS => ?_)
  have hP : va_P D vwCl (wMod cA h mm 0 dy co ti ro n nb B G (upd T j z_2) BA GA TA mo) H := hP
  have hD : va_D A (wMod cA h mm 0 dy co ti ro n nb B G (upd T j z_2) BA GA TA mo) := hD
  refine lv_aload_n hx hb dX5_sell_71 rfl (lv_at hl 3 rfl) ?_
  refine va_get (D := D) (ci := 5) (v := .ref (mm 1)) (C := RX5) (T := TX5) (N := 14) hx hb hts hwX5 hown hE.K hP 0 rfl rfl 8 (by decide) (hts (.fieldLink RX5 20 "SedgeBargesModel" "g" "[I") (List.mem_of_getElem? (i := 2) rfl)) (fun _ h9 => h9) rfl dX5_sell_72 ?_
  refine lv_iload_n hx hb dX5_sell_75 rfl (lv_at hl 2 rfl) ?_
  refine lv_iconst (v := 2) hx hb dX5_sell_76 (by decide) ?_
  refine rn_add (a := 5 * k) (b := 2) hx hb dX5_sell_77 ?_
  refine lv_iconst (v := 0) hx hb dX5_sell_78 (by decide) ?_
  refine r_ast (f := pkG G) (g := pkG (st G 2 k 0)) hx hb hE hP hD hS 2 (5 * k + 2) rfl (congrArg nI (by omega)) (by omega) (by decide) (pkG_up 2 (k) _ (by decide)) dX5_sell_79 (fun H locs hP hD hS => ?_)
  have hP : va_P D vwCl (wMod cA h mm 0 dy co ti ro n nb B (st G 2 k 0) (upd T j z_2) BA GA TA mo) H := hP
  have hD : va_D A (wMod cA h mm 0 dy co ti ro n nb B (st G 2 k 0) (upd T j z_2) BA GA TA mo) := hD
  generalize hG_3 : st G 2 k 0 = G_3 at hP hD
  refine lv_aload_n hx hb dX5_sell_80 rfl (lv_at hl 3 rfl) ?_
  refine va_get (D := D) (ci := 5) (v := .ref (mm 1)) (C := RX5) (T := TX5) (N := 14) hx hb hts hwX5 hown hE.K hP 0 rfl rfl 8 (by decide) (hts (.fieldLink RX5 20 "SedgeBargesModel" "g" "[I") (List.mem_of_getElem? (i := 2) rfl)) (fun _ h9 => h9) rfl dX5_sell_81 ?_
  refine lv_iload_n hx hb dX5_sell_84 rfl (lv_at hl 2 rfl) ?_
  refine lv_iconst (v := 2) hx hb dX5_sell_85 (by decide) ?_
  refine rn_add (a := 5 * k) (b := 2) hx hb dX5_sell_86 ?_
  refine lv_iconst (v := 1) hx hb dX5_sell_87 (by decide) ?_
  refine rn_add (a := (5 * k) + 2) (b := 1) hx hb dX5_sell_88 ?_
  refine lv_iconst (v := 0) hx hb dX5_sell_89 (by decide) ?_
  refine r_ast (f := pkG G_3) (g := pkG (st G_3 3 k 0)) hx hb hE hP hD hS 2 (5 * k + 3) rfl (congrArg nI (by omega)) (by omega) (by decide) (pkG_up 3 (k) _ (by decide)) dX5_sell_90 (fun H locs hP hD hS => ?_)
  have hP : va_P D vwCl (wMod cA h mm 0 dy co ti ro n nb B (st G_3 3 k 0) (upd T j z_2) BA GA TA mo) H := hP
  have hD : va_D A (wMod cA h mm 0 dy co ti ro n nb B (st G_3 3 k 0) (upd T j z_2) BA GA TA mo) := hD
  generalize hG_4 : st G_3 3 k 0 = G_4 at hP hD
  refine lv_aload_n hx hb dX5_sell_91 rfl (lv_at hl 3 rfl) ?_
  refine va_get (D := D) (ci := 5) (v := .ref (mm 1)) (C := RX5) (T := TX5) (N := 14) hx hb hts hwX5 hown hE.K hP 0 rfl rfl 8 (by decide) (hts (.fieldLink RX5 20 "SedgeBargesModel" "g" "[I") (List.mem_of_getElem? (i := 2) rfl)) (fun _ h9 => h9) rfl dX5_sell_92 ?_
  refine lv_iload_n hx hb dX5_sell_95 rfl (lv_at hl 2 rfl) ?_
  refine lv_iconst (v := 4) hx hb dX5_sell_96 (by decide) ?_
  refine rn_add (a := 5 * k) (b := 4) hx hb dX5_sell_97 ?_
  refine lv_dup2_11 hx hb dX5_sell_98 rfl rfl ?_
  refine r_ald (f := pkG G_4) (v := G 4 k) hx hb hE hP 2 (5 * k + 4) rfl (congrArg nI (by omega)) (by omega) (by decide) ((pkG_at 4 (k) (by decide)).trans ((st_colE hG_4 (by decide)).trans (st_colE hG_3 (by decide)))) dX5_sell_99 ?_
  refine lv_iload hx hb dX5_sell_100 (lv_at hl 0 rfl) ?_
  refine lv_iadd hx hb dX5_sell_102 ?_
  refine lv_topi (fun z_5 hz_5 => ?_)
  refine r_ast (f := pkG G_4) (g := pkG (st G_4 4 k z_5)) hx hb hE hP hD hS 2 (5 * k + 4) rfl (congrArg nI (by omega)) (by omega) (by decide) (pkG_up 4 (k) _ (by decide)) dX5_sell_103 (fun H locs hP hD hS => ?_)
  have hP : va_P D vwCl (wMod cA h mm 0 dy co ti ro n nb B (st G_4 4 k z_5) (upd T j z_2) BA GA TA mo) H := hP
  have hD : va_D A (wMod cA h mm 0 dy co ti ro n nb B (st G_4 4 k z_5) (upd T j z_2) BA GA TA mo) := hD
  generalize hG_6 : st G_4 4 k z_5 = G_6 at hP hD
  refine lv_aload_n hx hb dX5_sell_104 rfl (lv_at hl 3 rfl) ?_
  refine lv_dup hx hb dX5_sell_105 rfl ?_
  refine va_get (D := D) (ci := 5) (v := .int co) (C := RX5) (T := TX5) (N := 14) hx hb hts hwX5 hown hE.K hP 0 rfl rfl 2 (by decide) (hts (.fieldLink RX5 7 "SedgeBargesModel" "coins" "I") (List.mem_of_getElem? (i := 4) rfl)) (fun _ h9 => h9) rfl dX5_sell_106 ?_
  refine lv_iload hx hb dX5_sell_109 (lv_at hl 0 rfl) ?_
  refine lv_iadd hx hb dX5_sell_111 ?_
  refine lv_topi (fun z_7 hz_7 => ?_)
  refine va_put (D := D) (ci := 5) (v := .int z_7) (ty := .int) (C := RX5) (T := TX5) (N := 14) hx hb hts hwX5 tyX5 tyX5_ok nmX5 hown hE.K hP hD hS 0 rfl rfl 2 (by decide) (hts (.fieldLink RX5 7 "SedgeBargesModel" "coins" "I") (List.mem_of_getElem? (i := 4) rfl)) (fun _ h9 => h9) rfl (by decide +kernel) rfl rfl (Nat.le_of_ble_eq_true rfl) dX5_sell_112 (fun H locs hP hD hS => ?_)
  have hP : va_P D vwCl (wMod cA h mm 0 dy z_7 ti ro n nb B G_6 (upd T j z_2) BA GA TA mo) H := hP
  have hD : va_D A (wMod cA h mm 0 dy z_7 ti ro n nb B G_6 (upd T j z_2) BA GA TA mo) := hD
  refine lv_iload hx hb dX5_sell_115 (lv_at hl 0 rfl) ?_
  subst hz_7
  subst hG_6
  subst hz_5
  subst hG_4
  subst hG_3
  subst hz_2
  subst hz_1
  have hW_G : sellG G T k j = (st (st (st G 2 k 0) 3 k 0) 4 k ((G 4 k) + (G 2 k * prA j (T j) + G 3 k * prB j (T j)))) := by unfold sellG; rw [earn_eq]
  rw [← hW_G] at hP
  have hW_T : sellT G T k j = upd T j ((T j) + (abd G k)) := by unfold sellT; rfl
  rw [← hW_T] at hP
  have hW_co : co + earn G T k j = (co + (G 2 k * prA j (T j) + G 3 k * prB j (T j))) := by rw [earn_eq]
  rw [← hW_co] at hP
  exact enI () hx hb hr hlocks hS hP (earn_eq.symm) dX5_sell_117
set_option maxRecDepth 100000 in
set_option maxHeartbeats 4000000 in
theorem m_sell_1 (sa tb : Nat → Nat) (D : va_G) (cA cL : ClassId) (l : Launch) (h : Nat) (mm : Nat → Nat) (th : Int32) (dy : Int32) (co : Int32) (ti : Int32) (ro : Int32) (n : Nat) (nb : Nat) (B : Nat → Nat → Int32) (G : Nat → Nat → Int32) (T : Nat → Int32) (BA : Nat → Nat → Int32) (GA : Nat → Nat → Int32) (TA : Nat → Int32) (mo : Nat → Int32) (x : Int32) (hb0 : x < 0 ∨ ¬ x < nI nb) (hnb : nb ≤ 3) : KM sa tb D cA cL l yX5_sell wsX5_sell ({ frames := 2, cells := 0, slots := 0, locals := 43 }) [.ref h, .int x] (wMod cA h mm th dy co ti ro n nb B G T BA GA TA mo) (qI D (fun (r : Int32) (_ : Unit) => r = 0) (fun _ => wMod cA h mm 1 dy co ti ro n nb B G T BA GA TA mo)) := by
  refine KM.of (cc := cX5_sell) (maxL := 5) (ret := some .int) (by decide) rfl (Nat.le_of_ble_eq_true rfl) ?_
  intro pg e s m args below meth c A hx hb hr hml hlocks hts hown hS hA hE hP hD ls hl
  have hown : s.vm.findClass RX5 = some m.cls := hown
  have hl : lv_has ls 5 [(0, .ref h), (1, .int x)] := hl
  have hwX5 : ∀ w ∈ wsX50, w ∈ wsX5_sell := (fun _ h => List.mem_cons_of_mem _ (List.mem_append_right _ h))
  refine lv_aload_n hx hb dX5_sell_0 rfl (lv_at hl 0 rfl) ?_
  refine lv_iconst (v := 0) hx hb dX5_sell_1 (by decide) ?_
  refine va_put (D := D) (ci := 5) (v := .int 0) (ty := .int) (C := RX5) (T := TX5) (N := 14) hx hb hts hwX5 tyX5 tyX5_ok nmX5 hown hE.K hP hD hS 0 rfl rfl 0 (by decide) (hts (.fieldLink RX5 38 "SedgeBargesModel" "thrown" "I") (List.mem_of_getElem? (i := 1) rfl)) (fun _ h9 => h9) rfl (by decide +kernel) rfl rfl (Nat.le_of_ble_eq_true rfl) dX5_sell_2 (fun H locs hP hD hS => ?_)
  have hP : va_P D vwCl (wMod cA h mm 0 dy co ti ro n nb B G T BA GA TA mo) H := hP
  have hD : va_D A (wMod cA h mm 0 dy co ti ro n nb B G T BA GA TA mo) := hD
  refine lv_aload_n hx hb dX5_sell_5 rfl (lv_at hl 0 rfl) ?_
  refine lv_iload_n hx hb dX5_sell_6 rfl (lv_at hl 1 rfl) ?_
  refine goI ([]) ([(mm 0, I_ cA 64 (pkB B)), (mm 1, I_ cA 15 (pkG G)), (mm 2, I_ cA 3 T), (mm 3, I_ cA 64 (pkB BA)), (mm 4, I_ cA 15 (pkG GA)), (mm 5, I_ cA 3 TA), (mm 6, I_ cA 8 mo)]) hP hD hS hA (rnV (rest := []) (m_isBarge sa tb D cA cL l h mm 0 dy co ti ro n nb x ) ([]) ([(mm 0, I_ cA 64 (pkB B)), (mm 1, I_ cA 15 (pkG G)), (mm 2, I_ cA 3 T), (mm 3, I_ cA 64 (pkB BA)), (mm 4, I_ cA 15 (pkG GA)), (mm 5, I_ cA 3 TA), (mm 6, I_ cA 8 mo)]) hP hD hS hA hE ⟨hx, hb, hml, hown, hts⟩ (cwV 1 hts gX5_sell_X5_isBarge rfl rfl rfl (by decide +kernel) ⟨(Nat.le_of_ble_eq_true rfl), (Nat.le_of_ble_eq_true rfl)⟩) 5 0 rfl rfl rfl rfl hl.1 rfl (Nat.le_of_ble_eq_true rfl) dX5_sell_7 ⟨(Nat.le_of_ble_eq_true rfl), (Nat.le_of_ble_eq_true rfl)⟩) (fun _ => rfl) (fun r_7 u_7 H locs hw_7 hP hD hS => ?_)
  have hP : va_P D vwCl (wMod cA h mm 0 dy co ti ro n nb B G T BA GA TA mo) H := hP
  have hD : va_D A (wMod cA h mm 0 dy co ti ro n nb B G T BA GA TA mo) := hD
  obtain rfl : r_7 = bI (isInB x 0 (nI nb - 1)) := hw_7
  refine lv_if_ne (tgt := 19) hx hb dX5_sell_10 (by decide) (fun c_10 => False.elim (by exact c_10 (congrArg bI (isBed_no hb0 (by omega))))) (fun c_10 => ?_)
  refine lv_aload_n hx hb dX5_sell_13 rfl (lv_at hl 0 rfl) ?_
  refine lv_iconst (v := 1) hx hb dX5_sell_14 (by decide) ?_
  refine goI ([]) ([(mm 0, I_ cA 64 (pkB B)), (mm 1, I_ cA 15 (pkG G)), (mm 2, I_ cA 3 T), (mm 3, I_ cA 64 (pkB BA)), (mm 4, I_ cA 15 (pkG GA)), (mm 5, I_ cA 3 TA), (mm 6, I_ cA 8 mo)]) hP hD hS hA (rnV (rest := []) (m_no sa tb D cA cL l h mm 0 dy co ti ro n nb 1 ) ([]) ([(mm 0, I_ cA 64 (pkB B)), (mm 1, I_ cA 15 (pkG G)), (mm 2, I_ cA 3 T), (mm 3, I_ cA 64 (pkB BA)), (mm 4, I_ cA 15 (pkG GA)), (mm 5, I_ cA 3 TA), (mm 6, I_ cA 8 mo)]) hP hD hS hA hE ⟨hx, hb, hml, hown, hts⟩ (cwV 1 hts gX5_sell_X5_no rfl rfl rfl (by decide +kernel) ⟨(Nat.le_of_ble_eq_true rfl), (Nat.le_of_ble_eq_true rfl)⟩) 5 0 rfl rfl rfl rfl hl.1 rfl (Nat.le_of_ble_eq_true rfl) dX5_sell_15 ⟨(Nat.le_of_ble_eq_true rfl), (Nat.le_of_ble_eq_true rfl)⟩) (fun _ => (show List.map Prod.fst _ = [h] from rfl).trans (show [h] = List.map Prod.fst _ from rfl)) (fun r_15 u_15 H locs hw_15 hP hD hS => ?_)
  have hP : va_P D vwCl (wMod cA h mm 1 dy co ti ro n nb B G T BA GA TA mo) H := hP
  have hD : va_D A (wMod cA h mm 1 dy co ti ro n nb B G T BA GA TA mo) := hD
  obtain rfl : r_15 = 0 := hw_15
  exact enI () hx hb hr hlocks hS hP (rfl) dX5_sell_18
set_option maxRecDepth 100000 in
set_option maxHeartbeats 4000000 in
theorem m_sell_2 (sa tb : Nat → Nat) (D : va_G) (cA cL : ClassId) (l : Launch) (h : Nat) (mm : Nat → Nat) (th : Int32) (dy : Int32) (co : Int32) (ti : Int32) (ro : Int32) (n : Nat) (nb : Nat) (B : Nat → Nat → Int32) (G : Nat → Nat → Int32) (T : Nat → Int32) (BA : Nat → Nat → Int32) (GA : Nat → Nat → Int32) (TA : Nat → Int32) (mo : Nat → Int32) (k : Nat) (hk : k < nb) (hnb : nb ≤ 3) (hq : landAt (G 0 k) = -1) : KM sa tb D cA cL l yX5_sell wsX5_sell ({ frames := 2, cells := 0, slots := 0, locals := 43 }) [.ref h, .int (nI k)] (wMod cA h mm th dy co ti ro n nb B G T BA GA TA mo) (qI D (fun (r : Int32) (_ : Unit) => r = 0) (fun _ => wMod cA h mm 2 dy co ti ro n nb B G T BA GA TA mo)) := by
  refine KM.of (cc := cX5_sell) (maxL := 5) (ret := some .int) (by decide) rfl (Nat.le_of_ble_eq_true rfl) ?_
  intro pg e s m args below meth c A hx hb hr hml hlocks hts hown hS hA hE hP hD ls hl
  have hown : s.vm.findClass RX5 = some m.cls := hown
  have hl : lv_has ls 5 [(0, .ref h), (1, .int (nI k))] := hl
  have hwX5 : ∀ w ∈ wsX50, w ∈ wsX5_sell := (fun _ h => List.mem_cons_of_mem _ (List.mem_append_right _ h))
  refine lv_aload_n hx hb dX5_sell_0 rfl (lv_at hl 0 rfl) ?_
  refine lv_iconst (v := 0) hx hb dX5_sell_1 (by decide) ?_
  refine va_put (D := D) (ci := 5) (v := .int 0) (ty := .int) (C := RX5) (T := TX5) (N := 14) hx hb hts hwX5 tyX5 tyX5_ok nmX5 hown hE.K hP hD hS 0 rfl rfl 0 (by decide) (hts (.fieldLink RX5 38 "SedgeBargesModel" "thrown" "I") (List.mem_of_getElem? (i := 1) rfl)) (fun _ h9 => h9) rfl (by decide +kernel) rfl rfl (Nat.le_of_ble_eq_true rfl) dX5_sell_2 (fun H locs hP hD hS => ?_)
  have hP : va_P D vwCl (wMod cA h mm 0 dy co ti ro n nb B G T BA GA TA mo) H := hP
  have hD : va_D A (wMod cA h mm 0 dy co ti ro n nb B G T BA GA TA mo) := hD
  refine lv_aload_n hx hb dX5_sell_5 rfl (lv_at hl 0 rfl) ?_
  refine lv_iload_n hx hb dX5_sell_6 rfl (lv_at hl 1 rfl) ?_
  refine goI ([]) ([(mm 0, I_ cA 64 (pkB B)), (mm 1, I_ cA 15 (pkG G)), (mm 2, I_ cA 3 T), (mm 3, I_ cA 64 (pkB BA)), (mm 4, I_ cA 15 (pkG GA)), (mm 5, I_ cA 3 TA), (mm 6, I_ cA 8 mo)]) hP hD hS hA (rnV (rest := []) (m_isBarge sa tb D cA cL l h mm 0 dy co ti ro n nb (nI k) ) ([]) ([(mm 0, I_ cA 64 (pkB B)), (mm 1, I_ cA 15 (pkG G)), (mm 2, I_ cA 3 T), (mm 3, I_ cA 64 (pkB BA)), (mm 4, I_ cA 15 (pkG GA)), (mm 5, I_ cA 3 TA), (mm 6, I_ cA 8 mo)]) hP hD hS hA hE ⟨hx, hb, hml, hown, hts⟩ (cwV 1 hts gX5_sell_X5_isBarge rfl rfl rfl (by decide +kernel) ⟨(Nat.le_of_ble_eq_true rfl), (Nat.le_of_ble_eq_true rfl)⟩) 5 0 rfl rfl rfl rfl hl.1 rfl (Nat.le_of_ble_eq_true rfl) dX5_sell_7 ⟨(Nat.le_of_ble_eq_true rfl), (Nat.le_of_ble_eq_true rfl)⟩) (fun _ => rfl) (fun r_7 u_7 H locs hw_7 hP hD hS => ?_)
  have hP : va_P D vwCl (wMod cA h mm 0 dy co ti ro n nb B G T BA GA TA mo) H := hP
  have hD : va_D A (wMod cA h mm 0 dy co ti ro n nb B G T BA GA TA mo) := hD
  obtain rfl : r_7 = bI (isInB (nI k) 0 (nI nb - 1)) := hw_7
  refine lv_if_ne (tgt := 19) hx hb dX5_sell_10 (by decide) (fun c_10 => ?_) (fun c_10 => False.elim (by exact absurd ((bI0 c_10).symm.trans (isBed_yes hk (by omega))) (by decide)))
  refine lv_iconst (v := 5) hx hb dX5_sell_19 (by decide) ?_
  refine lv_iload_n hx hb dX5_sell_20 rfl (lv_at hl 1 rfl) ?_
  refine rn_mul (a := 5) (b := k) hx hb dX5_sell_21 ?_
  refine lv_istore_n (lv' := [(2, .int (nI (5 * k))), (0, .ref h), (1, .int (nI k))]) hx hb dX5_sell_22 rfl hl (by decide) rfl (fun ls hl => ?_)
  refine lv_aload_n hx hb dX5_sell_23 rfl (lv_at hl 1 rfl) ?_
  refine va_get (D := D) (ci := 5) (v := .ref (mm 1)) (C := RX5) (T := TX5) (N := 14) hx hb hts hwX5 hown hE.K hP 0 rfl rfl 8 (by decide) (hts (.fieldLink RX5 20 "SedgeBargesModel" "g" "[I") (List.mem_of_getElem? (i := 2) rfl)) (fun _ h9 => h9) rfl dX5_sell_24 ?_
  refine lv_iload_n hx hb dX5_sell_27 rfl (lv_at hl 0 rfl) ?_
  refine r_ald (f := pkG G) (v := G 0 k) hx hb hE hP 2 (5 * k + 0) rfl (congrArg nI (by omega)) (by omega) (by decide) (pkG_at 0 (k) (by decide)) dX5_sell_28 ?_
  refine goI ([]) (wMod cA h mm 0 dy co ti ro n nb B G T BA GA TA mo) hP hD hS hA (rnS (rest := []) (m_landingAt sa tb D cA cL l (G 0 k) ) ([]) (wMod cA h mm 0 dy co ti ro n nb B G T BA GA TA mo) hP hD hS hA hE ⟨hx, hb, hml, hown, hts⟩ (va_cwS 1 hts gX5_sell_X5_landingAt rfl rfl rfl (by decide +kernel) ⟨(Nat.le_of_ble_eq_true rfl), (Nat.le_of_ble_eq_true rfl)⟩) rfl hl.1 rfl (Nat.le_of_ble_eq_true rfl) dX5_sell_29 ⟨(Nat.le_of_ble_eq_true rfl), (Nat.le_of_ble_eq_true rfl)⟩) (fun _ => rfl) (fun r_29 u_29 H locs hw_29 hP hD hS => ?_)
  have hP : va_P D vwCl (wMod cA h mm 0 dy co ti ro n nb B G T BA GA TA mo) H := hP
  have hD : va_D A (wMod cA h mm 0 dy co ti ro n nb B G T BA GA TA mo) := hD
  obtain rfl : r_29 = landAt (G 0 k) := hw_29
  refine lv_istore_n (lv' := [(3, .int (landAt (G 0 k))), (2, .int (nI (5 * k))), (0, .ref h), (1, .int (nI k))]) hx hb dX5_sell_32 rfl hl (by decide) rfl (fun ls hl => ?_)
  refine lv_iload_n hx hb dX5_sell_33 rfl (lv_at hl 0 rfl) ?_
  refine lv_if_ge (tgt := 43) hx hb dX5_sell_34 (by decide) (fun c_34 => False.elim (by rw [hq] at c_34; exact absurd c_34 (by decide))) (fun c_34 => ?_)
  refine lv_aload_n hx hb dX5_sell_37 rfl (lv_at hl 2 rfl) ?_
  refine lv_iconst (v := 2) hx hb dX5_sell_38 (by decide) ?_
  refine goI ([]) ([(mm 0, I_ cA 64 (pkB B)), (mm 1, I_ cA 15 (pkG G)), (mm 2, I_ cA 3 T), (mm 3, I_ cA 64 (pkB BA)), (mm 4, I_ cA 15 (pkG GA)), (mm 5, I_ cA 3 TA), (mm 6, I_ cA 8 mo)]) hP hD hS hA (rnV (rest := []) (m_no sa tb D cA cL l h mm 0 dy co ti ro n nb 2 ) ([]) ([(mm 0, I_ cA 64 (pkB B)), (mm 1, I_ cA 15 (pkG G)), (mm 2, I_ cA 3 T), (mm 3, I_ cA 64 (pkB BA)), (mm 4, I_ cA 15 (pkG GA)), (mm 5, I_ cA 3 TA), (mm 6, I_ cA 8 mo)]) hP hD hS hA hE ⟨hx, hb, hml, hown, hts⟩ (cwV 1 hts gX5_sell_X5_no rfl rfl rfl (by decide +kernel) ⟨(Nat.le_of_ble_eq_true rfl), (Nat.le_of_ble_eq_true rfl)⟩) 5 0 rfl rfl rfl rfl hl.1 rfl (Nat.le_of_ble_eq_true rfl) dX5_sell_39 ⟨(Nat.le_of_ble_eq_true rfl), (Nat.le_of_ble_eq_true rfl)⟩) (fun _ => (show List.map Prod.fst _ = [h] from rfl).trans (show [h] = List.map Prod.fst _ from rfl)) (fun r_39 u_39 H locs hw_39 hP hD hS => ?_)
  have hP : va_P D vwCl (wMod cA h mm 2 dy co ti ro n nb B G T BA GA TA mo) H := hP
  have hD : va_D A (wMod cA h mm 2 dy co ti ro n nb B G T BA GA TA mo) := hD
  obtain rfl : r_39 = 0 := hw_39
  exact enI () hx hb hr hlocks hS hP (rfl) dX5_sell_42
set_option maxRecDepth 100000 in
set_option maxHeartbeats 4000000 in
theorem m_bargeTold (sa tb : Nat → Nat) (D : va_G) (cA cL : ClassId) (l : Launch) (h : Nat) (mm : Nat → Nat) (th : Int32) (dy : Int32) (co : Int32) (ti : Int32) (ro : Int32) (n : Nat) (nb : Nat) (B : Nat → Nat → Int32) (G : Nat → Nat → Int32) (T : Nat → Int32) (BA : Nat → Nat → Int32) (GA : Nat → Nat → Int32) (TA : Nat → Int32) (mo : Nat → Int32) (k : Nat) (qw : Nat) (hk : k < 3) (hw : qw < 6) : KM sa tb D cA cL l yX5_bargeTold wsX5_bargeTold ({ frames := 1, cells := 0, slots := 0, locals := 21 }) [.ref h, .int (nI k), .int (nI qw)] (wMod cA h mm th dy co ti ro n nb B G T BA GA TA mo) (qI D (fun (r : Int32) (_ : Unit) => r = tellG G k qw) (fun _ => wMod cA h mm th dy co ti ro n nb B G T BA GA TA mo)) := by
  refine KM.of (cc := cX5_bargeTold) (maxL := 4) (ret := some .int) (by decide) rfl (Nat.le_of_ble_eq_true rfl) ?_
  intro pg e s m args below meth c A hx hb hr hml hlocks hts hown hS hA hE hP hD ls hl
  have hown : s.vm.findClass RX5 = some m.cls := hown
  have hl : lv_has ls 4 [(0, .ref h), (1, .int (nI k)), (2, .int (nI qw))] := hl
  have hwX5 : ∀ w ∈ wsX50, w ∈ wsX5_bargeTold := (fun _ h => List.mem_cons_of_mem _ (List.mem_append_right _ h))
  have hw9 : qw = 0 ∨ qw = 1 ∨ qw = 2 ∨ qw = 3 ∨ qw = 4 ∨ qw = 5 := by omega
  rcases hw9 with rfl | rfl | rfl | rfl | rfl | rfl
  · have hl : lv_has ls 4 [(0, .ref h), (1, .int (nI k)), (2, .int 0)] := hl
    refine lv_iconst (v := 5) hx hb dX5_bargeTold_0 (by decide) ?_
    refine lv_iload_n hx hb dX5_bargeTold_1 rfl (lv_at hl 1 rfl) ?_
    refine rn_mul (a := 5) (b := k) hx hb dX5_bargeTold_2 ?_
    refine lv_istore_n (lv' := [(3, .int (nI (5 * k))), (0, .ref h), (1, .int (nI k)), (2, .int 0)]) hx hb dX5_bargeTold_3 rfl hl (by decide) rfl (fun ls hl => ?_)
    refine lv_iload_n hx hb dX5_bargeTold_4 rfl (lv_at hl 3 rfl) ?_
    refine lv_iconst (v := 4) hx hb dX5_bargeTold_5 (by decide) ?_
    refine lv_icmp_ge (tgt := 20) hx hb dX5_bargeTold_6 (by decide) (fun q => absurd q (by decide)) (fun _ => ?_)
    refine lv_aload_n hx hb dX5_bargeTold_9 rfl (lv_at hl 1 rfl) ?_
    refine va_get (D := D) (ci := 5) (v := .ref (mm 1)) (C := RX5) (T := TX5) (N := 14) hx hb hts hwX5 hown hE.K hP 0 rfl rfl 8 (by decide) (hts (.fieldLink RX5 20 "SedgeBargesModel" "g" "[I") (List.mem_of_getElem? (i := 1) rfl)) (fun _ h9 => h9) rfl dX5_bargeTold_10 ?_
    refine lv_iload_n hx hb dX5_bargeTold_13 rfl (lv_at hl 0 rfl) ?_
    refine lv_iload_n hx hb dX5_bargeTold_14 rfl (lv_at hl 3 rfl) ?_
    refine rn_add (a := 5 * k) (b := 0) hx hb dX5_bargeTold_15 ?_
    refine r_ald (f := pkG G) (v := G 0 k) hx hb hE hP 2 (5 * k + 0) rfl (congrArg nI (by omega)) (by omega) (by decide) (pkG_at 0 (k) (by decide)) dX5_bargeTold_16 ?_
    refine lv_goto (tgt := 45) hx hb dX5_bargeTold_17 (by decide) ?_
    exact enI () hx hb hr hlocks hS hP (rfl) dX5_bargeTold_45
  · have hl : lv_has ls 4 [(0, .ref h), (1, .int (nI k)), (2, .int 1)] := hl
    refine lv_iconst (v := 5) hx hb dX5_bargeTold_0 (by decide) ?_
    refine lv_iload_n hx hb dX5_bargeTold_1 rfl (lv_at hl 1 rfl) ?_
    refine rn_mul (a := 5) (b := k) hx hb dX5_bargeTold_2 ?_
    refine lv_istore_n (lv' := [(3, .int (nI (5 * k))), (0, .ref h), (1, .int (nI k)), (2, .int 1)]) hx hb dX5_bargeTold_3 rfl hl (by decide) rfl (fun ls hl => ?_)
    refine lv_iload_n hx hb dX5_bargeTold_4 rfl (lv_at hl 3 rfl) ?_
    refine lv_iconst (v := 4) hx hb dX5_bargeTold_5 (by decide) ?_
    refine lv_icmp_ge (tgt := 20) hx hb dX5_bargeTold_6 (by decide) (fun q => absurd q (by decide)) (fun _ => ?_)
    refine lv_aload_n hx hb dX5_bargeTold_9 rfl (lv_at hl 1 rfl) ?_
    refine va_get (D := D) (ci := 5) (v := .ref (mm 1)) (C := RX5) (T := TX5) (N := 14) hx hb hts hwX5 hown hE.K hP 0 rfl rfl 8 (by decide) (hts (.fieldLink RX5 20 "SedgeBargesModel" "g" "[I") (List.mem_of_getElem? (i := 1) rfl)) (fun _ h9 => h9) rfl dX5_bargeTold_10 ?_
    refine lv_iload_n hx hb dX5_bargeTold_13 rfl (lv_at hl 0 rfl) ?_
    refine lv_iload_n hx hb dX5_bargeTold_14 rfl (lv_at hl 3 rfl) ?_
    refine rn_add (a := 5 * k) (b := 1) hx hb dX5_bargeTold_15 ?_
    refine r_ald (f := pkG G) (v := G 1 k) hx hb hE hP 2 (5 * k + 1) rfl (congrArg nI (by omega)) (by omega) (by decide) (pkG_at 1 (k) (by decide)) dX5_bargeTold_16 ?_
    refine lv_goto (tgt := 45) hx hb dX5_bargeTold_17 (by decide) ?_
    exact enI () hx hb hr hlocks hS hP (rfl) dX5_bargeTold_45
  · have hl : lv_has ls 4 [(0, .ref h), (1, .int (nI k)), (2, .int 2)] := hl
    refine lv_iconst (v := 5) hx hb dX5_bargeTold_0 (by decide) ?_
    refine lv_iload_n hx hb dX5_bargeTold_1 rfl (lv_at hl 1 rfl) ?_
    refine rn_mul (a := 5) (b := k) hx hb dX5_bargeTold_2 ?_
    refine lv_istore_n (lv' := [(3, .int (nI (5 * k))), (0, .ref h), (1, .int (nI k)), (2, .int 2)]) hx hb dX5_bargeTold_3 rfl hl (by decide) rfl (fun ls hl => ?_)
    refine lv_iload_n hx hb dX5_bargeTold_4 rfl (lv_at hl 3 rfl) ?_
    refine lv_iconst (v := 4) hx hb dX5_bargeTold_5 (by decide) ?_
    refine lv_icmp_ge (tgt := 20) hx hb dX5_bargeTold_6 (by decide) (fun q => absurd q (by decide)) (fun _ => ?_)
    refine lv_aload_n hx hb dX5_bargeTold_9 rfl (lv_at hl 1 rfl) ?_
    refine va_get (D := D) (ci := 5) (v := .ref (mm 1)) (C := RX5) (T := TX5) (N := 14) hx hb hts hwX5 hown hE.K hP 0 rfl rfl 8 (by decide) (hts (.fieldLink RX5 20 "SedgeBargesModel" "g" "[I") (List.mem_of_getElem? (i := 1) rfl)) (fun _ h9 => h9) rfl dX5_bargeTold_10 ?_
    refine lv_iload_n hx hb dX5_bargeTold_13 rfl (lv_at hl 0 rfl) ?_
    refine lv_iload_n hx hb dX5_bargeTold_14 rfl (lv_at hl 3 rfl) ?_
    refine rn_add (a := 5 * k) (b := 2) hx hb dX5_bargeTold_15 ?_
    refine r_ald (f := pkG G) (v := G 2 k) hx hb hE hP 2 (5 * k + 2) rfl (congrArg nI (by omega)) (by omega) (by decide) (pkG_at 2 (k) (by decide)) dX5_bargeTold_16 ?_
    refine lv_goto (tgt := 45) hx hb dX5_bargeTold_17 (by decide) ?_
    exact enI () hx hb hr hlocks hS hP (rfl) dX5_bargeTold_45
  · have hl : lv_has ls 4 [(0, .ref h), (1, .int (nI k)), (2, .int 3)] := hl
    refine lv_iconst (v := 5) hx hb dX5_bargeTold_0 (by decide) ?_
    refine lv_iload_n hx hb dX5_bargeTold_1 rfl (lv_at hl 1 rfl) ?_
    refine rn_mul (a := 5) (b := k) hx hb dX5_bargeTold_2 ?_
    refine lv_istore_n (lv' := [(3, .int (nI (5 * k))), (0, .ref h), (1, .int (nI k)), (2, .int 3)]) hx hb dX5_bargeTold_3 rfl hl (by decide) rfl (fun ls hl => ?_)
    refine lv_iload_n hx hb dX5_bargeTold_4 rfl (lv_at hl 3 rfl) ?_
    refine lv_iconst (v := 4) hx hb dX5_bargeTold_5 (by decide) ?_
    refine lv_icmp_ge (tgt := 20) hx hb dX5_bargeTold_6 (by decide) (fun q => absurd q (by decide)) (fun _ => ?_)
    refine lv_aload_n hx hb dX5_bargeTold_9 rfl (lv_at hl 1 rfl) ?_
    refine va_get (D := D) (ci := 5) (v := .ref (mm 1)) (C := RX5) (T := TX5) (N := 14) hx hb hts hwX5 hown hE.K hP 0 rfl rfl 8 (by decide) (hts (.fieldLink RX5 20 "SedgeBargesModel" "g" "[I") (List.mem_of_getElem? (i := 1) rfl)) (fun _ h9 => h9) rfl dX5_bargeTold_10 ?_
    refine lv_iload_n hx hb dX5_bargeTold_13 rfl (lv_at hl 0 rfl) ?_
    refine lv_iload_n hx hb dX5_bargeTold_14 rfl (lv_at hl 3 rfl) ?_
    refine rn_add (a := 5 * k) (b := 3) hx hb dX5_bargeTold_15 ?_
    refine r_ald (f := pkG G) (v := G 3 k) hx hb hE hP 2 (5 * k + 3) rfl (congrArg nI (by omega)) (by omega) (by decide) (pkG_at 3 (k) (by decide)) dX5_bargeTold_16 ?_
    refine lv_goto (tgt := 45) hx hb dX5_bargeTold_17 (by decide) ?_
    exact enI () hx hb hr hlocks hS hP (rfl) dX5_bargeTold_45
  · have hl : lv_has ls 4 [(0, .ref h), (1, .int (nI k)), (2, .int 4)] := hl
    refine lv_iconst (v := 5) hx hb dX5_bargeTold_0 (by decide) ?_
    refine lv_iload_n hx hb dX5_bargeTold_1 rfl (lv_at hl 1 rfl) ?_
    refine rn_mul (a := 5) (b := k) hx hb dX5_bargeTold_2 ?_
    refine lv_istore_n (lv' := [(3, .int (nI (5 * k))), (0, .ref h), (1, .int (nI k)), (2, .int 4)]) hx hb dX5_bargeTold_3 rfl hl (by decide) rfl (fun ls hl => ?_)
    refine lv_iload_n hx hb dX5_bargeTold_4 rfl (lv_at hl 3 rfl) ?_
    refine lv_iconst (v := 4) hx hb dX5_bargeTold_5 (by decide) ?_
    refine lv_icmp_ge (tgt := 20) hx hb dX5_bargeTold_6 (by decide) (fun _ => ?_) (fun q => absurd (by decide) q)
    refine lv_iload_n hx hb dX5_bargeTold_20 rfl (lv_at hl 3 rfl) ?_
    refine lv_iconst (v := 4) hx hb dX5_bargeTold_21 (by decide) ?_
    refine lv_icmp_ne (tgt := 37) hx hb dX5_bargeTold_22 (by decide) (fun q => absurd q (by decide)) (fun _ => ?_)
    refine lv_aload_n hx hb dX5_bargeTold_25 rfl (lv_at hl 1 rfl) ?_
    refine va_get (D := D) (ci := 5) (v := .ref (mm 1)) (C := RX5) (T := TX5) (N := 14) hx hb hts hwX5 hown hE.K hP 0 rfl rfl 8 (by decide) (hts (.fieldLink RX5 20 "SedgeBargesModel" "g" "[I") (List.mem_of_getElem? (i := 1) rfl)) (fun _ h9 => h9) rfl dX5_bargeTold_26 ?_
    refine lv_iload_n hx hb dX5_bargeTold_29 rfl (lv_at hl 0 rfl) ?_
    refine r_ald (f := pkG G) (v := G 0 k) hx hb hE hP 2 (5 * k + 0) rfl (congrArg nI (by omega)) (by omega) (by decide) (pkG_at 0 (k) (by decide)) dX5_bargeTold_30 ?_
    refine goI ([]) (wMod cA h mm th dy co ti ro n nb B G T BA GA TA mo) hP hD hS hA (rnS (rest := []) (m_landingAt sa tb D cA cL l (G 0 k) ) ([]) (wMod cA h mm th dy co ti ro n nb B G T BA GA TA mo) hP hD hS hA hE ⟨hx, hb, hml, hown, hts⟩ (va_cwS 1 hts gX5_bargeTold_X5_landingAt rfl rfl rfl (by decide +kernel) ⟨(Nat.le_of_ble_eq_true rfl), (Nat.le_of_ble_eq_true rfl)⟩) rfl hl.1 rfl (Nat.le_of_ble_eq_true rfl) dX5_bargeTold_31 ⟨(Nat.le_of_ble_eq_true rfl), (Nat.le_of_ble_eq_true rfl)⟩) (fun _ => rfl) (fun r_31 u_31 H locs hw_31 hP hD hS => ?_)
    have hP : va_P D vwCl (wMod cA h mm th dy co ti ro n nb B G T BA GA TA mo) H := hP
    have hD : va_D A (wMod cA h mm th dy co ti ro n nb B G T BA GA TA mo) := hD
    obtain rfl : r_31 = landAt (G 0 k) := hw_31
    refine lv_goto (tgt := 45) hx hb dX5_bargeTold_34 (by decide) ?_
    exact enI () hx hb hr hlocks hS hP (rfl) dX5_bargeTold_45
  · have hl : lv_has ls 4 [(0, .ref h), (1, .int (nI k)), (2, .int 5)] := hl
    refine lv_iconst (v := 5) hx hb dX5_bargeTold_0 (by decide) ?_
    refine lv_iload_n hx hb dX5_bargeTold_1 rfl (lv_at hl 1 rfl) ?_
    refine rn_mul (a := 5) (b := k) hx hb dX5_bargeTold_2 ?_
    refine lv_istore_n (lv' := [(3, .int (nI (5 * k))), (0, .ref h), (1, .int (nI k)), (2, .int 5)]) hx hb dX5_bargeTold_3 rfl hl (by decide) rfl (fun ls hl => ?_)
    refine lv_iload_n hx hb dX5_bargeTold_4 rfl (lv_at hl 3 rfl) ?_
    refine lv_iconst (v := 4) hx hb dX5_bargeTold_5 (by decide) ?_
    refine lv_icmp_ge (tgt := 20) hx hb dX5_bargeTold_6 (by decide) (fun _ => ?_) (fun q => absurd (by decide) q)
    refine lv_iload_n hx hb dX5_bargeTold_20 rfl (lv_at hl 3 rfl) ?_
    refine lv_iconst (v := 4) hx hb dX5_bargeTold_21 (by decide) ?_
    refine lv_icmp_ne (tgt := 37) hx hb dX5_bargeTold_22 (by decide) (fun _ => ?_) (fun q => absurd q (by decide))
    refine lv_aload_n hx hb dX5_bargeTold_37 rfl (lv_at hl 1 rfl) ?_
    refine va_get (D := D) (ci := 5) (v := .ref (mm 1)) (C := RX5) (T := TX5) (N := 14) hx hb hts hwX5 hown hE.K hP 0 rfl rfl 8 (by decide) (hts (.fieldLink RX5 20 "SedgeBargesModel" "g" "[I") (List.mem_of_getElem? (i := 1) rfl)) (fun _ h9 => h9) rfl dX5_bargeTold_38 ?_
    refine lv_iload_n hx hb dX5_bargeTold_41 rfl (lv_at hl 0 rfl) ?_
    refine lv_iconst (v := 4) hx hb dX5_bargeTold_42 (by decide) ?_
    refine rn_add (a := 5 * k) (b := 4) hx hb dX5_bargeTold_43 ?_
    refine r_ald (f := pkG G) (v := G 4 k) hx hb hE hP 2 (5 * k + 4) rfl (congrArg nI (by omega)) (by omega) (by decide) (pkG_at 4 (k) (by decide)) dX5_bargeTold_44 ?_
    exact enI () hx hb hr hlocks hS hP (rfl) dX5_bargeTold_45
set_option maxRecDepth 100000 in
set_option maxHeartbeats 4000000 in
theorem m_told (sa tb : Nat → Nat) (D : va_G) (cA cL : ClassId) (l : Launch) (h : Nat) (mm : Nat → Nat) (th : Int32) (dy : Int32) (co : Int32) (ti : Int32) (ro : Int32) (n : Nat) (nb : Nat) (B : Nat → Nat → Int32) (G : Nat → Nat → Int32) (T : Nat → Int32) (BA : Nat → Nat → Int32) (GA : Nat → Nat → Int32) (TA : Nat → Int32) (mo : Nat → Int32) (k : Nat) (qw : Nat) (hk : k < nb) (hnb : nb ≤ 3) (hw : qw < 6) : KM sa tb D cA cL l yX5_told wsX5_told ({ frames := 2, cells := 0, slots := 0, locals := 44 }) [.ref h, .int (nI k), .int (nI qw)] (wMod cA h mm th dy co ti ro n nb B G T BA GA TA mo) (qI D (fun (r : Int32) (_ : Unit) => r = tellG G k qw) (fun _ => wMod cA h mm 0 dy co ti ro n nb B G T BA GA TA mo)) := by
  refine KM.of (cc := cX5_told) (maxL := 3) (ret := some .int) (by decide) rfl (Nat.le_of_ble_eq_true rfl) ?_
  intro pg e s m args below meth c A hx hb hr hml hlocks hts hown hS hA hE hP hD ls hl
  have hown : s.vm.findClass RX5 = some m.cls := hown
  have hl : lv_has ls 3 [(0, .ref h), (1, .int (nI k)), (2, .int (nI qw))] := hl
  have hwX5 : ∀ w ∈ wsX50, w ∈ wsX5_told := (fun _ h => List.mem_cons_of_mem _ (List.mem_append_right _ h))
  refine lv_aload_n hx hb dX5_told_0 rfl (lv_at hl 0 rfl) ?_
  refine lv_iconst (v := 0) hx hb dX5_told_1 (by decide) ?_
  refine va_put (D := D) (ci := 5) (v := .int 0) (ty := .int) (C := RX5) (T := TX5) (N := 14) hx hb hts hwX5 tyX5 tyX5_ok nmX5 hown hE.K hP hD hS 0 rfl rfl 0 (by decide) (hts (.fieldLink RX5 38 "SedgeBargesModel" "thrown" "I") (List.mem_of_getElem? (i := 1) rfl)) (fun _ h9 => h9) rfl (by decide +kernel) rfl rfl (Nat.le_of_ble_eq_true rfl) dX5_told_2 (fun H locs hP hD hS => ?_)
  have hP : va_P D vwCl (wMod cA h mm 0 dy co ti ro n nb B G T BA GA TA mo) H := hP
  have hD : va_D A (wMod cA h mm 0 dy co ti ro n nb B G T BA GA TA mo) := hD
  refine lv_aload_n hx hb dX5_told_5 rfl (lv_at hl 0 rfl) ?_
  refine lv_iload_n hx hb dX5_told_6 rfl (lv_at hl 1 rfl) ?_
  refine goI ([]) ([(mm 0, I_ cA 64 (pkB B)), (mm 1, I_ cA 15 (pkG G)), (mm 2, I_ cA 3 T), (mm 3, I_ cA 64 (pkB BA)), (mm 4, I_ cA 15 (pkG GA)), (mm 5, I_ cA 3 TA), (mm 6, I_ cA 8 mo)]) hP hD hS hA (rnV (rest := []) (m_isBarge sa tb D cA cL l h mm 0 dy co ti ro n nb (nI k) ) ([]) ([(mm 0, I_ cA 64 (pkB B)), (mm 1, I_ cA 15 (pkG G)), (mm 2, I_ cA 3 T), (mm 3, I_ cA 64 (pkB BA)), (mm 4, I_ cA 15 (pkG GA)), (mm 5, I_ cA 3 TA), (mm 6, I_ cA 8 mo)]) hP hD hS hA hE ⟨hx, hb, hml, hown, hts⟩ (cwV 1 hts gX5_told_X5_isBarge rfl rfl rfl (by decide +kernel) ⟨(Nat.le_of_ble_eq_true rfl), (Nat.le_of_ble_eq_true rfl)⟩) 5 0 rfl rfl rfl rfl hl.1 rfl (Nat.le_of_ble_eq_true rfl) dX5_told_7 ⟨(Nat.le_of_ble_eq_true rfl), (Nat.le_of_ble_eq_true rfl)⟩) (fun _ => rfl) (fun r_7 u_7 H locs hw_7 hP hD hS => ?_)
  have hP : va_P D vwCl (wMod cA h mm 0 dy co ti ro n nb B G T BA GA TA mo) H := hP
  have hD : va_D A (wMod cA h mm 0 dy co ti ro n nb B G T BA GA TA mo) := hD
  obtain rfl : r_7 = bI (isInB (nI k) 0 (nI nb - 1)) := hw_7
  refine lv_if_eq (tgt := 31) hx hb dX5_told_10 (by decide) (fun c_10 => False.elim (by exact absurd ((bI0 c_10).symm.trans (isBed_yes hk (by omega))) (by decide))) (fun c_10 => ?_)
  refine lv_iload_n hx hb dX5_told_13 rfl (lv_at hl 2 rfl) ?_
  refine lv_iconst (v := 0) hx hb dX5_told_14 (by decide) ?_
  refine lv_iconst (v := 5) hx hb dX5_told_15 (by decide) ?_
  refine goI ([]) (wMod cA h mm 0 dy co ti ro n nb B G T BA GA TA mo) hP hD hS hA (rnS (rest := []) (m_isIn sa tb D cA cL l (nI qw) 0 5 ) ([]) (wMod cA h mm 0 dy co ti ro n nb B G T BA GA TA mo) hP hD hS hA hE ⟨hx, hb, hml, hown, hts⟩ (va_cwS 3 hts gX5_told_X5_isIn rfl rfl rfl (by decide +kernel) ⟨(Nat.le_of_ble_eq_true rfl), (Nat.le_of_ble_eq_true rfl)⟩) rfl hl.1 rfl (Nat.le_of_ble_eq_true rfl) dX5_told_16 ⟨(Nat.le_of_ble_eq_true rfl), (Nat.le_of_ble_eq_true rfl)⟩) (fun _ => rfl) (fun r_16 u_16 H locs hw_16 hP hD hS => ?_)
  have hP : va_P D vwCl (wMod cA h mm 0 dy co ti ro n nb B G T BA GA TA mo) H := hP
  have hD : va_D A (wMod cA h mm 0 dy co ti ro n nb B G T BA GA TA mo) := hD
  obtain rfl : r_16 = bI (isInB (nI qw) 0 5) := hw_16
  refine lv_if_eq (tgt := 31) hx hb dX5_told_19 (by decide) (fun c_19 => False.elim (by exact absurd ((bI0 c_19).symm.trans (isIn_N (q := qw) (m := 5) (by omega) (by decide))) (by decide))) (fun c_19 => ?_)
  refine lv_aload_n hx hb dX5_told_22 rfl (lv_at hl 0 rfl) ?_
  refine lv_iload_n hx hb dX5_told_23 rfl (lv_at hl 1 rfl) ?_
  refine lv_iload_n hx hb dX5_told_24 rfl (lv_at hl 2 rfl) ?_
  refine goI ([]) ([]) hP hD hS hA (rnV (rest := []) (m_bargeTold sa tb D cA cL l h mm 0 dy co ti ro n nb B G T BA GA TA mo k qw (show k < 3 from by first | omega | assumption | decide) (show qw < 6 from by first | omega | assumption | decide)) ([]) ([]) hP hD hS hA hE ⟨hx, hb, hml, hown, hts⟩ (cwV 2 hts gX5_told_X5_bargeTold rfl rfl rfl (by decide +kernel) ⟨(Nat.le_of_ble_eq_true rfl), (Nat.le_of_ble_eq_true rfl)⟩) 5 0 rfl rfl rfl rfl hl.1 rfl (Nat.le_of_ble_eq_true rfl) dX5_told_25 ⟨(Nat.le_of_ble_eq_true rfl), (Nat.le_of_ble_eq_true rfl)⟩) (fun _ => rfl) (fun r_25 u_25 H locs hw_25 hP hD hS => ?_)
  have hP : va_P D vwCl (wMod cA h mm 0 dy co ti ro n nb B G T BA GA TA mo) H := hP
  have hD : va_D A (wMod cA h mm 0 dy co ti ro n nb B G T BA GA TA mo) := hD
  obtain rfl : r_25 = tellG G k qw := hw_25
  refine lv_goto (tgt := 36) hx hb dX5_told_28 (by decide) ?_
  exact enI () hx hb hr hlocks hS hP (rfl) dX5_told_36
set_option maxRecDepth 100000 in
set_option maxHeartbeats 4000000 in
theorem m_told_1 (sa tb : Nat → Nat) (D : va_G) (cA cL : ClassId) (l : Launch) (h : Nat) (mm : Nat → Nat) (th : Int32) (dy : Int32) (co : Int32) (ti : Int32) (ro : Int32) (n : Nat) (nb : Nat) (B : Nat → Nat → Int32) (G : Nat → Nat → Int32) (T : Nat → Int32) (BA : Nat → Nat → Int32) (GA : Nat → Nat → Int32) (TA : Nat → Int32) (mo : Nat → Int32) (x : Int32) (y : Int32) (hb0 : x < 0 ∨ ¬ x < nI nb) (hnb : nb ≤ 3) : KM sa tb D cA cL l yX5_told wsX5_told ({ frames := 2, cells := 0, slots := 0, locals := 43 }) [.ref h, .int x, .int y] (wMod cA h mm th dy co ti ro n nb B G T BA GA TA mo) (qI D (fun (r : Int32) (_ : Unit) => r = 0) (fun _ => wMod cA h mm 1 dy co ti ro n nb B G T BA GA TA mo)) := by
  refine KM.of (cc := cX5_told) (maxL := 3) (ret := some .int) (by decide) rfl (Nat.le_of_ble_eq_true rfl) ?_
  intro pg e s m args below meth c A hx hb hr hml hlocks hts hown hS hA hE hP hD ls hl
  have hown : s.vm.findClass RX5 = some m.cls := hown
  have hl : lv_has ls 3 [(0, .ref h), (1, .int x), (2, .int y)] := hl
  have hwX5 : ∀ w ∈ wsX50, w ∈ wsX5_told := (fun _ h => List.mem_cons_of_mem _ (List.mem_append_right _ h))
  refine lv_aload_n hx hb dX5_told_0 rfl (lv_at hl 0 rfl) ?_
  refine lv_iconst (v := 0) hx hb dX5_told_1 (by decide) ?_
  refine va_put (D := D) (ci := 5) (v := .int 0) (ty := .int) (C := RX5) (T := TX5) (N := 14) hx hb hts hwX5 tyX5 tyX5_ok nmX5 hown hE.K hP hD hS 0 rfl rfl 0 (by decide) (hts (.fieldLink RX5 38 "SedgeBargesModel" "thrown" "I") (List.mem_of_getElem? (i := 1) rfl)) (fun _ h9 => h9) rfl (by decide +kernel) rfl rfl (Nat.le_of_ble_eq_true rfl) dX5_told_2 (fun H locs hP hD hS => ?_)
  have hP : va_P D vwCl (wMod cA h mm 0 dy co ti ro n nb B G T BA GA TA mo) H := hP
  have hD : va_D A (wMod cA h mm 0 dy co ti ro n nb B G T BA GA TA mo) := hD
  refine lv_aload_n hx hb dX5_told_5 rfl (lv_at hl 0 rfl) ?_
  refine lv_iload_n hx hb dX5_told_6 rfl (lv_at hl 1 rfl) ?_
  refine goI ([]) ([(mm 0, I_ cA 64 (pkB B)), (mm 1, I_ cA 15 (pkG G)), (mm 2, I_ cA 3 T), (mm 3, I_ cA 64 (pkB BA)), (mm 4, I_ cA 15 (pkG GA)), (mm 5, I_ cA 3 TA), (mm 6, I_ cA 8 mo)]) hP hD hS hA (rnV (rest := []) (m_isBarge sa tb D cA cL l h mm 0 dy co ti ro n nb x ) ([]) ([(mm 0, I_ cA 64 (pkB B)), (mm 1, I_ cA 15 (pkG G)), (mm 2, I_ cA 3 T), (mm 3, I_ cA 64 (pkB BA)), (mm 4, I_ cA 15 (pkG GA)), (mm 5, I_ cA 3 TA), (mm 6, I_ cA 8 mo)]) hP hD hS hA hE ⟨hx, hb, hml, hown, hts⟩ (cwV 1 hts gX5_told_X5_isBarge rfl rfl rfl (by decide +kernel) ⟨(Nat.le_of_ble_eq_true rfl), (Nat.le_of_ble_eq_true rfl)⟩) 5 0 rfl rfl rfl rfl hl.1 rfl (Nat.le_of_ble_eq_true rfl) dX5_told_7 ⟨(Nat.le_of_ble_eq_true rfl), (Nat.le_of_ble_eq_true rfl)⟩) (fun _ => rfl) (fun r_7 u_7 H locs hw_7 hP hD hS => ?_)
  have hP : va_P D vwCl (wMod cA h mm 0 dy co ti ro n nb B G T BA GA TA mo) H := hP
  have hD : va_D A (wMod cA h mm 0 dy co ti ro n nb B G T BA GA TA mo) := hD
  obtain rfl : r_7 = bI (isInB x 0 (nI nb - 1)) := hw_7
  refine lv_if_eq (tgt := 31) hx hb dX5_told_10 (by decide) (fun c_10 => ?_) (fun c_10 => False.elim (by exact c_10 (congrArg bI (isBed_no hb0 (by omega)))))
  refine lv_aload_n hx hb dX5_told_31 rfl (lv_at hl 0 rfl) ?_
  refine lv_iconst (v := 1) hx hb dX5_told_32 (by decide) ?_
  refine goI ([]) ([(mm 0, I_ cA 64 (pkB B)), (mm 1, I_ cA 15 (pkG G)), (mm 2, I_ cA 3 T), (mm 3, I_ cA 64 (pkB BA)), (mm 4, I_ cA 15 (pkG GA)), (mm 5, I_ cA 3 TA), (mm 6, I_ cA 8 mo)]) hP hD hS hA (rnV (rest := []) (m_no sa tb D cA cL l h mm 0 dy co ti ro n nb 1 ) ([]) ([(mm 0, I_ cA 64 (pkB B)), (mm 1, I_ cA 15 (pkG G)), (mm 2, I_ cA 3 T), (mm 3, I_ cA 64 (pkB BA)), (mm 4, I_ cA 15 (pkG GA)), (mm 5, I_ cA 3 TA), (mm 6, I_ cA 8 mo)]) hP hD hS hA hE ⟨hx, hb, hml, hown, hts⟩ (cwV 1 hts gX5_told_X5_no rfl rfl rfl (by decide +kernel) ⟨(Nat.le_of_ble_eq_true rfl), (Nat.le_of_ble_eq_true rfl)⟩) 5 0 rfl rfl rfl rfl hl.1 rfl (Nat.le_of_ble_eq_true rfl) dX5_told_33 ⟨(Nat.le_of_ble_eq_true rfl), (Nat.le_of_ble_eq_true rfl)⟩) (fun _ => (show List.map Prod.fst _ = [h] from rfl).trans (show [h] = List.map Prod.fst _ from rfl)) (fun r_33 u_33 H locs hw_33 hP hD hS => ?_)
  have hP : va_P D vwCl (wMod cA h mm 1 dy co ti ro n nb B G T BA GA TA mo) H := hP
  have hD : va_D A (wMod cA h mm 1 dy co ti ro n nb B G T BA GA TA mo) := hD
  obtain rfl : r_33 = 0 := hw_33
  exact enI () hx hb hr hlocks hS hP (rfl) dX5_told_36
set_option maxRecDepth 100000 in
set_option maxHeartbeats 4000000 in
theorem m_told_2 (sa tb : Nat → Nat) (D : va_G) (cA cL : ClassId) (l : Launch) (h : Nat) (mm : Nat → Nat) (th : Int32) (dy : Int32) (co : Int32) (ti : Int32) (ro : Int32) (n : Nat) (nb : Nat) (B : Nat → Nat → Int32) (G : Nat → Nat → Int32) (T : Nat → Int32) (BA : Nat → Nat → Int32) (GA : Nat → Nat → Int32) (TA : Nat → Int32) (mo : Nat → Int32) (k : Nat) (y : Int32) (hk : k < nb) (hnb : nb ≤ 3) (hb1 : y < 0 ∨ ¬ y < 6) : KM sa tb D cA cL l yX5_told wsX5_told ({ frames := 2, cells := 0, slots := 0, locals := 43 }) [.ref h, .int (nI k), .int y] (wMod cA h mm th dy co ti ro n nb B G T BA GA TA mo) (qI D (fun (r : Int32) (_ : Unit) => r = 0) (fun _ => wMod cA h mm 1 dy co ti ro n nb B G T BA GA TA mo)) := by
  refine KM.of (cc := cX5_told) (maxL := 3) (ret := some .int) (by decide) rfl (Nat.le_of_ble_eq_true rfl) ?_
  intro pg e s m args below meth c A hx hb hr hml hlocks hts hown hS hA hE hP hD ls hl
  have hown : s.vm.findClass RX5 = some m.cls := hown
  have hl : lv_has ls 3 [(0, .ref h), (1, .int (nI k)), (2, .int y)] := hl
  have hwX5 : ∀ w ∈ wsX50, w ∈ wsX5_told := (fun _ h => List.mem_cons_of_mem _ (List.mem_append_right _ h))
  refine lv_aload_n hx hb dX5_told_0 rfl (lv_at hl 0 rfl) ?_
  refine lv_iconst (v := 0) hx hb dX5_told_1 (by decide) ?_
  refine va_put (D := D) (ci := 5) (v := .int 0) (ty := .int) (C := RX5) (T := TX5) (N := 14) hx hb hts hwX5 tyX5 tyX5_ok nmX5 hown hE.K hP hD hS 0 rfl rfl 0 (by decide) (hts (.fieldLink RX5 38 "SedgeBargesModel" "thrown" "I") (List.mem_of_getElem? (i := 1) rfl)) (fun _ h9 => h9) rfl (by decide +kernel) rfl rfl (Nat.le_of_ble_eq_true rfl) dX5_told_2 (fun H locs hP hD hS => ?_)
  have hP : va_P D vwCl (wMod cA h mm 0 dy co ti ro n nb B G T BA GA TA mo) H := hP
  have hD : va_D A (wMod cA h mm 0 dy co ti ro n nb B G T BA GA TA mo) := hD
  refine lv_aload_n hx hb dX5_told_5 rfl (lv_at hl 0 rfl) ?_
  refine lv_iload_n hx hb dX5_told_6 rfl (lv_at hl 1 rfl) ?_
  refine goI ([]) ([(mm 0, I_ cA 64 (pkB B)), (mm 1, I_ cA 15 (pkG G)), (mm 2, I_ cA 3 T), (mm 3, I_ cA 64 (pkB BA)), (mm 4, I_ cA 15 (pkG GA)), (mm 5, I_ cA 3 TA), (mm 6, I_ cA 8 mo)]) hP hD hS hA (rnV (rest := []) (m_isBarge sa tb D cA cL l h mm 0 dy co ti ro n nb (nI k) ) ([]) ([(mm 0, I_ cA 64 (pkB B)), (mm 1, I_ cA 15 (pkG G)), (mm 2, I_ cA 3 T), (mm 3, I_ cA 64 (pkB BA)), (mm 4, I_ cA 15 (pkG GA)), (mm 5, I_ cA 3 TA), (mm 6, I_ cA 8 mo)]) hP hD hS hA hE ⟨hx, hb, hml, hown, hts⟩ (cwV 1 hts gX5_told_X5_isBarge rfl rfl rfl (by decide +kernel) ⟨(Nat.le_of_ble_eq_true rfl), (Nat.le_of_ble_eq_true rfl)⟩) 5 0 rfl rfl rfl rfl hl.1 rfl (Nat.le_of_ble_eq_true rfl) dX5_told_7 ⟨(Nat.le_of_ble_eq_true rfl), (Nat.le_of_ble_eq_true rfl)⟩) (fun _ => rfl) (fun r_7 u_7 H locs hw_7 hP hD hS => ?_)
  have hP : va_P D vwCl (wMod cA h mm 0 dy co ti ro n nb B G T BA GA TA mo) H := hP
  have hD : va_D A (wMod cA h mm 0 dy co ti ro n nb B G T BA GA TA mo) := hD
  obtain rfl : r_7 = bI (isInB (nI k) 0 (nI nb - 1)) := hw_7
  refine lv_if_eq (tgt := 31) hx hb dX5_told_10 (by decide) (fun c_10 => False.elim (by exact absurd ((bI0 c_10).symm.trans (isBed_yes hk (by omega))) (by decide))) (fun c_10 => ?_)
  refine lv_iload_n hx hb dX5_told_13 rfl (lv_at hl 2 rfl) ?_
  refine lv_iconst (v := 0) hx hb dX5_told_14 (by decide) ?_
  refine lv_iconst (v := 5) hx hb dX5_told_15 (by decide) ?_
  refine goI ([]) (wMod cA h mm 0 dy co ti ro n nb B G T BA GA TA mo) hP hD hS hA (rnS (rest := []) (m_isIn sa tb D cA cL l y 0 5 ) ([]) (wMod cA h mm 0 dy co ti ro n nb B G T BA GA TA mo) hP hD hS hA hE ⟨hx, hb, hml, hown, hts⟩ (va_cwS 3 hts gX5_told_X5_isIn rfl rfl rfl (by decide +kernel) ⟨(Nat.le_of_ble_eq_true rfl), (Nat.le_of_ble_eq_true rfl)⟩) rfl hl.1 rfl (Nat.le_of_ble_eq_true rfl) dX5_told_16 ⟨(Nat.le_of_ble_eq_true rfl), (Nat.le_of_ble_eq_true rfl)⟩) (fun _ => rfl) (fun r_16 u_16 H locs hw_16 hP hD hS => ?_)
  have hP : va_P D vwCl (wMod cA h mm 0 dy co ti ro n nb B G T BA GA TA mo) H := hP
  have hD : va_D A (wMod cA h mm 0 dy co ti ro n nb B G T BA GA TA mo) := hD
  obtain rfl : r_16 = bI (isInB y 0 5) := hw_16
  refine lv_if_eq (tgt := 31) hx hb dX5_told_19 (by decide) (fun c_19 => ?_) (fun c_19 => False.elim (by exact c_19 (congrArg bI (isIn_no (lt_le (by decide) hb1)))))
  refine lv_aload_n hx hb dX5_told_31 rfl (lv_at hl 0 rfl) ?_
  refine lv_iconst (v := 1) hx hb dX5_told_32 (by decide) ?_
  refine goI ([]) ([(mm 0, I_ cA 64 (pkB B)), (mm 1, I_ cA 15 (pkG G)), (mm 2, I_ cA 3 T), (mm 3, I_ cA 64 (pkB BA)), (mm 4, I_ cA 15 (pkG GA)), (mm 5, I_ cA 3 TA), (mm 6, I_ cA 8 mo)]) hP hD hS hA (rnV (rest := []) (m_no sa tb D cA cL l h mm 0 dy co ti ro n nb 1 ) ([]) ([(mm 0, I_ cA 64 (pkB B)), (mm 1, I_ cA 15 (pkG G)), (mm 2, I_ cA 3 T), (mm 3, I_ cA 64 (pkB BA)), (mm 4, I_ cA 15 (pkG GA)), (mm 5, I_ cA 3 TA), (mm 6, I_ cA 8 mo)]) hP hD hS hA hE ⟨hx, hb, hml, hown, hts⟩ (cwV 1 hts gX5_told_X5_no rfl rfl rfl (by decide +kernel) ⟨(Nat.le_of_ble_eq_true rfl), (Nat.le_of_ble_eq_true rfl)⟩) 5 0 rfl rfl rfl rfl hl.1 rfl (Nat.le_of_ble_eq_true rfl) dX5_told_33 ⟨(Nat.le_of_ble_eq_true rfl), (Nat.le_of_ble_eq_true rfl)⟩) (fun _ => (show List.map Prod.fst _ = [h] from rfl).trans (show [h] = List.map Prod.fst _ from rfl)) (fun r_33 u_33 H locs hw_33 hP hD hS => ?_)
  have hP : va_P D vwCl (wMod cA h mm 1 dy co ti ro n nb B G T BA GA TA mo) H := hP
  have hD : va_D A (wMod cA h mm 1 dy co ti ro n nb B G T BA GA TA mo) := hD
  obtain rfl : r_33 = 0 := hw_33
  exact enI () hx hb hr hlocks hS hP (rfl) dX5_told_36
set_option maxRecDepth 100000 in
set_option maxHeartbeats 4000000 in
theorem m_landingTold (sa tb : Nat → Nat) (D : va_G) (cA cL : ClassId) (l : Launch) (h : Nat) (mm : Nat → Nat) (th : Int32) (dy : Int32) (co : Int32) (ti : Int32) (ro : Int32) (n : Nat) (nb : Nat) (B : Nat → Nat → Int32) (G : Nat → Nat → Int32) (T : Nat → Int32) (BA : Nat → Nat → Int32) (GA : Nat → Nat → Int32) (TA : Nat → Int32) (mo : Nat → Int32) (k : Nat) (qw : Nat) (hk : k < 3) (hw : qw < 4) : KM sa tb D cA cL l yX5_landingTold wsX5_landingTold ({ frames := 3, cells := 0, slots := 0, locals := 66 }) [.ref h, .int (nI k), .int (nI qw)] (wMod cA h mm th dy co ti ro n nb B G T BA GA TA mo) (qI D (fun (r : Int32) (_ : Unit) => r = tellL T k qw) (fun _ => wMod cA h mm th dy co ti ro n nb B G T BA GA TA mo)) := by
  refine KM.of (cc := cX5_landingTold) (maxL := 3) (ret := some .int) (by decide) rfl (Nat.le_of_ble_eq_true rfl) ?_
  intro pg e s m args below meth c A hx hb hr hml hlocks hts hown hS hA hE hP hD ls hl
  have hown : s.vm.findClass RX5 = some m.cls := hown
  have hl : lv_has ls 3 [(0, .ref h), (1, .int (nI k)), (2, .int (nI qw))] := hl
  have hwX5 : ∀ w ∈ wsX50, w ∈ wsX5_landingTold := (fun _ h => List.mem_cons_of_mem _ (List.mem_append_right _ h))
  have hw9 : qw = 0 ∨ qw = 1 ∨ qw = 2 ∨ qw = 3 := by omega
  rcases hw9 with rfl | rfl | rfl | rfl
  · have hl : lv_has ls 3 [(0, .ref h), (1, .int (nI k)), (2, .int 0)] := hl
    refine lv_iload_n hx hb dX5_landingTold_0 rfl (lv_at hl 2 rfl) ?_
    refine lv_if_ne (tgt := 12) hx hb dX5_landingTold_1 (by decide) (fun q => absurd q (by decide)) (fun _ => ?_)
    refine va_gets hx hb (hE.2.2.2.2.2.2.2.1.2.2.2.2.1).1 hS hown (hts (.fieldLink RX5 104 "SedgeBargesModel" "LANDING" "[I") (List.mem_of_getElem? (i := 1) rfl)) (fun _ h9 => h9) dX5_landingTold_4 ?_
    refine lv_iload_n hx hb dX5_landingTold_7 rfl (lv_at hl 1 rfl) ?_
    refine r_tld hx hb (hE.2.2.2.2.2.2.2.1.2.2.2.2.1) hS (k) rfl (by omega) (by decide) rfl dX5_landingTold_8 ?_
    refine lv_goto (tgt := 54) hx hb dX5_landingTold_9 (by decide) ?_
    exact enI () hx hb hr hlocks hS hP (rfl) dX5_landingTold_54
  · have hl : lv_has ls 3 [(0, .ref h), (1, .int (nI k)), (2, .int 1)] := hl
    refine lv_iload_n hx hb dX5_landingTold_0 rfl (lv_at hl 2 rfl) ?_
    refine lv_if_ne (tgt := 12) hx hb dX5_landingTold_1 (by decide) (fun _ => ?_) (fun q => absurd q (by decide))
    refine lv_iload_n hx hb dX5_landingTold_12 rfl (lv_at hl 2 rfl) ?_
    refine lv_iconst (v := 1) hx hb dX5_landingTold_13 (by decide) ?_
    refine lv_icmp_ne (tgt := 26) hx hb dX5_landingTold_14 (by decide) (fun q => absurd q (by decide)) (fun _ => ?_)
    refine lv_aload_n hx hb dX5_landingTold_17 rfl (lv_at hl 0 rfl) ?_
    refine va_get (D := D) (ci := 5) (v := .ref (mm 2)) (C := RX5) (T := TX5) (N := 14) hx hb hts hwX5 hown hE.K hP 0 rfl rfl 9 (by decide) (hts (.fieldLink RX5 23 "SedgeBargesModel" "store" "[I") (List.mem_of_getElem? (i := 2) rfl)) (fun _ h9 => h9) rfl dX5_landingTold_18 ?_
    refine lv_iload_n hx hb dX5_landingTold_21 rfl (lv_at hl 1 rfl) ?_
    refine r_ald (f := T) (v := T k) hx hb hE hP 3 (k) rfl rfl (by omega) (by decide) rfl dX5_landingTold_22 ?_
    refine lv_goto (tgt := 54) hx hb dX5_landingTold_23 (by decide) ?_
    exact enI () hx hb hr hlocks hS hP (rfl) dX5_landingTold_54
  · have hl : lv_has ls 3 [(0, .ref h), (1, .int (nI k)), (2, .int 2)] := hl
    refine lv_iload_n hx hb dX5_landingTold_0 rfl (lv_at hl 2 rfl) ?_
    refine lv_if_ne (tgt := 12) hx hb dX5_landingTold_1 (by decide) (fun _ => ?_) (fun q => absurd q (by decide))
    refine lv_iload_n hx hb dX5_landingTold_12 rfl (lv_at hl 2 rfl) ?_
    refine lv_iconst (v := 1) hx hb dX5_landingTold_13 (by decide) ?_
    refine lv_icmp_ne (tgt := 26) hx hb dX5_landingTold_14 (by decide) (fun _ => ?_) (fun q => absurd q (by decide))
    refine lv_iload_n hx hb dX5_landingTold_26 rfl (lv_at hl 2 rfl) ?_
    refine lv_iconst (v := 2) hx hb dX5_landingTold_27 (by decide) ?_
    refine lv_icmp_ne (tgt := 44) hx hb dX5_landingTold_28 (by decide) (fun q => absurd q (by decide)) (fun _ => ?_)
    refine lv_iload_n hx hb dX5_landingTold_31 rfl (lv_at hl 1 rfl) ?_
    refine lv_aload_n hx hb dX5_landingTold_32 rfl (lv_at hl 0 rfl) ?_
    refine va_get (D := D) (ci := 5) (v := .ref (mm 2)) (C := RX5) (T := TX5) (N := 14) hx hb hts hwX5 hown hE.K hP 0 rfl rfl 9 (by decide) (hts (.fieldLink RX5 23 "SedgeBargesModel" "store" "[I") (List.mem_of_getElem? (i := 2) rfl)) (fun _ h9 => h9) rfl dX5_landingTold_33 ?_
    refine lv_iload_n hx hb dX5_landingTold_36 rfl (lv_at hl 1 rfl) ?_
    refine r_ald (f := T) (v := T k) hx hb hE hP 3 (k) rfl rfl (by omega) (by decide) rfl dX5_landingTold_37 ?_
    refine goI ([]) (wMod cA h mm th dy co ti ro n nb B G T BA GA TA mo) hP hD hS hA (rnS (rest := []) (m_price sa tb D cA cL l k (T k) (show k < 3 from by first | omega | assumption | decide)) ([]) (wMod cA h mm th dy co ti ro n nb B G T BA GA TA mo) hP hD hS hA hE ⟨hx, hb, hml, hown, hts⟩ (va_cwS 2 hts gX5_landingTold_X5_price rfl rfl rfl (by decide +kernel) ⟨(Nat.le_of_ble_eq_true rfl), (Nat.le_of_ble_eq_true rfl)⟩) rfl hl.1 rfl (Nat.le_of_ble_eq_true rfl) dX5_landingTold_38 ⟨(Nat.le_of_ble_eq_true rfl), (Nat.le_of_ble_eq_true rfl)⟩) (fun _ => rfl) (fun r_38 u_38 H locs hw_38 hP hD hS => ?_)
    have hP : va_P D vwCl (wMod cA h mm th dy co ti ro n nb B G T BA GA TA mo) H := hP
    have hD : va_D A (wMod cA h mm th dy co ti ro n nb B G T BA GA TA mo) := hD
    obtain rfl : r_38 = prA k (T k) := hw_38
    refine lv_goto (tgt := 54) hx hb dX5_landingTold_41 (by decide) ?_
    exact enI () hx hb hr hlocks hS hP (rfl) dX5_landingTold_54
  · have hl : lv_has ls 3 [(0, .ref h), (1, .int (nI k)), (2, .int 3)] := hl
    refine lv_iload_n hx hb dX5_landingTold_0 rfl (lv_at hl 2 rfl) ?_
    refine lv_if_ne (tgt := 12) hx hb dX5_landingTold_1 (by decide) (fun _ => ?_) (fun q => absurd q (by decide))
    refine lv_iload_n hx hb dX5_landingTold_12 rfl (lv_at hl 2 rfl) ?_
    refine lv_iconst (v := 1) hx hb dX5_landingTold_13 (by decide) ?_
    refine lv_icmp_ne (tgt := 26) hx hb dX5_landingTold_14 (by decide) (fun _ => ?_) (fun q => absurd q (by decide))
    refine lv_iload_n hx hb dX5_landingTold_26 rfl (lv_at hl 2 rfl) ?_
    refine lv_iconst (v := 2) hx hb dX5_landingTold_27 (by decide) ?_
    refine lv_icmp_ne (tgt := 44) hx hb dX5_landingTold_28 (by decide) (fun _ => ?_) (fun q => absurd q (by decide))
    refine lv_iload_n hx hb dX5_landingTold_44 rfl (lv_at hl 1 rfl) ?_
    refine lv_aload_n hx hb dX5_landingTold_45 rfl (lv_at hl 0 rfl) ?_
    refine va_get (D := D) (ci := 5) (v := .ref (mm 2)) (C := RX5) (T := TX5) (N := 14) hx hb hts hwX5 hown hE.K hP 0 rfl rfl 9 (by decide) (hts (.fieldLink RX5 23 "SedgeBargesModel" "store" "[I") (List.mem_of_getElem? (i := 2) rfl)) (fun _ h9 => h9) rfl dX5_landingTold_46 ?_
    refine lv_iload_n hx hb dX5_landingTold_49 rfl (lv_at hl 1 rfl) ?_
    refine r_ald (f := T) (v := T k) hx hb hE hP 3 (k) rfl rfl (by omega) (by decide) rfl dX5_landingTold_50 ?_
    refine goI ([]) (wMod cA h mm th dy co ti ro n nb B G T BA GA TA mo) hP hD hS hA (rnS (rest := []) (m_reedPrice sa tb D cA cL l k (T k) (show k < 3 from by first | omega | assumption | decide)) ([]) (wMod cA h mm th dy co ti ro n nb B G T BA GA TA mo) hP hD hS hA hE ⟨hx, hb, hml, hown, hts⟩ (va_cwS 2 hts gX5_landingTold_X5_reedPrice rfl rfl rfl (by decide +kernel) ⟨(Nat.le_of_ble_eq_true rfl), (Nat.le_of_ble_eq_true rfl)⟩) rfl hl.1 rfl (Nat.le_of_ble_eq_true rfl) dX5_landingTold_51 ⟨(Nat.le_of_ble_eq_true rfl), (Nat.le_of_ble_eq_true rfl)⟩) (fun _ => rfl) (fun r_51 u_51 H locs hw_51 hP hD hS => ?_)
    have hP : va_P D vwCl (wMod cA h mm th dy co ti ro n nb B G T BA GA TA mo) H := hP
    have hD : va_D A (wMod cA h mm th dy co ti ro n nb B G T BA GA TA mo) := hD
    obtain rfl : r_51 = prB k (T k) := hw_51
    exact enI () hx hb hr hlocks hS hP (rfl) dX5_landingTold_54
set_option maxRecDepth 100000 in
set_option maxHeartbeats 4000000 in
theorem m_landing (sa tb : Nat → Nat) (D : va_G) (cA cL : ClassId) (l : Launch) (h : Nat) (mm : Nat → Nat) (th : Int32) (dy : Int32) (co : Int32) (ti : Int32) (ro : Int32) (n : Nat) (nb : Nat) (B : Nat → Nat → Int32) (G : Nat → Nat → Int32) (T : Nat → Int32) (BA : Nat → Nat → Int32) (GA : Nat → Nat → Int32) (TA : Nat → Int32) (mo : Nat → Int32) (k : Nat) (qw : Nat) (hk : k < 3) (hw : qw < 4) : KM sa tb D cA cL l yX5_landing wsX5_landing ({ frames := 4, cells := 0, slots := 0, locals := 88 }) [.ref h, .int (nI k), .int (nI qw)] (wMod cA h mm th dy co ti ro n nb B G T BA GA TA mo) (qI D (fun (r : Int32) (_ : Unit) => r = tellL T k qw) (fun _ => wMod cA h mm 0 dy co ti ro n nb B G T BA GA TA mo)) := by
  refine KM.of (cc := cX5_landing) (maxL := 3) (ret := some .int) (by decide) rfl (Nat.le_of_ble_eq_true rfl) ?_
  intro pg e s m args below meth c A hx hb hr hml hlocks hts hown hS hA hE hP hD ls hl
  have hown : s.vm.findClass RX5 = some m.cls := hown
  have hl : lv_has ls 3 [(0, .ref h), (1, .int (nI k)), (2, .int (nI qw))] := hl
  have hwX5 : ∀ w ∈ wsX50, w ∈ wsX5_landing := (fun _ h => List.mem_cons_of_mem _ (List.mem_append_right _ h))
  refine lv_aload_n hx hb dX5_landing_0 rfl (lv_at hl 0 rfl) ?_
  refine lv_iconst (v := 0) hx hb dX5_landing_1 (by decide) ?_
  refine va_put (D := D) (ci := 5) (v := .int 0) (ty := .int) (C := RX5) (T := TX5) (N := 14) hx hb hts hwX5 tyX5 tyX5_ok nmX5 hown hE.K hP hD hS 0 rfl rfl 0 (by decide) (hts (.fieldLink RX5 38 "SedgeBargesModel" "thrown" "I") (List.mem_of_getElem? (i := 1) rfl)) (fun _ h9 => h9) rfl (by decide +kernel) rfl rfl (Nat.le_of_ble_eq_true rfl) dX5_landing_2 (fun H locs hP hD hS => ?_)
  have hP : va_P D vwCl (wMod cA h mm 0 dy co ti ro n nb B G T BA GA TA mo) H := hP
  have hD : va_D A (wMod cA h mm 0 dy co ti ro n nb B G T BA GA TA mo) := hD
  refine lv_iload_n hx hb dX5_landing_5 rfl (lv_at hl 1 rfl) ?_
  refine lv_iconst (v := 0) hx hb dX5_landing_6 (by decide) ?_
  refine lv_iconst (v := 2) hx hb dX5_landing_7 (by decide) ?_
  refine goI ([]) (wMod cA h mm 0 dy co ti ro n nb B G T BA GA TA mo) hP hD hS hA (rnS (rest := []) (m_isIn sa tb D cA cL l (nI k) 0 2 ) ([]) (wMod cA h mm 0 dy co ti ro n nb B G T BA GA TA mo) hP hD hS hA hE ⟨hx, hb, hml, hown, hts⟩ (va_cwS 3 hts gX5_landing_X5_isIn rfl rfl rfl (by decide +kernel) ⟨(Nat.le_of_ble_eq_true rfl), (Nat.le_of_ble_eq_true rfl)⟩) rfl hl.1 rfl (Nat.le_of_ble_eq_true rfl) dX5_landing_8 ⟨(Nat.le_of_ble_eq_true rfl), (Nat.le_of_ble_eq_true rfl)⟩) (fun _ => rfl) (fun r_8 u_8 H locs hw_8 hP hD hS => ?_)
  have hP : va_P D vwCl (wMod cA h mm 0 dy co ti ro n nb B G T BA GA TA mo) H := hP
  have hD : va_D A (wMod cA h mm 0 dy co ti ro n nb B G T BA GA TA mo) := hD
  obtain rfl : r_8 = bI (isInB (nI k) 0 2) := hw_8
  refine lv_if_eq (tgt := 32) hx hb dX5_landing_11 (by decide) (fun c_11 => False.elim (by exact absurd ((bI0 c_11).symm.trans (isIn_N (q := k) (m := 2) (by omega) (by decide))) (by decide))) (fun c_11 => ?_)
  refine lv_iload_n hx hb dX5_landing_14 rfl (lv_at hl 2 rfl) ?_
  refine lv_iconst (v := 0) hx hb dX5_landing_15 (by decide) ?_
  refine lv_iconst (v := 3) hx hb dX5_landing_16 (by decide) ?_
  refine goI ([]) (wMod cA h mm 0 dy co ti ro n nb B G T BA GA TA mo) hP hD hS hA (rnS (rest := []) (m_isIn sa tb D cA cL l (nI qw) 0 3 ) ([]) (wMod cA h mm 0 dy co ti ro n nb B G T BA GA TA mo) hP hD hS hA hE ⟨hx, hb, hml, hown, hts⟩ (va_cwS 3 hts gX5_landing_X5_isIn rfl rfl rfl (by decide +kernel) ⟨(Nat.le_of_ble_eq_true rfl), (Nat.le_of_ble_eq_true rfl)⟩) rfl hl.1 rfl (Nat.le_of_ble_eq_true rfl) dX5_landing_17 ⟨(Nat.le_of_ble_eq_true rfl), (Nat.le_of_ble_eq_true rfl)⟩) (fun _ => rfl) (fun r_17 u_17 H locs hw_17 hP hD hS => ?_)
  have hP : va_P D vwCl (wMod cA h mm 0 dy co ti ro n nb B G T BA GA TA mo) H := hP
  have hD : va_D A (wMod cA h mm 0 dy co ti ro n nb B G T BA GA TA mo) := hD
  obtain rfl : r_17 = bI (isInB (nI qw) 0 3) := hw_17
  refine lv_if_eq (tgt := 32) hx hb dX5_landing_20 (by decide) (fun c_20 => False.elim (by exact absurd ((bI0 c_20).symm.trans (isIn_N (q := qw) (m := 3) (by omega) (by decide))) (by decide))) (fun c_20 => ?_)
  refine lv_aload_n hx hb dX5_landing_23 rfl (lv_at hl 0 rfl) ?_
  refine lv_iload_n hx hb dX5_landing_24 rfl (lv_at hl 1 rfl) ?_
  refine lv_iload_n hx hb dX5_landing_25 rfl (lv_at hl 2 rfl) ?_
  refine goI ([]) ([]) hP hD hS hA (rnV (rest := []) (m_landingTold sa tb D cA cL l h mm 0 dy co ti ro n nb B G T BA GA TA mo k qw (show k < 3 from by first | omega | assumption | decide) (show qw < 4 from by first | omega | assumption | decide)) ([]) ([]) hP hD hS hA hE ⟨hx, hb, hml, hown, hts⟩ (cwV 2 hts gX5_landing_X5_landingTold rfl rfl rfl (by decide +kernel) ⟨(Nat.le_of_ble_eq_true rfl), (Nat.le_of_ble_eq_true rfl)⟩) 5 0 rfl rfl rfl rfl hl.1 rfl (Nat.le_of_ble_eq_true rfl) dX5_landing_26 ⟨(Nat.le_of_ble_eq_true rfl), (Nat.le_of_ble_eq_true rfl)⟩) (fun _ => rfl) (fun r_26 u_26 H locs hw_26 hP hD hS => ?_)
  have hP : va_P D vwCl (wMod cA h mm 0 dy co ti ro n nb B G T BA GA TA mo) H := hP
  have hD : va_D A (wMod cA h mm 0 dy co ti ro n nb B G T BA GA TA mo) := hD
  obtain rfl : r_26 = tellL T k qw := hw_26
  refine lv_goto (tgt := 37) hx hb dX5_landing_29 (by decide) ?_
  exact enI () hx hb hr hlocks hS hP (rfl) dX5_landing_37
set_option maxRecDepth 100000 in
set_option maxHeartbeats 4000000 in
theorem m_landing_1 (sa tb : Nat → Nat) (D : va_G) (cA cL : ClassId) (l : Launch) (h : Nat) (mm : Nat → Nat) (th : Int32) (dy : Int32) (co : Int32) (ti : Int32) (ro : Int32) (n : Nat) (nb : Nat) (B : Nat → Nat → Int32) (G : Nat → Nat → Int32) (T : Nat → Int32) (BA : Nat → Nat → Int32) (GA : Nat → Nat → Int32) (TA : Nat → Int32) (mo : Nat → Int32) (x : Int32) (y : Int32) (hb0 : x < 0 ∨ ¬ x < 3) : KM sa tb D cA cL l yX5_landing wsX5_landing ({ frames := 1, cells := 0, slots := 0, locals := 22 }) [.ref h, .int x, .int y] (wMod cA h mm th dy co ti ro n nb B G T BA GA TA mo) (qI D (fun (r : Int32) (_ : Unit) => r = 0) (fun _ => wMod cA h mm 1 dy co ti ro n nb B G T BA GA TA mo)) := by
  refine KM.of (cc := cX5_landing) (maxL := 3) (ret := some .int) (by decide) rfl (Nat.le_of_ble_eq_true rfl) ?_
  intro pg e s m args below meth c A hx hb hr hml hlocks hts hown hS hA hE hP hD ls hl
  have hown : s.vm.findClass RX5 = some m.cls := hown
  have hl : lv_has ls 3 [(0, .ref h), (1, .int x), (2, .int y)] := hl
  have hwX5 : ∀ w ∈ wsX50, w ∈ wsX5_landing := (fun _ h => List.mem_cons_of_mem _ (List.mem_append_right _ h))
  refine lv_aload_n hx hb dX5_landing_0 rfl (lv_at hl 0 rfl) ?_
  refine lv_iconst (v := 0) hx hb dX5_landing_1 (by decide) ?_
  refine va_put (D := D) (ci := 5) (v := .int 0) (ty := .int) (C := RX5) (T := TX5) (N := 14) hx hb hts hwX5 tyX5 tyX5_ok nmX5 hown hE.K hP hD hS 0 rfl rfl 0 (by decide) (hts (.fieldLink RX5 38 "SedgeBargesModel" "thrown" "I") (List.mem_of_getElem? (i := 1) rfl)) (fun _ h9 => h9) rfl (by decide +kernel) rfl rfl (Nat.le_of_ble_eq_true rfl) dX5_landing_2 (fun H locs hP hD hS => ?_)
  have hP : va_P D vwCl (wMod cA h mm 0 dy co ti ro n nb B G T BA GA TA mo) H := hP
  have hD : va_D A (wMod cA h mm 0 dy co ti ro n nb B G T BA GA TA mo) := hD
  refine lv_iload_n hx hb dX5_landing_5 rfl (lv_at hl 1 rfl) ?_
  refine lv_iconst (v := 0) hx hb dX5_landing_6 (by decide) ?_
  refine lv_iconst (v := 2) hx hb dX5_landing_7 (by decide) ?_
  refine goI ([]) (wMod cA h mm 0 dy co ti ro n nb B G T BA GA TA mo) hP hD hS hA (rnS (rest := []) (m_isIn sa tb D cA cL l x 0 2 ) ([]) (wMod cA h mm 0 dy co ti ro n nb B G T BA GA TA mo) hP hD hS hA hE ⟨hx, hb, hml, hown, hts⟩ (va_cwS 3 hts gX5_landing_X5_isIn rfl rfl rfl (by decide +kernel) ⟨(Nat.le_of_ble_eq_true rfl), (Nat.le_of_ble_eq_true rfl)⟩) rfl hl.1 rfl (Nat.le_of_ble_eq_true rfl) dX5_landing_8 ⟨(Nat.le_of_ble_eq_true rfl), (Nat.le_of_ble_eq_true rfl)⟩) (fun _ => rfl) (fun r_8 u_8 H locs hw_8 hP hD hS => ?_)
  have hP : va_P D vwCl (wMod cA h mm 0 dy co ti ro n nb B G T BA GA TA mo) H := hP
  have hD : va_D A (wMod cA h mm 0 dy co ti ro n nb B G T BA GA TA mo) := hD
  obtain rfl : r_8 = bI (isInB x 0 2) := hw_8
  refine lv_if_eq (tgt := 32) hx hb dX5_landing_11 (by decide) (fun c_11 => ?_) (fun c_11 => False.elim (by exact c_11 (congrArg bI (isIn_no (lt_le (by decide) hb0)))))
  refine lv_aload_n hx hb dX5_landing_32 rfl (lv_at hl 0 rfl) ?_
  refine lv_iconst (v := 1) hx hb dX5_landing_33 (by decide) ?_
  refine goI ([]) ([(mm 0, I_ cA 64 (pkB B)), (mm 1, I_ cA 15 (pkG G)), (mm 2, I_ cA 3 T), (mm 3, I_ cA 64 (pkB BA)), (mm 4, I_ cA 15 (pkG GA)), (mm 5, I_ cA 3 TA), (mm 6, I_ cA 8 mo)]) hP hD hS hA (rnV (rest := []) (m_no sa tb D cA cL l h mm 0 dy co ti ro n nb 1 ) ([]) ([(mm 0, I_ cA 64 (pkB B)), (mm 1, I_ cA 15 (pkG G)), (mm 2, I_ cA 3 T), (mm 3, I_ cA 64 (pkB BA)), (mm 4, I_ cA 15 (pkG GA)), (mm 5, I_ cA 3 TA), (mm 6, I_ cA 8 mo)]) hP hD hS hA hE ⟨hx, hb, hml, hown, hts⟩ (cwV 1 hts gX5_landing_X5_no rfl rfl rfl (by decide +kernel) ⟨(Nat.le_of_ble_eq_true rfl), (Nat.le_of_ble_eq_true rfl)⟩) 5 0 rfl rfl rfl rfl hl.1 rfl (Nat.le_of_ble_eq_true rfl) dX5_landing_34 ⟨(Nat.le_of_ble_eq_true rfl), (Nat.le_of_ble_eq_true rfl)⟩) (fun _ => (show List.map Prod.fst _ = [h] from rfl).trans (show [h] = List.map Prod.fst _ from rfl)) (fun r_34 u_34 H locs hw_34 hP hD hS => ?_)
  have hP : va_P D vwCl (wMod cA h mm 1 dy co ti ro n nb B G T BA GA TA mo) H := hP
  have hD : va_D A (wMod cA h mm 1 dy co ti ro n nb B G T BA GA TA mo) := hD
  obtain rfl : r_34 = 0 := hw_34
  exact enI () hx hb hr hlocks hS hP (rfl) dX5_landing_37
set_option maxRecDepth 100000 in
set_option maxHeartbeats 4000000 in
theorem m_landing_2 (sa tb : Nat → Nat) (D : va_G) (cA cL : ClassId) (l : Launch) (h : Nat) (mm : Nat → Nat) (th : Int32) (dy : Int32) (co : Int32) (ti : Int32) (ro : Int32) (n : Nat) (nb : Nat) (B : Nat → Nat → Int32) (G : Nat → Nat → Int32) (T : Nat → Int32) (BA : Nat → Nat → Int32) (GA : Nat → Nat → Int32) (TA : Nat → Int32) (mo : Nat → Int32) (k : Nat) (y : Int32) (hk : k < 3) (hb1 : y < 0 ∨ ¬ y < 4) : KM sa tb D cA cL l yX5_landing wsX5_landing ({ frames := 1, cells := 0, slots := 0, locals := 22 }) [.ref h, .int (nI k), .int y] (wMod cA h mm th dy co ti ro n nb B G T BA GA TA mo) (qI D (fun (r : Int32) (_ : Unit) => r = 0) (fun _ => wMod cA h mm 1 dy co ti ro n nb B G T BA GA TA mo)) := by
  refine KM.of (cc := cX5_landing) (maxL := 3) (ret := some .int) (by decide) rfl (Nat.le_of_ble_eq_true rfl) ?_
  intro pg e s m args below meth c A hx hb hr hml hlocks hts hown hS hA hE hP hD ls hl
  have hown : s.vm.findClass RX5 = some m.cls := hown
  have hl : lv_has ls 3 [(0, .ref h), (1, .int (nI k)), (2, .int y)] := hl
  have hwX5 : ∀ w ∈ wsX50, w ∈ wsX5_landing := (fun _ h => List.mem_cons_of_mem _ (List.mem_append_right _ h))
  refine lv_aload_n hx hb dX5_landing_0 rfl (lv_at hl 0 rfl) ?_
  refine lv_iconst (v := 0) hx hb dX5_landing_1 (by decide) ?_
  refine va_put (D := D) (ci := 5) (v := .int 0) (ty := .int) (C := RX5) (T := TX5) (N := 14) hx hb hts hwX5 tyX5 tyX5_ok nmX5 hown hE.K hP hD hS 0 rfl rfl 0 (by decide) (hts (.fieldLink RX5 38 "SedgeBargesModel" "thrown" "I") (List.mem_of_getElem? (i := 1) rfl)) (fun _ h9 => h9) rfl (by decide +kernel) rfl rfl (Nat.le_of_ble_eq_true rfl) dX5_landing_2 (fun H locs hP hD hS => ?_)
  have hP : va_P D vwCl (wMod cA h mm 0 dy co ti ro n nb B G T BA GA TA mo) H := hP
  have hD : va_D A (wMod cA h mm 0 dy co ti ro n nb B G T BA GA TA mo) := hD
  refine lv_iload_n hx hb dX5_landing_5 rfl (lv_at hl 1 rfl) ?_
  refine lv_iconst (v := 0) hx hb dX5_landing_6 (by decide) ?_
  refine lv_iconst (v := 2) hx hb dX5_landing_7 (by decide) ?_
  refine goI ([]) (wMod cA h mm 0 dy co ti ro n nb B G T BA GA TA mo) hP hD hS hA (rnS (rest := []) (m_isIn sa tb D cA cL l (nI k) 0 2 ) ([]) (wMod cA h mm 0 dy co ti ro n nb B G T BA GA TA mo) hP hD hS hA hE ⟨hx, hb, hml, hown, hts⟩ (va_cwS 3 hts gX5_landing_X5_isIn rfl rfl rfl (by decide +kernel) ⟨(Nat.le_of_ble_eq_true rfl), (Nat.le_of_ble_eq_true rfl)⟩) rfl hl.1 rfl (Nat.le_of_ble_eq_true rfl) dX5_landing_8 ⟨(Nat.le_of_ble_eq_true rfl), (Nat.le_of_ble_eq_true rfl)⟩) (fun _ => rfl) (fun r_8 u_8 H locs hw_8 hP hD hS => ?_)
  have hP : va_P D vwCl (wMod cA h mm 0 dy co ti ro n nb B G T BA GA TA mo) H := hP
  have hD : va_D A (wMod cA h mm 0 dy co ti ro n nb B G T BA GA TA mo) := hD
  obtain rfl : r_8 = bI (isInB (nI k) 0 2) := hw_8
  refine lv_if_eq (tgt := 32) hx hb dX5_landing_11 (by decide) (fun c_11 => False.elim (by exact absurd ((bI0 c_11).symm.trans (isIn_N (q := k) (m := 2) (by omega) (by decide))) (by decide))) (fun c_11 => ?_)
  refine lv_iload_n hx hb dX5_landing_14 rfl (lv_at hl 2 rfl) ?_
  refine lv_iconst (v := 0) hx hb dX5_landing_15 (by decide) ?_
  refine lv_iconst (v := 3) hx hb dX5_landing_16 (by decide) ?_
  refine goI ([]) (wMod cA h mm 0 dy co ti ro n nb B G T BA GA TA mo) hP hD hS hA (rnS (rest := []) (m_isIn sa tb D cA cL l y 0 3 ) ([]) (wMod cA h mm 0 dy co ti ro n nb B G T BA GA TA mo) hP hD hS hA hE ⟨hx, hb, hml, hown, hts⟩ (va_cwS 3 hts gX5_landing_X5_isIn rfl rfl rfl (by decide +kernel) ⟨(Nat.le_of_ble_eq_true rfl), (Nat.le_of_ble_eq_true rfl)⟩) rfl hl.1 rfl (Nat.le_of_ble_eq_true rfl) dX5_landing_17 ⟨(Nat.le_of_ble_eq_true rfl), (Nat.le_of_ble_eq_true rfl)⟩) (fun _ => rfl) (fun r_17 u_17 H locs hw_17 hP hD hS => ?_)
  have hP : va_P D vwCl (wMod cA h mm 0 dy co ti ro n nb B G T BA GA TA mo) H := hP
  have hD : va_D A (wMod cA h mm 0 dy co ti ro n nb B G T BA GA TA mo) := hD
  obtain rfl : r_17 = bI (isInB y 0 3) := hw_17
  refine lv_if_eq (tgt := 32) hx hb dX5_landing_20 (by decide) (fun c_20 => ?_) (fun c_20 => False.elim (by exact c_20 (congrArg bI (isIn_no (lt_le (by decide) hb1)))))
  refine lv_aload_n hx hb dX5_landing_32 rfl (lv_at hl 0 rfl) ?_
  refine lv_iconst (v := 1) hx hb dX5_landing_33 (by decide) ?_
  refine goI ([]) ([(mm 0, I_ cA 64 (pkB B)), (mm 1, I_ cA 15 (pkG G)), (mm 2, I_ cA 3 T), (mm 3, I_ cA 64 (pkB BA)), (mm 4, I_ cA 15 (pkG GA)), (mm 5, I_ cA 3 TA), (mm 6, I_ cA 8 mo)]) hP hD hS hA (rnV (rest := []) (m_no sa tb D cA cL l h mm 0 dy co ti ro n nb 1 ) ([]) ([(mm 0, I_ cA 64 (pkB B)), (mm 1, I_ cA 15 (pkG G)), (mm 2, I_ cA 3 T), (mm 3, I_ cA 64 (pkB BA)), (mm 4, I_ cA 15 (pkG GA)), (mm 5, I_ cA 3 TA), (mm 6, I_ cA 8 mo)]) hP hD hS hA hE ⟨hx, hb, hml, hown, hts⟩ (cwV 1 hts gX5_landing_X5_no rfl rfl rfl (by decide +kernel) ⟨(Nat.le_of_ble_eq_true rfl), (Nat.le_of_ble_eq_true rfl)⟩) 5 0 rfl rfl rfl rfl hl.1 rfl (Nat.le_of_ble_eq_true rfl) dX5_landing_34 ⟨(Nat.le_of_ble_eq_true rfl), (Nat.le_of_ble_eq_true rfl)⟩) (fun _ => (show List.map Prod.fst _ = [h] from rfl).trans (show [h] = List.map Prod.fst _ from rfl)) (fun r_34 u_34 H locs hw_34 hP hD hS => ?_)
  have hP : va_P D vwCl (wMod cA h mm 1 dy co ti ro n nb B G T BA GA TA mo) H := hP
  have hD : va_D A (wMod cA h mm 1 dy co ti ro n nb B G T BA GA TA mo) := hD
  obtain rfl : r_34 = 0 := hw_34
  exact enI () hx hb hr hlocks hS hP (rfl) dX5_landing_37
