theorem plF_in {j : Nat} (hj : j < 3) : ∃ q, q < 31 ∧ plF j = nI q := by
  rcases (show j = 0 ∨ j = 1 ∨ j = 2 by omega) with rfl | rfl | rfl
  · exact ⟨2, by omega, rfl⟩
  · exact ⟨15, by omega, rfl⟩
  · exact ⟨28, by omega, rfl⟩
theorem dd_m {G : Nat → Nat → Int32} {k j : Nat} (hp : ∃ p, p < 31 ∧ G 0 k = nI p) (hj : j < 3) : (iabs (G 0 k - plF j) + 4) / 5 = nI (ddF G k j) := (days_sym hp (plF_in hj)).1.trans (dd_ok hp hj).1
theorem lftN_down {d b : Nat} {x : Int32} (h : b + 1 ≤ d) : lft (lftN (d - (b + 1)) x) = lftN (d - b) x := by
  rw [show d - b = (d - (b + 1)) + 1 from by omega]; rfl
theorem isIn_d {d : Nat} (h0 : 1 ≤ d) (h1 : d ≤ 200) : isInB (nI d) 1 200 = true := isIn_yes (fun q => absurd ((nI_ltI (by omega) (by decide)).mp (show nI d < nI 1 from q)) (by omega)) (nI_le (b := 200) h1 (by decide))
theorem rot_step {B B2 : Nat → Nat → Int32} {i : Nat} {y : Int32} (hB : B2 = mapC rotC i B) : tenth (B2 4 i) + tenth (st B2 4 i y 5 i) = rotF B i := by
  subst hB
  rw [st_col (by decide), mapC_ge (Nat.le_refl i), mapC_ge (Nat.le_refl i)]
  rfl
theorem rot_map {B B2 : Nat → Nat → Int32} {i : Nat} (hB : B2 = mapC rotC i B) : st (st B2 4 i (B2 4 i - tenth (B2 4 i))) 5 i (st B2 4 i (B2 4 i - tenth (B2 4 i)) 5 i - tenth (st B2 4 i (B2 4 i - tenth (B2 4 i)) 5 i)) = mapC rotC (i + 1) B := by
  subst hB
  rw [st_col (j := 5) (by decide)]
  exact mapC_step (fun j k hk => by simp only [st_ne hk]) (fun j => by simp only [st_eq, mapC_ge (Nat.le_refl i)]; rfl)
set_option maxRecDepth 100000 in
set_option maxHeartbeats 4000000 in
theorem m_left (sa tb : Nat → Nat) (D : va_G) (cA cL : ClassId) (l : Launch) (x : Int32)  : KM sa tb D cA cL l yX5_left wsX5_left ({ frames := 0, cells := 0, slots := 0, locals := 0 }) [.int x] ([]) (qI D (fun (r : Int32) (_ : Unit) => r = lft x) (fun _ => [])) := by
  refine KM.of (cc := cX5_left) (maxL := 1) (ret := some .int) (by decide) rfl (Nat.le_of_ble_eq_true rfl) ?_
  intro pg e s m args below meth c A hx hb hr hml hlocks hts hown hS hA hE hP hD ls hl
  have hown : s.vm.findClass RX5 = some m.cls := hown
  have hl : lv_has ls 1 [(0, .int x)] := hl
  refine lv_iload_n hx hb dX5_left_0 rfl (lv_at hl 0 rfl) ?_
  refine lv_iload_n hx hb dX5_left_1 rfl (lv_at hl 0 rfl) ?_
  refine lv_bipush (v := 19) hx hb dX5_left_2 (by decide) ?_
  refine lv_iadd hx hb dX5_left_4 ?_
  refine lv_bipush (v := 20) hx hb dX5_left_5 (by decide) ?_
  refine lv_idiv hx hb dX5_left_7 (by decide) ?_
  refine lv_isub hx hb dX5_left_8 ?_
  exact enI () hx hb hr hlocks hS hP (by unfold lft twent; rfl) dX5_left_9
set_option maxRecDepth 100000 in
set_option maxHeartbeats 4000000 in
theorem m_wouldBring (sa tb : Nat → Nat) (D : va_G) (cA cL : ClassId) (l : Launch) (h : Nat) (mm : Nat → Nat) (th : Int32) (dy : Int32) (co : Int32) (ti : Int32) (ro : Int32) (n : Nat) (nb : Nat) (B : Nat → Nat → Int32) (G : Nat → Nat → Int32) (T : Nat → Int32) (BA : Nat → Nat → Int32) (GA : Nat → Nat → Int32) (TA : Nat → Int32) (mo : Nat → Int32) (k : Nat) (j : Nat) (hk : k < 3) (hj : j < 3) (hpl : ∃ p, p < 31 ∧ G 0 k = nI p) : KM sa tb D cA cL l yX5_wouldBring wsX5_wouldBring ({ frames := 4, cells := 0, slots := 0, locals := 89 }) [.ref h, .int (nI k), .int (nI j)] (wMod cA h mm th dy co ti ro n nb B G T BA GA TA mo) (qI D (fun (r : Int32) (_ : Unit) => r = wouldV G T k j) (fun _ => wMod cA h mm th dy co ti ro n nb B G T BA GA TA mo)) := by
  refine KM.of (cc := cX5_wouldBring) (maxL := 5) (ret := some .int) (by decide) rfl (Nat.le_of_ble_eq_true rfl) ?_
  intro pg e s m args below meth c A hx hb hr hml hlocks hts hown hS hA hE hP hD ls hl
  have hown : s.vm.findClass RX5 = some m.cls := hown
  have hl : lv_has ls 5 [(0, .ref h), (1, .int (nI k)), (2, .int (nI j))] := hl
  have hwX5 : ∀ w ∈ wsX50, w ∈ wsX5_wouldBring := (fun _ h => List.mem_cons_of_mem _ (List.mem_append_right _ h))
  refine lv_aload_n hx hb dX5_wouldBring_0 rfl (lv_at hl 0 rfl) ?_
  refine va_get (D := D) (ci := 5) (v := .ref (mm 2)) (C := RX5) (T := TX5) (N := 14) hx hb hts hwX5 hown hE.K hP 0 rfl rfl 9 (by decide) (hts (.fieldLink RX5 23 "SedgeBargesModel" "store" "[I") (List.mem_of_getElem? (i := 1) rfl)) (fun _ h9 => h9) rfl dX5_wouldBring_1 ?_
  refine lv_iload_n hx hb dX5_wouldBring_4 rfl (lv_at hl 2 rfl) ?_
  refine r_ald (f := T) (v := T j) hx hb hE hP 3 (j) rfl rfl (by omega) (by decide) rfl dX5_wouldBring_5 ?_
  refine lv_istore_n (lv' := [(3, .int (T j)), (0, .ref h), (1, .int (nI k)), (2, .int (nI j))]) hx hb dX5_wouldBring_6 rfl hl (by decide) rfl (fun ls hl => ?_)
  refine lv_aload_n hx hb dX5_wouldBring_7 rfl (lv_at hl 1 rfl) ?_
  refine va_get (D := D) (ci := 5) (v := .ref (mm 1)) (C := RX5) (T := TX5) (N := 14) hx hb hts hwX5 hown hE.K hP 0 rfl rfl 8 (by decide) (hts (.fieldLink RX5 20 "SedgeBargesModel" "g" "[I") (List.mem_of_getElem? (i := 2) rfl)) (fun _ h9 => h9) rfl dX5_wouldBring_8 ?_
  refine lv_iconst (v := 5) hx hb dX5_wouldBring_11 (by decide) ?_
  refine lv_iload_n hx hb dX5_wouldBring_12 rfl (lv_at hl 2 rfl) ?_
  refine rn_mul (a := 5) (b := k) hx hb dX5_wouldBring_13 ?_
  refine r_ald (f := pkG G) (v := G 0 k) hx hb hE hP 2 (5 * k + 0) rfl (congrArg nI (by omega)) (by omega) (by decide) (pkG_at 0 (k) (by decide)) dX5_wouldBring_14 ?_
  refine va_gets hx hb (hE.2.2.2.2.2.2.2.1.2.2.2.2.1).1 hS hown (hts (.fieldLink RX5 104 "SedgeBargesModel" "LANDING" "[I") (List.mem_of_getElem? (i := 3) rfl)) (fun _ h9 => h9) dX5_wouldBring_15 ?_
  refine lv_iload_n hx hb dX5_wouldBring_18 rfl (lv_at hl 3 rfl) ?_
  refine r_tld hx hb (hE.2.2.2.2.2.2.2.1.2.2.2.2.1) hS (j) rfl (by omega) (by decide) rfl dX5_wouldBring_19 ?_
  refine goI ([]) (wMod cA h mm th dy co ti ro n nb B G T BA GA TA mo) hP hD hS hA (rnS (rest := []) (m_days sa tb D cA cL l (G 0 k) (plF j) ) ([]) (wMod cA h mm th dy co ti ro n nb B G T BA GA TA mo) hP hD hS hA hE ⟨hx, hb, hml, hown, hts⟩ (va_cwS 2 hts gX5_wouldBring_X5_days rfl rfl rfl (by decide +kernel) ⟨(Nat.le_of_ble_eq_true rfl), (Nat.le_of_ble_eq_true rfl)⟩) rfl hl.1 rfl (Nat.le_of_ble_eq_true rfl) dX5_wouldBring_20 ⟨(Nat.le_of_ble_eq_true rfl), (Nat.le_of_ble_eq_true rfl)⟩) (fun _ => rfl) (fun r_20 u_20 H locs hw_20 hP hD hS => ?_)
  have hP : va_P D vwCl (wMod cA h mm th dy co ti ro n nb B G T BA GA TA mo) H := hP
  have hD : va_D A (wMod cA h mm th dy co ti ro n nb B G T BA GA TA mo) := hD
  obtain rfl : r_20 = nI (ddF G k j) := hw_20.trans (dd_m hpl hj)
  refine lv_istore (lv' := [(4, .int (nI (ddF G k j))), (3, .int (T j)), (0, .ref h), (1, .int (nI k)), (2, .int (nI j))]) hx hb dX5_wouldBring_23 hl (by decide) rfl (fun ls hl => ?_)
  have loop_25 : ∀ (f_25 : Nat) (i : Nat) (sv : Int32), i < f_25 → (i ≤ ddF G k j) → (i < 10) → (sv = lftN (ddF G k j - i) (T j)) → ∀ (H : Heap) (locs : List Loc), va_P D vwCl (wMod cA h mm th dy co ti ro n nb B G T BA GA TA mo) H → va_D A (wMod cA h mm th dy co ti ro n nb B G T BA GA TA mo) → va_S A s.heap H locs → ∀ ls : Array Slot, lv_has ls 5 [(0, .ref h), (1, .int (nI k)), (2, .int (nI j)), (3, .int sv), (4, .int (nI i))] → W pg l e ({ frames := 4, cells := 0, slots := 0, locals := 89 }) s m args below meth c H locs 0 0 (MQ below (qI D (fun (r : Int32) (_ : Unit) => r = wouldV G T k j) (fun _ => wMod cA h mm th dy co ti ro n nb B G T BA GA TA mo) A) args s 0 0 A) (F0 m 25 ls []) := by
    intro f_25
    induction f_25 with
    | zero => intro i sv h_f; exact absurd h_f (Nat.not_lt_zero _)
    | succ f_25 ih_25 =>
      intro i sv h_f25 hi hi9 hsv H locs hP hD hS ls hl
      refine lv_iload hx hb dX5_wouldBring_25 (lv_at hl 4 rfl) ?_
      refine rz_le (tgt := 41) (a := i) hx hb (by omega) dX5_wouldBring_27 (by decide) (fun c_27 => ?_) (fun c1 c_27 => ?_)
      · refine lv_aload_n hx hb dX5_wouldBring_41 rfl (lv_at hl 0 rfl) ?_
        refine lv_iconst (v := 5) hx hb dX5_wouldBring_42 (by decide) ?_
        refine lv_iload_n hx hb dX5_wouldBring_43 rfl (lv_at hl 1 rfl) ?_
        refine rn_mul (a := 5) (b := k) hx hb dX5_wouldBring_44 ?_
        refine lv_iload_n hx hb dX5_wouldBring_45 rfl (lv_at hl 2 rfl) ?_
        refine lv_iload_n hx hb dX5_wouldBring_46 rfl (lv_at hl 3 rfl) ?_
        refine goI ([]) ([]) hP hD hS hA (rnV (rest := []) (m_brings sa tb D cA cL l h mm th dy co ti ro n nb B G T BA GA TA mo k j sv (show k < 3 from by first | omega | assumption | decide) (show j < 3 from by first | omega | assumption | decide)) ([]) ([]) hP hD hS hA hE ⟨hx, hb, hml, hown, hts⟩ (cwV 3 hts gX5_wouldBring_X5_brings rfl rfl rfl (by decide +kernel) ⟨(Nat.le_of_ble_eq_true rfl), (Nat.le_of_ble_eq_true rfl)⟩) 5 0 rfl rfl rfl rfl hl.1 rfl (Nat.le_of_ble_eq_true rfl) dX5_wouldBring_47 ⟨(Nat.le_of_ble_eq_true rfl), (Nat.le_of_ble_eq_true rfl)⟩) (fun _ => rfl) (fun r_47 u_47 H locs hw_47 hP hD hS => ?_)
        have hP : va_P D vwCl (wMod cA h mm th dy co ti ro n nb B G T BA GA TA mo) H := hP
        have hD : va_D A (wMod cA h mm th dy co ti ro n nb B G T BA GA TA mo) := hD
        obtain rfl : r_47 = G 2 k * prA j sv + G 3 k * prB j sv := hw_47
        rw [c_27, Nat.sub_zero] at hsv
        subst hsv
        exact enI () hx hb hr hlocks hS hP (by unfold wouldV; rfl) dX5_wouldBring_50
      · subst c_27
        refine lv_iload_n hx hb dX5_wouldBring_30 rfl (lv_at hl 3 rfl) ?_
        refine goI ([]) (wMod cA h mm th dy co ti ro n nb B G T BA GA TA mo) hP hD hS hA (rnS (rest := []) (m_left sa tb D cA cL l sv ) ([]) (wMod cA h mm th dy co ti ro n nb B G T BA GA TA mo) hP hD hS hA hE ⟨hx, hb, hml, hown, hts⟩ (va_cwS 1 hts gX5_wouldBring_X5_left rfl rfl rfl (by decide +kernel) ⟨(Nat.le_of_ble_eq_true rfl), (Nat.le_of_ble_eq_true rfl)⟩) rfl hl.1 rfl (Nat.le_of_ble_eq_true rfl) dX5_wouldBring_31 ⟨(Nat.le_of_ble_eq_true rfl), (Nat.le_of_ble_eq_true rfl)⟩) (fun _ => rfl) (fun r_31 u_31 H locs hw_31 hP hD hS => ?_)
        have hP : va_P D vwCl (wMod cA h mm th dy co ti ro n nb B G T BA GA TA mo) H := hP
        have hD : va_D A (wMod cA h mm th dy co ti ro n nb B G T BA GA TA mo) := hD
        obtain rfl : r_31 = lft sv := hw_31
        refine lv_istore_n (lv' := [(3, .int (lft sv)), (0, .ref h), (1, .int (nI k)), (2, .int (nI j)), (4, .int (nI (c1 + 1)))]) hx hb dX5_wouldBring_34 rfl hl (by decide) rfl (fun ls hl => ?_)
        refine lv_iinc (v := (nI c1)) (lv' := [(4, .int (nI c1)), (3, .int (lft sv)), (0, .ref h), (1, .int (nI k)), (2, .int (nI j))]) (k := 4) hx hb dX5_wouldBring_35 hl rfl (idec1 _) (by decide) rfl (fun ls hl => ?_)
        refine lv_goto (tgt := 25) hx hb dX5_wouldBring_38 (by decide) ?_
        exact ih_25  c1 (lft sv) (show c1 < f_25 from by omega) (show c1 ≤ ddF G k j from by omega) (show c1 < 10 from by omega) (show (lft sv) = lftN (ddF G k j - c1) (T j) from by rw [hsv]; exact lftN_down hi) _ _ hP hD hS ls (lv_sub hl [2, 3, 4, 1, 0] rfl)
  exact loop_25 ((ddF G k j) + 1) (ddF G k j) (T j) (Nat.lt_succ_self _) (show (ddF G k j) ≤ ddF G k j from Nat.le_refl _) (show (ddF G k j) < 10 from (dd_ok hpl hj).2) (show (T j) = lftN (ddF G k j - (ddF G k j)) (T j) from by rw [Nat.sub_self]; rfl) _ _ hP hD hS ls (lv_sub hl [2, 3, 4, 1, 0] rfl)
set_option maxRecDepth 100000 in
set_option maxHeartbeats 4000000 in
theorem m_would (sa tb : Nat → Nat) (D : va_G) (cA cL : ClassId) (l : Launch) (h : Nat) (mm : Nat → Nat) (th : Int32) (dy : Int32) (co : Int32) (ti : Int32) (ro : Int32) (n : Nat) (nb : Nat) (B : Nat → Nat → Int32) (G : Nat → Nat → Int32) (T : Nat → Int32) (BA : Nat → Nat → Int32) (GA : Nat → Nat → Int32) (TA : Nat → Int32) (mo : Nat → Int32) (k : Nat) (j : Nat) (hk : k < nb) (hj : j < 3) (hnb : nb ≤ 3) (hpl : ∃ p, p < 31 ∧ G 0 k = nI p) : KM sa tb D cA cL l yX5_would wsX5_would ({ frames := 5, cells := 0, slots := 0, locals := 113 }) [.ref h, .int (nI k), .int (nI j)] (wMod cA h mm th dy co ti ro n nb B G T BA GA TA mo) (qI D (fun (r : Int32) (_ : Unit) => r = wouldV G T k j) (fun _ => wMod cA h mm 0 dy co ti ro n nb B G T BA GA TA mo)) := by
  refine KM.of (cc := cX5_would) (maxL := 3) (ret := some .int) (by decide) rfl (Nat.le_of_ble_eq_true rfl) ?_
  intro pg e s m args below meth c A hx hb hr hml hlocks hts hown hS hA hE hP hD ls hl
  have hown : s.vm.findClass RX5 = some m.cls := hown
  have hl : lv_has ls 3 [(0, .ref h), (1, .int (nI k)), (2, .int (nI j))] := hl
  have hwX5 : ∀ w ∈ wsX50, w ∈ wsX5_would := (fun _ h => List.mem_cons_of_mem _ (List.mem_append_right _ h))
  refine lv_aload_n hx hb dX5_would_0 rfl (lv_at hl 0 rfl) ?_
  refine lv_iconst (v := 0) hx hb dX5_would_1 (by decide) ?_
  refine va_put (D := D) (ci := 5) (v := .int 0) (ty := .int) (C := RX5) (T := TX5) (N := 14) hx hb hts hwX5 tyX5 tyX5_ok nmX5 hown hE.K hP hD hS 0 rfl rfl 0 (by decide) (hts (.fieldLink RX5 38 "SedgeBargesModel" "thrown" "I") (List.mem_of_getElem? (i := 1) rfl)) (fun _ h9 => h9) rfl (by decide +kernel) rfl rfl (Nat.le_of_ble_eq_true rfl) dX5_would_2 (fun H locs hP hD hS => ?_)
  have hP : va_P D vwCl (wMod cA h mm 0 dy co ti ro n nb B G T BA GA TA mo) H := hP
  have hD : va_D A (wMod cA h mm 0 dy co ti ro n nb B G T BA GA TA mo) := hD
  refine lv_aload_n hx hb dX5_would_5 rfl (lv_at hl 0 rfl) ?_
  refine lv_iload_n hx hb dX5_would_6 rfl (lv_at hl 1 rfl) ?_
  refine goI ([]) ([(mm 0, I_ cA 64 (pkB B)), (mm 1, I_ cA 15 (pkG G)), (mm 2, I_ cA 3 T), (mm 3, I_ cA 64 (pkB BA)), (mm 4, I_ cA 15 (pkG GA)), (mm 5, I_ cA 3 TA), (mm 6, I_ cA 8 mo)]) hP hD hS hA (rnV (rest := []) (m_isBarge sa tb D cA cL l h mm 0 dy co ti ro n nb (nI k) ) ([]) ([(mm 0, I_ cA 64 (pkB B)), (mm 1, I_ cA 15 (pkG G)), (mm 2, I_ cA 3 T), (mm 3, I_ cA 64 (pkB BA)), (mm 4, I_ cA 15 (pkG GA)), (mm 5, I_ cA 3 TA), (mm 6, I_ cA 8 mo)]) hP hD hS hA hE ⟨hx, hb, hml, hown, hts⟩ (cwV 1 hts gX5_would_X5_isBarge rfl rfl rfl (by decide +kernel) ⟨(Nat.le_of_ble_eq_true rfl), (Nat.le_of_ble_eq_true rfl)⟩) 5 0 rfl rfl rfl rfl hl.1 rfl (Nat.le_of_ble_eq_true rfl) dX5_would_7 ⟨(Nat.le_of_ble_eq_true rfl), (Nat.le_of_ble_eq_true rfl)⟩) (fun _ => rfl) (fun r_7 u_7 H locs hw_7 hP hD hS => ?_)
  have hP : va_P D vwCl (wMod cA h mm 0 dy co ti ro n nb B G T BA GA TA mo) H := hP
  have hD : va_D A (wMod cA h mm 0 dy co ti ro n nb B G T BA GA TA mo) := hD
  obtain rfl : r_7 = bI (isInB (nI k) 0 (nI nb - 1)) := hw_7
  refine lv_if_eq (tgt := 31) hx hb dX5_would_10 (by decide) (fun c_10 => False.elim (by exact absurd ((bI0 c_10).symm.trans (isBed_yes hk (by omega))) (by decide))) (fun c_10 => ?_)
  refine lv_iload_n hx hb dX5_would_13 rfl (lv_at hl 2 rfl) ?_
  refine lv_iconst (v := 0) hx hb dX5_would_14 (by decide) ?_
  refine lv_iconst (v := 2) hx hb dX5_would_15 (by decide) ?_
  refine goI ([]) (wMod cA h mm 0 dy co ti ro n nb B G T BA GA TA mo) hP hD hS hA (rnS (rest := []) (m_isIn sa tb D cA cL l (nI j) 0 2 ) ([]) (wMod cA h mm 0 dy co ti ro n nb B G T BA GA TA mo) hP hD hS hA hE ⟨hx, hb, hml, hown, hts⟩ (va_cwS 3 hts gX5_would_X5_isIn rfl rfl rfl (by decide +kernel) ⟨(Nat.le_of_ble_eq_true rfl), (Nat.le_of_ble_eq_true rfl)⟩) rfl hl.1 rfl (Nat.le_of_ble_eq_true rfl) dX5_would_16 ⟨(Nat.le_of_ble_eq_true rfl), (Nat.le_of_ble_eq_true rfl)⟩) (fun _ => rfl) (fun r_16 u_16 H locs hw_16 hP hD hS => ?_)
  have hP : va_P D vwCl (wMod cA h mm 0 dy co ti ro n nb B G T BA GA TA mo) H := hP
  have hD : va_D A (wMod cA h mm 0 dy co ti ro n nb B G T BA GA TA mo) := hD
  obtain rfl : r_16 = bI (isInB (nI j) 0 2) := hw_16
  refine lv_if_eq (tgt := 31) hx hb dX5_would_19 (by decide) (fun c_19 => False.elim (by exact absurd ((bI0 c_19).symm.trans (isIn_N (q := j) (m := 2) (by omega) (by decide))) (by decide))) (fun c_19 => ?_)
  refine lv_aload_n hx hb dX5_would_22 rfl (lv_at hl 0 rfl) ?_
  refine lv_iload_n hx hb dX5_would_23 rfl (lv_at hl 1 rfl) ?_
  refine lv_iload_n hx hb dX5_would_24 rfl (lv_at hl 2 rfl) ?_
  refine goI ([]) ([]) hP hD hS hA (rnV (rest := []) (m_wouldBring sa tb D cA cL l h mm 0 dy co ti ro n nb B G T BA GA TA mo k j (show k < 3 from by first | omega | assumption | decide) (show j < 3 from by first | omega | assumption | decide) (show ∃ p, p < 31 ∧ G 0 k = nI p from by first | omega | assumption | decide)) ([]) ([]) hP hD hS hA hE ⟨hx, hb, hml, hown, hts⟩ (cwV 2 hts gX5_would_X5_wouldBring rfl rfl rfl (by decide +kernel) ⟨(Nat.le_of_ble_eq_true rfl), (Nat.le_of_ble_eq_true rfl)⟩) 5 0 rfl rfl rfl rfl hl.1 rfl (Nat.le_of_ble_eq_true rfl) dX5_would_25 ⟨(Nat.le_of_ble_eq_true rfl), (Nat.le_of_ble_eq_true rfl)⟩) (fun _ => rfl) (fun r_25 u_25 H locs hw_25 hP hD hS => ?_)
  have hP : va_P D vwCl (wMod cA h mm 0 dy co ti ro n nb B G T BA GA TA mo) H := hP
  have hD : va_D A (wMod cA h mm 0 dy co ti ro n nb B G T BA GA TA mo) := hD
  obtain rfl : r_25 = wouldV G T k j := hw_25
  refine lv_goto (tgt := 36) hx hb dX5_would_28 (by decide) ?_
  exact enI () hx hb hr hlocks hS hP (rfl) dX5_would_36
set_option maxRecDepth 100000 in
set_option maxHeartbeats 4000000 in
theorem m_would_1 (sa tb : Nat → Nat) (D : va_G) (cA cL : ClassId) (l : Launch) (h : Nat) (mm : Nat → Nat) (th : Int32) (dy : Int32) (co : Int32) (ti : Int32) (ro : Int32) (n : Nat) (nb : Nat) (B : Nat → Nat → Int32) (G : Nat → Nat → Int32) (T : Nat → Int32) (BA : Nat → Nat → Int32) (GA : Nat → Nat → Int32) (TA : Nat → Int32) (mo : Nat → Int32) (x : Int32) (y : Int32) (hb0 : x < 0 ∨ ¬ x < nI nb) (hnb : nb ≤ 3) : KM sa tb D cA cL l yX5_would wsX5_would ({ frames := 2, cells := 0, slots := 0, locals := 43 }) [.ref h, .int x, .int y] (wMod cA h mm th dy co ti ro n nb B G T BA GA TA mo) (qI D (fun (r : Int32) (_ : Unit) => r = 0) (fun _ => wMod cA h mm 1 dy co ti ro n nb B G T BA GA TA mo)) := by
  refine KM.of (cc := cX5_would) (maxL := 3) (ret := some .int) (by decide) rfl (Nat.le_of_ble_eq_true rfl) ?_
  intro pg e s m args below meth c A hx hb hr hml hlocks hts hown hS hA hE hP hD ls hl
  have hown : s.vm.findClass RX5 = some m.cls := hown
  have hl : lv_has ls 3 [(0, .ref h), (1, .int x), (2, .int y)] := hl
  have hwX5 : ∀ w ∈ wsX50, w ∈ wsX5_would := (fun _ h => List.mem_cons_of_mem _ (List.mem_append_right _ h))
  refine lv_aload_n hx hb dX5_would_0 rfl (lv_at hl 0 rfl) ?_
  refine lv_iconst (v := 0) hx hb dX5_would_1 (by decide) ?_
  refine va_put (D := D) (ci := 5) (v := .int 0) (ty := .int) (C := RX5) (T := TX5) (N := 14) hx hb hts hwX5 tyX5 tyX5_ok nmX5 hown hE.K hP hD hS 0 rfl rfl 0 (by decide) (hts (.fieldLink RX5 38 "SedgeBargesModel" "thrown" "I") (List.mem_of_getElem? (i := 1) rfl)) (fun _ h9 => h9) rfl (by decide +kernel) rfl rfl (Nat.le_of_ble_eq_true rfl) dX5_would_2 (fun H locs hP hD hS => ?_)
  have hP : va_P D vwCl (wMod cA h mm 0 dy co ti ro n nb B G T BA GA TA mo) H := hP
  have hD : va_D A (wMod cA h mm 0 dy co ti ro n nb B G T BA GA TA mo) := hD
  refine lv_aload_n hx hb dX5_would_5 rfl (lv_at hl 0 rfl) ?_
  refine lv_iload_n hx hb dX5_would_6 rfl (lv_at hl 1 rfl) ?_
  refine goI ([]) ([(mm 0, I_ cA 64 (pkB B)), (mm 1, I_ cA 15 (pkG G)), (mm 2, I_ cA 3 T), (mm 3, I_ cA 64 (pkB BA)), (mm 4, I_ cA 15 (pkG GA)), (mm 5, I_ cA 3 TA), (mm 6, I_ cA 8 mo)]) hP hD hS hA (rnV (rest := []) (m_isBarge sa tb D cA cL l h mm 0 dy co ti ro n nb x ) ([]) ([(mm 0, I_ cA 64 (pkB B)), (mm 1, I_ cA 15 (pkG G)), (mm 2, I_ cA 3 T), (mm 3, I_ cA 64 (pkB BA)), (mm 4, I_ cA 15 (pkG GA)), (mm 5, I_ cA 3 TA), (mm 6, I_ cA 8 mo)]) hP hD hS hA hE ⟨hx, hb, hml, hown, hts⟩ (cwV 1 hts gX5_would_X5_isBarge rfl rfl rfl (by decide +kernel) ⟨(Nat.le_of_ble_eq_true rfl), (Nat.le_of_ble_eq_true rfl)⟩) 5 0 rfl rfl rfl rfl hl.1 rfl (Nat.le_of_ble_eq_true rfl) dX5_would_7 ⟨(Nat.le_of_ble_eq_true rfl), (Nat.le_of_ble_eq_true rfl)⟩) (fun _ => rfl) (fun r_7 u_7 H locs hw_7 hP hD hS => ?_)
  have hP : va_P D vwCl (wMod cA h mm 0 dy co ti ro n nb B G T BA GA TA mo) H := hP
  have hD : va_D A (wMod cA h mm 0 dy co ti ro n nb B G T BA GA TA mo) := hD
  obtain rfl : r_7 = bI (isInB x 0 (nI nb - 1)) := hw_7
  refine lv_if_eq (tgt := 31) hx hb dX5_would_10 (by decide) (fun c_10 => ?_) (fun c_10 => False.elim (by exact c_10 (congrArg bI (isBed_no hb0 (by omega)))))
  refine lv_aload_n hx hb dX5_would_31 rfl (lv_at hl 0 rfl) ?_
  refine lv_iconst (v := 1) hx hb dX5_would_32 (by decide) ?_
  refine goI ([]) ([(mm 0, I_ cA 64 (pkB B)), (mm 1, I_ cA 15 (pkG G)), (mm 2, I_ cA 3 T), (mm 3, I_ cA 64 (pkB BA)), (mm 4, I_ cA 15 (pkG GA)), (mm 5, I_ cA 3 TA), (mm 6, I_ cA 8 mo)]) hP hD hS hA (rnV (rest := []) (m_no sa tb D cA cL l h mm 0 dy co ti ro n nb 1 ) ([]) ([(mm 0, I_ cA 64 (pkB B)), (mm 1, I_ cA 15 (pkG G)), (mm 2, I_ cA 3 T), (mm 3, I_ cA 64 (pkB BA)), (mm 4, I_ cA 15 (pkG GA)), (mm 5, I_ cA 3 TA), (mm 6, I_ cA 8 mo)]) hP hD hS hA hE ⟨hx, hb, hml, hown, hts⟩ (cwV 1 hts gX5_would_X5_no rfl rfl rfl (by decide +kernel) ⟨(Nat.le_of_ble_eq_true rfl), (Nat.le_of_ble_eq_true rfl)⟩) 5 0 rfl rfl rfl rfl hl.1 rfl (Nat.le_of_ble_eq_true rfl) dX5_would_33 ⟨(Nat.le_of_ble_eq_true rfl), (Nat.le_of_ble_eq_true rfl)⟩) (fun _ => (show List.map Prod.fst _ = [h] from rfl).trans (show [h] = List.map Prod.fst _ from rfl)) (fun r_33 u_33 H locs hw_33 hP hD hS => ?_)
  have hP : va_P D vwCl (wMod cA h mm 1 dy co ti ro n nb B G T BA GA TA mo) H := hP
  have hD : va_D A (wMod cA h mm 1 dy co ti ro n nb B G T BA GA TA mo) := hD
  obtain rfl : r_33 = 0 := hw_33
  exact enI () hx hb hr hlocks hS hP (rfl) dX5_would_36
set_option maxRecDepth 100000 in
set_option maxHeartbeats 4000000 in
theorem m_would_2 (sa tb : Nat → Nat) (D : va_G) (cA cL : ClassId) (l : Launch) (h : Nat) (mm : Nat → Nat) (th : Int32) (dy : Int32) (co : Int32) (ti : Int32) (ro : Int32) (n : Nat) (nb : Nat) (B : Nat → Nat → Int32) (G : Nat → Nat → Int32) (T : Nat → Int32) (BA : Nat → Nat → Int32) (GA : Nat → Nat → Int32) (TA : Nat → Int32) (mo : Nat → Int32) (k : Nat) (y : Int32) (hk : k < nb) (hnb : nb ≤ 3) (hb1 : y < 0 ∨ ¬ y < 3) : KM sa tb D cA cL l yX5_would wsX5_would ({ frames := 2, cells := 0, slots := 0, locals := 43 }) [.ref h, .int (nI k), .int y] (wMod cA h mm th dy co ti ro n nb B G T BA GA TA mo) (qI D (fun (r : Int32) (_ : Unit) => r = 0) (fun _ => wMod cA h mm 1 dy co ti ro n nb B G T BA GA TA mo)) := by
  refine KM.of (cc := cX5_would) (maxL := 3) (ret := some .int) (by decide) rfl (Nat.le_of_ble_eq_true rfl) ?_
  intro pg e s m args below meth c A hx hb hr hml hlocks hts hown hS hA hE hP hD ls hl
  have hown : s.vm.findClass RX5 = some m.cls := hown
  have hl : lv_has ls 3 [(0, .ref h), (1, .int (nI k)), (2, .int y)] := hl
  have hwX5 : ∀ w ∈ wsX50, w ∈ wsX5_would := (fun _ h => List.mem_cons_of_mem _ (List.mem_append_right _ h))
  refine lv_aload_n hx hb dX5_would_0 rfl (lv_at hl 0 rfl) ?_
  refine lv_iconst (v := 0) hx hb dX5_would_1 (by decide) ?_
  refine va_put (D := D) (ci := 5) (v := .int 0) (ty := .int) (C := RX5) (T := TX5) (N := 14) hx hb hts hwX5 tyX5 tyX5_ok nmX5 hown hE.K hP hD hS 0 rfl rfl 0 (by decide) (hts (.fieldLink RX5 38 "SedgeBargesModel" "thrown" "I") (List.mem_of_getElem? (i := 1) rfl)) (fun _ h9 => h9) rfl (by decide +kernel) rfl rfl (Nat.le_of_ble_eq_true rfl) dX5_would_2 (fun H locs hP hD hS => ?_)
  have hP : va_P D vwCl (wMod cA h mm 0 dy co ti ro n nb B G T BA GA TA mo) H := hP
  have hD : va_D A (wMod cA h mm 0 dy co ti ro n nb B G T BA GA TA mo) := hD
  refine lv_aload_n hx hb dX5_would_5 rfl (lv_at hl 0 rfl) ?_
  refine lv_iload_n hx hb dX5_would_6 rfl (lv_at hl 1 rfl) ?_
  refine goI ([]) ([(mm 0, I_ cA 64 (pkB B)), (mm 1, I_ cA 15 (pkG G)), (mm 2, I_ cA 3 T), (mm 3, I_ cA 64 (pkB BA)), (mm 4, I_ cA 15 (pkG GA)), (mm 5, I_ cA 3 TA), (mm 6, I_ cA 8 mo)]) hP hD hS hA (rnV (rest := []) (m_isBarge sa tb D cA cL l h mm 0 dy co ti ro n nb (nI k) ) ([]) ([(mm 0, I_ cA 64 (pkB B)), (mm 1, I_ cA 15 (pkG G)), (mm 2, I_ cA 3 T), (mm 3, I_ cA 64 (pkB BA)), (mm 4, I_ cA 15 (pkG GA)), (mm 5, I_ cA 3 TA), (mm 6, I_ cA 8 mo)]) hP hD hS hA hE ⟨hx, hb, hml, hown, hts⟩ (cwV 1 hts gX5_would_X5_isBarge rfl rfl rfl (by decide +kernel) ⟨(Nat.le_of_ble_eq_true rfl), (Nat.le_of_ble_eq_true rfl)⟩) 5 0 rfl rfl rfl rfl hl.1 rfl (Nat.le_of_ble_eq_true rfl) dX5_would_7 ⟨(Nat.le_of_ble_eq_true rfl), (Nat.le_of_ble_eq_true rfl)⟩) (fun _ => rfl) (fun r_7 u_7 H locs hw_7 hP hD hS => ?_)
  have hP : va_P D vwCl (wMod cA h mm 0 dy co ti ro n nb B G T BA GA TA mo) H := hP
  have hD : va_D A (wMod cA h mm 0 dy co ti ro n nb B G T BA GA TA mo) := hD
  obtain rfl : r_7 = bI (isInB (nI k) 0 (nI nb - 1)) := hw_7
  refine lv_if_eq (tgt := 31) hx hb dX5_would_10 (by decide) (fun c_10 => False.elim (by exact absurd ((bI0 c_10).symm.trans (isBed_yes hk (by omega))) (by decide))) (fun c_10 => ?_)
  refine lv_iload_n hx hb dX5_would_13 rfl (lv_at hl 2 rfl) ?_
  refine lv_iconst (v := 0) hx hb dX5_would_14 (by decide) ?_
  refine lv_iconst (v := 2) hx hb dX5_would_15 (by decide) ?_
  refine goI ([]) (wMod cA h mm 0 dy co ti ro n nb B G T BA GA TA mo) hP hD hS hA (rnS (rest := []) (m_isIn sa tb D cA cL l y 0 2 ) ([]) (wMod cA h mm 0 dy co ti ro n nb B G T BA GA TA mo) hP hD hS hA hE ⟨hx, hb, hml, hown, hts⟩ (va_cwS 3 hts gX5_would_X5_isIn rfl rfl rfl (by decide +kernel) ⟨(Nat.le_of_ble_eq_true rfl), (Nat.le_of_ble_eq_true rfl)⟩) rfl hl.1 rfl (Nat.le_of_ble_eq_true rfl) dX5_would_16 ⟨(Nat.le_of_ble_eq_true rfl), (Nat.le_of_ble_eq_true rfl)⟩) (fun _ => rfl) (fun r_16 u_16 H locs hw_16 hP hD hS => ?_)
  have hP : va_P D vwCl (wMod cA h mm 0 dy co ti ro n nb B G T BA GA TA mo) H := hP
  have hD : va_D A (wMod cA h mm 0 dy co ti ro n nb B G T BA GA TA mo) := hD
  obtain rfl : r_16 = bI (isInB y 0 2) := hw_16
  refine lv_if_eq (tgt := 31) hx hb dX5_would_19 (by decide) (fun c_19 => ?_) (fun c_19 => False.elim (by exact c_19 (congrArg bI (isIn_no (lt_le (by decide) hb1)))))
  refine lv_aload_n hx hb dX5_would_31 rfl (lv_at hl 0 rfl) ?_
  refine lv_iconst (v := 1) hx hb dX5_would_32 (by decide) ?_
  refine goI ([]) ([(mm 0, I_ cA 64 (pkB B)), (mm 1, I_ cA 15 (pkG G)), (mm 2, I_ cA 3 T), (mm 3, I_ cA 64 (pkB BA)), (mm 4, I_ cA 15 (pkG GA)), (mm 5, I_ cA 3 TA), (mm 6, I_ cA 8 mo)]) hP hD hS hA (rnV (rest := []) (m_no sa tb D cA cL l h mm 0 dy co ti ro n nb 1 ) ([]) ([(mm 0, I_ cA 64 (pkB B)), (mm 1, I_ cA 15 (pkG G)), (mm 2, I_ cA 3 T), (mm 3, I_ cA 64 (pkB BA)), (mm 4, I_ cA 15 (pkG GA)), (mm 5, I_ cA 3 TA), (mm 6, I_ cA 8 mo)]) hP hD hS hA hE ⟨hx, hb, hml, hown, hts⟩ (cwV 1 hts gX5_would_X5_no rfl rfl rfl (by decide +kernel) ⟨(Nat.le_of_ble_eq_true rfl), (Nat.le_of_ble_eq_true rfl)⟩) 5 0 rfl rfl rfl rfl hl.1 rfl (Nat.le_of_ble_eq_true rfl) dX5_would_33 ⟨(Nat.le_of_ble_eq_true rfl), (Nat.le_of_ble_eq_true rfl)⟩) (fun _ => (show List.map Prod.fst _ = [h] from rfl).trans (show [h] = List.map Prod.fst _ from rfl)) (fun r_33 u_33 H locs hw_33 hP hD hS => ?_)
  have hP : va_P D vwCl (wMod cA h mm 1 dy co ti ro n nb B G T BA GA TA mo) H := hP
  have hD : va_D A (wMod cA h mm 1 dy co ti ro n nb B G T BA GA TA mo) := hD
  obtain rfl : r_33 = 0 := hw_33
  exact enI () hx hb hr hlocks hS hP (rfl) dX5_would_36
set_option maxRecDepth 100000 in
set_option maxHeartbeats 4000000 in
theorem m_advise (sa tb : Nat → Nat) (D : va_G) (cA cL : ClassId) (l : Launch) (h : Nat) (mm : Nat → Nat) (th : Int32) (dy : Int32) (co : Int32) (ti : Int32) (ro : Int32) (n : Nat) (nb : Nat) (B : Nat → Nat → Int32) (G : Nat → Nat → Int32) (T : Nat → Int32) (BA : Nat → Nat → Int32) (GA : Nat → Nat → Int32) (TA : Nat → Int32) (mo : Nat → Int32) (k : Nat) (hk : k < nb) (hnb : nb ≤ 3) (hpl : ∃ p, p < 31 ∧ G 0 k = nI p) : KM sa tb D cA cL l yX5_advise wsX5_advise ({ frames := 5, cells := 0, slots := 0, locals := 113 }) [.ref h, .int (nI k)] (wMod cA h mm th dy co ti ro n nb B G T BA GA TA mo) (qI D (fun (r : Int32) (_ : Unit) => r = advF G T k) (fun _ => wMod cA h mm 0 dy co ti ro n nb B G T BA GA TA mo)) := by
  refine KM.of (cc := cX5_advise) (maxL := 4) (ret := some .int) (by decide) rfl (Nat.le_of_ble_eq_true rfl) ?_
  intro pg e s m args below meth c A hx hb hr hml hlocks hts hown hS hA hE hP hD ls hl
  have hown : s.vm.findClass RX5 = some m.cls := hown
  have hl : lv_has ls 4 [(0, .ref h), (1, .int (nI k))] := hl
  have hwX5 : ∀ w ∈ wsX50, w ∈ wsX5_advise := (fun _ h => List.mem_cons_of_mem _ (List.mem_append_right _ h))
  refine lv_aload_n hx hb dX5_advise_0 rfl (lv_at hl 0 rfl) ?_
  refine lv_iconst (v := 0) hx hb dX5_advise_1 (by decide) ?_
  refine va_put (D := D) (ci := 5) (v := .int 0) (ty := .int) (C := RX5) (T := TX5) (N := 14) hx hb hts hwX5 tyX5 tyX5_ok nmX5 hown hE.K hP hD hS 0 rfl rfl 0 (by decide) (hts (.fieldLink RX5 38 "SedgeBargesModel" "thrown" "I") (List.mem_of_getElem? (i := 1) rfl)) (fun _ h9 => h9) rfl (by decide +kernel) rfl rfl (Nat.le_of_ble_eq_true rfl) dX5_advise_2 (fun H locs hP hD hS => ?_)
  have hP : va_P D vwCl (wMod cA h mm 0 dy co ti ro n nb B G T BA GA TA mo) H := hP
  have hD : va_D A (wMod cA h mm 0 dy co ti ro n nb B G T BA GA TA mo) := hD
  refine lv_aload_n hx hb dX5_advise_5 rfl (lv_at hl 0 rfl) ?_
  refine lv_iload_n hx hb dX5_advise_6 rfl (lv_at hl 1 rfl) ?_
  refine goI ([]) ([(mm 0, I_ cA 64 (pkB B)), (mm 1, I_ cA 15 (pkG G)), (mm 2, I_ cA 3 T), (mm 3, I_ cA 64 (pkB BA)), (mm 4, I_ cA 15 (pkG GA)), (mm 5, I_ cA 3 TA), (mm 6, I_ cA 8 mo)]) hP hD hS hA (rnV (rest := []) (m_isBarge sa tb D cA cL l h mm 0 dy co ti ro n nb (nI k) ) ([]) ([(mm 0, I_ cA 64 (pkB B)), (mm 1, I_ cA 15 (pkG G)), (mm 2, I_ cA 3 T), (mm 3, I_ cA 64 (pkB BA)), (mm 4, I_ cA 15 (pkG GA)), (mm 5, I_ cA 3 TA), (mm 6, I_ cA 8 mo)]) hP hD hS hA hE ⟨hx, hb, hml, hown, hts⟩ (cwV 1 hts gX5_advise_X5_isBarge rfl rfl rfl (by decide +kernel) ⟨(Nat.le_of_ble_eq_true rfl), (Nat.le_of_ble_eq_true rfl)⟩) 5 0 rfl rfl rfl rfl hl.1 rfl (Nat.le_of_ble_eq_true rfl) dX5_advise_7 ⟨(Nat.le_of_ble_eq_true rfl), (Nat.le_of_ble_eq_true rfl)⟩) (fun _ => rfl) (fun r_7 u_7 H locs hw_7 hP hD hS => ?_)
  have hP : va_P D vwCl (wMod cA h mm 0 dy co ti ro n nb B G T BA GA TA mo) H := hP
  have hD : va_D A (wMod cA h mm 0 dy co ti ro n nb B G T BA GA TA mo) := hD
  obtain rfl : r_7 = bI (isInB (nI k) 0 (nI nb - 1)) := hw_7
  refine lv_if_ne (tgt := 19) hx hb dX5_advise_10 (by decide) (fun c_10 => ?_) (fun c_10 => False.elim (by exact absurd ((bI0 c_10).symm.trans (isBed_yes hk (by omega))) (by decide)))
  refine lv_iconst (v := 0) hx hb dX5_advise_19 (by decide) ?_
  refine lv_istore_n (lv' := [(2, .int 0), (0, .ref h), (1, .int (nI k))]) hx hb dX5_advise_20 rfl hl (by decide) rfl (fun ls hl => ?_)
  refine lv_iconst (v := 1) hx hb dX5_advise_21 (by decide) ?_
  refine lv_istore_n (lv' := [(3, .int 1), (2, .int 0), (0, .ref h), (1, .int (nI k))]) hx hb dX5_advise_22 rfl hl (by decide) rfl (fun ls hl => ?_)
  refine lv_iload_n hx hb dX5_advise_23 rfl (lv_at hl 0 rfl) ?_
  refine lv_iconst (v := 3) hx hb dX5_advise_24 (by decide) ?_
  refine lv_icmp_ge (tgt := 51) hx hb dX5_advise_25 (by decide) (fun q => absurd q (by decide)) (fun _ => ?_)
  refine lv_aload_n hx hb dX5_advise_28 rfl (lv_at hl 2 rfl) ?_
  refine lv_iload_n hx hb dX5_advise_29 rfl (lv_at hl 3 rfl) ?_
  refine lv_iload_n hx hb dX5_advise_30 rfl (lv_at hl 0 rfl) ?_
  refine goI ([]) ([]) hP hD hS hA (rnV (rest := []) (m_wouldBring sa tb D cA cL l h mm 0 dy co ti ro n nb B G T BA GA TA mo k 1 (show k < 3 from by first | omega | assumption | decide) (show 1 < 3 from by first | omega | assumption | decide) (show ∃ p, p < 31 ∧ G 0 k = nI p from by first | omega | assumption | decide)) ([]) ([]) hP hD hS hA hE ⟨hx, hb, hml, hown, hts⟩ (cwV 2 hts gX5_advise_X5_wouldBring rfl rfl rfl (by decide +kernel) ⟨(Nat.le_of_ble_eq_true rfl), (Nat.le_of_ble_eq_true rfl)⟩) 5 0 rfl rfl rfl rfl hl.1 rfl (Nat.le_of_ble_eq_true rfl) dX5_advise_31 ⟨(Nat.le_of_ble_eq_true rfl), (Nat.le_of_ble_eq_true rfl)⟩) (fun _ => rfl) (fun r_31 u_31 H locs hw_31 hP hD hS => ?_)
  have hP : va_P D vwCl (wMod cA h mm 0 dy co ti ro n nb B G T BA GA TA mo) H := hP
  have hD : va_D A (wMod cA h mm 0 dy co ti ro n nb B G T BA GA TA mo) := hD
  obtain rfl : r_31 = wouldV G T k 1 := hw_31
  refine lv_aload_n hx hb dX5_advise_34 rfl (lv_at hl 2 rfl) ?_
  refine lv_iload_n hx hb dX5_advise_35 rfl (lv_at hl 3 rfl) ?_
  refine lv_iload_n hx hb dX5_advise_36 rfl (lv_at hl 1 rfl) ?_
  refine goI ([]) ([]) hP hD hS hA (rnV (rest := [.int (wouldV G T k 1)]) (m_wouldBring sa tb D cA cL l h mm 0 dy co ti ro n nb B G T BA GA TA mo k 0 (show k < 3 from by first | omega | assumption | decide) (show 0 < 3 from by first | omega | assumption | decide) (show ∃ p, p < 31 ∧ G 0 k = nI p from by first | omega | assumption | decide)) ([]) ([]) hP hD hS hA hE ⟨hx, hb, hml, hown, hts⟩ (cwV 2 hts gX5_advise_X5_wouldBring rfl rfl rfl (by decide +kernel) ⟨(Nat.le_of_ble_eq_true rfl), (Nat.le_of_ble_eq_true rfl)⟩) 5 0 rfl rfl rfl rfl hl.1 rfl (Nat.le_of_ble_eq_true rfl) dX5_advise_37 ⟨(Nat.le_of_ble_eq_true rfl), (Nat.le_of_ble_eq_true rfl)⟩) (fun _ => rfl) (fun r_37 u_37 H locs hw_37 hP hD hS => ?_)
  have hP : va_P D vwCl (wMod cA h mm 0 dy co ti ro n nb B G T BA GA TA mo) H := hP
  have hD : va_D A (wMod cA h mm 0 dy co ti ro n nb B G T BA GA TA mo) := hD
  obtain rfl : r_37 = wouldV G T k 0 := hw_37
  refine lv_icmp_le (tgt := 45) hx hb dX5_advise_40 (by decide) (fun c_40 => ?_) (fun c_40 => ?_)
  · refine lv_iinc (v := 2) (lv' := [(3, .int 2), (2, .int 0), (0, .ref h), (1, .int (nI k))]) (k := 0) hx hb dX5_advise_45 hl rfl (by decide) (by decide) rfl (fun ls hl => ?_)
    refine lv_goto (tgt := 23) hx hb dX5_advise_48 (by decide) ?_
    refine lv_iload_n hx hb dX5_advise_23 rfl (lv_at hl 0 rfl) ?_
    refine lv_iconst (v := 3) hx hb dX5_advise_24 (by decide) ?_
    refine lv_icmp_ge (tgt := 51) hx hb dX5_advise_25 (by decide) (fun q => absurd q (by decide)) (fun _ => ?_)
    refine lv_aload_n hx hb dX5_advise_28 rfl (lv_at hl 2 rfl) ?_
    refine lv_iload_n hx hb dX5_advise_29 rfl (lv_at hl 3 rfl) ?_
    refine lv_iload_n hx hb dX5_advise_30 rfl (lv_at hl 0 rfl) ?_
    refine goI ([]) ([]) hP hD hS hA (rnV (rest := []) (m_wouldBring sa tb D cA cL l h mm 0 dy co ti ro n nb B G T BA GA TA mo k 2 (show k < 3 from by first | omega | assumption | decide) (show 2 < 3 from by first | omega | assumption | decide) (show ∃ p, p < 31 ∧ G 0 k = nI p from by first | omega | assumption | decide)) ([]) ([]) hP hD hS hA hE ⟨hx, hb, hml, hown, hts⟩ (cwV 2 hts gX5_advise_X5_wouldBring rfl rfl rfl (by decide +kernel) ⟨(Nat.le_of_ble_eq_true rfl), (Nat.le_of_ble_eq_true rfl)⟩) 5 0 rfl rfl rfl rfl hl.1 rfl (Nat.le_of_ble_eq_true rfl) dX5_advise_31 ⟨(Nat.le_of_ble_eq_true rfl), (Nat.le_of_ble_eq_true rfl)⟩) (fun _ => rfl) (fun r_31 u_31 H locs hw_31 hP hD hS => ?_)
    have hP : va_P D vwCl (wMod cA h mm 0 dy co ti ro n nb B G T BA GA TA mo) H := hP
    have hD : va_D A (wMod cA h mm 0 dy co ti ro n nb B G T BA GA TA mo) := hD
    obtain rfl : r_31 = wouldV G T k 2 := hw_31
    refine lv_aload_n hx hb dX5_advise_34 rfl (lv_at hl 2 rfl) ?_
    refine lv_iload_n hx hb dX5_advise_35 rfl (lv_at hl 3 rfl) ?_
    refine lv_iload_n hx hb dX5_advise_36 rfl (lv_at hl 1 rfl) ?_
    refine goI ([]) ([]) hP hD hS hA (rnV (rest := [.int (wouldV G T k 2)]) (m_wouldBring sa tb D cA cL l h mm 0 dy co ti ro n nb B G T BA GA TA mo k 0 (show k < 3 from by first | omega | assumption | decide) (show 0 < 3 from by first | omega | assumption | decide) (show ∃ p, p < 31 ∧ G 0 k = nI p from by first | omega | assumption | decide)) ([]) ([]) hP hD hS hA hE ⟨hx, hb, hml, hown, hts⟩ (cwV 2 hts gX5_advise_X5_wouldBring rfl rfl rfl (by decide +kernel) ⟨(Nat.le_of_ble_eq_true rfl), (Nat.le_of_ble_eq_true rfl)⟩) 5 0 rfl rfl rfl rfl hl.1 rfl (Nat.le_of_ble_eq_true rfl) dX5_advise_37 ⟨(Nat.le_of_ble_eq_true rfl), (Nat.le_of_ble_eq_true rfl)⟩) (fun _ => rfl) (fun r_37 u_37 H locs hw_37 hP hD hS => ?_)
    have hP : va_P D vwCl (wMod cA h mm 0 dy co ti ro n nb B G T BA GA TA mo) H := hP
    have hD : va_D A (wMod cA h mm 0 dy co ti ro n nb B G T BA GA TA mo) := hD
    obtain rfl : r_37 = wouldV G T k 0 := hw_37
    refine lv_icmp_le (tgt := 45) hx hb dX5_advise_40 (by decide) (fun c_40_2 => ?_) (fun c_40_2 => ?_)
    · refine lv_iinc (v := 3) (lv' := [(3, .int 3), (2, .int 0), (0, .ref h), (1, .int (nI k))]) (k := 0) hx hb dX5_advise_45 hl rfl (by decide) (by decide) rfl (fun ls hl => ?_)
      refine lv_goto (tgt := 23) hx hb dX5_advise_48 (by decide) ?_
      refine lv_iload_n hx hb dX5_advise_23 rfl (lv_at hl 0 rfl) ?_
      refine lv_iconst (v := 3) hx hb dX5_advise_24 (by decide) ?_
      refine lv_icmp_ge (tgt := 51) hx hb dX5_advise_25 (by decide) (fun _ => ?_) (fun q => absurd (by decide) q)
      refine lv_iload_n hx hb dX5_advise_51 rfl (lv_at hl 1 rfl) ?_
      exact enI () hx hb hr hlocks hS hP (by unfold advF; first | exact ((if_pos c_40).trans (if_pos c_40_2)).symm | exact ((if_pos c_40).trans (if_neg c_40_2)).symm | exact ((if_neg c_40).trans (if_pos c_40_2)).symm | exact ((if_neg c_40).trans (if_neg c_40_2)).symm) dX5_advise_52
    · refine lv_iload_n hx hb dX5_advise_43 rfl (lv_at hl 0 rfl) ?_
      refine lv_istore_n (lv' := [(2, .int 2), (3, .int 2), (0, .ref h), (1, .int (nI k))]) hx hb dX5_advise_44 rfl hl (by decide) rfl (fun ls hl => ?_)
      refine lv_iinc (v := 3) (lv' := [(3, .int 3), (2, .int 2), (0, .ref h), (1, .int (nI k))]) (k := 1) hx hb dX5_advise_45 hl rfl (by decide) (by decide) rfl (fun ls hl => ?_)
      refine lv_goto (tgt := 23) hx hb dX5_advise_48 (by decide) ?_
      refine lv_iload_n hx hb dX5_advise_23 rfl (lv_at hl 0 rfl) ?_
      refine lv_iconst (v := 3) hx hb dX5_advise_24 (by decide) ?_
      refine lv_icmp_ge (tgt := 51) hx hb dX5_advise_25 (by decide) (fun _ => ?_) (fun q => absurd (by decide) q)
      refine lv_iload_n hx hb dX5_advise_51 rfl (lv_at hl 1 rfl) ?_
      exact enI () hx hb hr hlocks hS hP (by unfold advF; first | exact ((if_pos c_40).trans (if_pos c_40_2)).symm | exact ((if_pos c_40).trans (if_neg c_40_2)).symm | exact ((if_neg c_40).trans (if_pos c_40_2)).symm | exact ((if_neg c_40).trans (if_neg c_40_2)).symm) dX5_advise_52
  · refine lv_iload_n hx hb dX5_advise_43 rfl (lv_at hl 0 rfl) ?_
    refine lv_istore_n (lv' := [(2, .int 1), (3, .int 1), (0, .ref h), (1, .int (nI k))]) hx hb dX5_advise_44 rfl hl (by decide) rfl (fun ls hl => ?_)
    refine lv_iinc (v := 2) (lv' := [(3, .int 2), (2, .int 1), (0, .ref h), (1, .int (nI k))]) (k := 1) hx hb dX5_advise_45 hl rfl (by decide) (by decide) rfl (fun ls hl => ?_)
    refine lv_goto (tgt := 23) hx hb dX5_advise_48 (by decide) ?_
    refine lv_iload_n hx hb dX5_advise_23 rfl (lv_at hl 0 rfl) ?_
    refine lv_iconst (v := 3) hx hb dX5_advise_24 (by decide) ?_
    refine lv_icmp_ge (tgt := 51) hx hb dX5_advise_25 (by decide) (fun q => absurd q (by decide)) (fun _ => ?_)
    refine lv_aload_n hx hb dX5_advise_28 rfl (lv_at hl 2 rfl) ?_
    refine lv_iload_n hx hb dX5_advise_29 rfl (lv_at hl 3 rfl) ?_
    refine lv_iload_n hx hb dX5_advise_30 rfl (lv_at hl 0 rfl) ?_
    refine goI ([]) ([]) hP hD hS hA (rnV (rest := []) (m_wouldBring sa tb D cA cL l h mm 0 dy co ti ro n nb B G T BA GA TA mo k 2 (show k < 3 from by first | omega | assumption | decide) (show 2 < 3 from by first | omega | assumption | decide) (show ∃ p, p < 31 ∧ G 0 k = nI p from by first | omega | assumption | decide)) ([]) ([]) hP hD hS hA hE ⟨hx, hb, hml, hown, hts⟩ (cwV 2 hts gX5_advise_X5_wouldBring rfl rfl rfl (by decide +kernel) ⟨(Nat.le_of_ble_eq_true rfl), (Nat.le_of_ble_eq_true rfl)⟩) 5 0 rfl rfl rfl rfl hl.1 rfl (Nat.le_of_ble_eq_true rfl) dX5_advise_31 ⟨(Nat.le_of_ble_eq_true rfl), (Nat.le_of_ble_eq_true rfl)⟩) (fun _ => rfl) (fun r_31 u_31 H locs hw_31 hP hD hS => ?_)
    have hP : va_P D vwCl (wMod cA h mm 0 dy co ti ro n nb B G T BA GA TA mo) H := hP
    have hD : va_D A (wMod cA h mm 0 dy co ti ro n nb B G T BA GA TA mo) := hD
    obtain rfl : r_31 = wouldV G T k 2 := hw_31
    refine lv_aload_n hx hb dX5_advise_34 rfl (lv_at hl 2 rfl) ?_
    refine lv_iload_n hx hb dX5_advise_35 rfl (lv_at hl 3 rfl) ?_
    refine lv_iload_n hx hb dX5_advise_36 rfl (lv_at hl 1 rfl) ?_
    refine goI ([]) ([]) hP hD hS hA (rnV (rest := [.int (wouldV G T k 2)]) (m_wouldBring sa tb D cA cL l h mm 0 dy co ti ro n nb B G T BA GA TA mo k 1 (show k < 3 from by first | omega | assumption | decide) (show 1 < 3 from by first | omega | assumption | decide) (show ∃ p, p < 31 ∧ G 0 k = nI p from by first | omega | assumption | decide)) ([]) ([]) hP hD hS hA hE ⟨hx, hb, hml, hown, hts⟩ (cwV 2 hts gX5_advise_X5_wouldBring rfl rfl rfl (by decide +kernel) ⟨(Nat.le_of_ble_eq_true rfl), (Nat.le_of_ble_eq_true rfl)⟩) 5 0 rfl rfl rfl rfl hl.1 rfl (Nat.le_of_ble_eq_true rfl) dX5_advise_37 ⟨(Nat.le_of_ble_eq_true rfl), (Nat.le_of_ble_eq_true rfl)⟩) (fun _ => rfl) (fun r_37 u_37 H locs hw_37 hP hD hS => ?_)
    have hP : va_P D vwCl (wMod cA h mm 0 dy co ti ro n nb B G T BA GA TA mo) H := hP
    have hD : va_D A (wMod cA h mm 0 dy co ti ro n nb B G T BA GA TA mo) := hD
    obtain rfl : r_37 = wouldV G T k 1 := hw_37
    refine lv_icmp_le (tgt := 45) hx hb dX5_advise_40 (by decide) (fun c_40_2 => ?_) (fun c_40_2 => ?_)
    · refine lv_iinc (v := 3) (lv' := [(3, .int 3), (2, .int 1), (0, .ref h), (1, .int (nI k))]) (k := 0) hx hb dX5_advise_45 hl rfl (by decide) (by decide) rfl (fun ls hl => ?_)
      refine lv_goto (tgt := 23) hx hb dX5_advise_48 (by decide) ?_
      refine lv_iload_n hx hb dX5_advise_23 rfl (lv_at hl 0 rfl) ?_
      refine lv_iconst (v := 3) hx hb dX5_advise_24 (by decide) ?_
      refine lv_icmp_ge (tgt := 51) hx hb dX5_advise_25 (by decide) (fun _ => ?_) (fun q => absurd (by decide) q)
      refine lv_iload_n hx hb dX5_advise_51 rfl (lv_at hl 1 rfl) ?_
      exact enI () hx hb hr hlocks hS hP (by unfold advF; first | exact ((if_pos c_40).trans (if_pos c_40_2)).symm | exact ((if_pos c_40).trans (if_neg c_40_2)).symm | exact ((if_neg c_40).trans (if_pos c_40_2)).symm | exact ((if_neg c_40).trans (if_neg c_40_2)).symm) dX5_advise_52
    · refine lv_iload_n hx hb dX5_advise_43 rfl (lv_at hl 0 rfl) ?_
      refine lv_istore_n (lv' := [(2, .int 2), (3, .int 2), (0, .ref h), (1, .int (nI k))]) hx hb dX5_advise_44 rfl hl (by decide) rfl (fun ls hl => ?_)
      refine lv_iinc (v := 3) (lv' := [(3, .int 3), (2, .int 2), (0, .ref h), (1, .int (nI k))]) (k := 1) hx hb dX5_advise_45 hl rfl (by decide) (by decide) rfl (fun ls hl => ?_)
      refine lv_goto (tgt := 23) hx hb dX5_advise_48 (by decide) ?_
      refine lv_iload_n hx hb dX5_advise_23 rfl (lv_at hl 0 rfl) ?_
      refine lv_iconst (v := 3) hx hb dX5_advise_24 (by decide) ?_
      refine lv_icmp_ge (tgt := 51) hx hb dX5_advise_25 (by decide) (fun _ => ?_) (fun q => absurd (by decide) q)
      refine lv_iload_n hx hb dX5_advise_51 rfl (lv_at hl 1 rfl) ?_
      exact enI () hx hb hr hlocks hS hP (by unfold advF; first | exact ((if_pos c_40).trans (if_pos c_40_2)).symm | exact ((if_pos c_40).trans (if_neg c_40_2)).symm | exact ((if_neg c_40).trans (if_pos c_40_2)).symm | exact ((if_neg c_40).trans (if_neg c_40_2)).symm) dX5_advise_52
set_option maxRecDepth 100000 in
set_option maxHeartbeats 4000000 in
theorem m_advise_1 (sa tb : Nat → Nat) (D : va_G) (cA cL : ClassId) (l : Launch) (h : Nat) (mm : Nat → Nat) (th : Int32) (dy : Int32) (co : Int32) (ti : Int32) (ro : Int32) (n : Nat) (nb : Nat) (B : Nat → Nat → Int32) (G : Nat → Nat → Int32) (T : Nat → Int32) (BA : Nat → Nat → Int32) (GA : Nat → Nat → Int32) (TA : Nat → Int32) (mo : Nat → Int32) (x : Int32) (hb0 : x < 0 ∨ ¬ x < nI nb) (hnb : nb ≤ 3) : KM sa tb D cA cL l yX5_advise wsX5_advise ({ frames := 2, cells := 0, slots := 0, locals := 43 }) [.ref h, .int x] (wMod cA h mm th dy co ti ro n nb B G T BA GA TA mo) (qI D (fun (r : Int32) (_ : Unit) => r = 0) (fun _ => wMod cA h mm 1 dy co ti ro n nb B G T BA GA TA mo)) := by
  refine KM.of (cc := cX5_advise) (maxL := 4) (ret := some .int) (by decide) rfl (Nat.le_of_ble_eq_true rfl) ?_
  intro pg e s m args below meth c A hx hb hr hml hlocks hts hown hS hA hE hP hD ls hl
  have hown : s.vm.findClass RX5 = some m.cls := hown
  have hl : lv_has ls 4 [(0, .ref h), (1, .int x)] := hl
  have hwX5 : ∀ w ∈ wsX50, w ∈ wsX5_advise := (fun _ h => List.mem_cons_of_mem _ (List.mem_append_right _ h))
  refine lv_aload_n hx hb dX5_advise_0 rfl (lv_at hl 0 rfl) ?_
  refine lv_iconst (v := 0) hx hb dX5_advise_1 (by decide) ?_
  refine va_put (D := D) (ci := 5) (v := .int 0) (ty := .int) (C := RX5) (T := TX5) (N := 14) hx hb hts hwX5 tyX5 tyX5_ok nmX5 hown hE.K hP hD hS 0 rfl rfl 0 (by decide) (hts (.fieldLink RX5 38 "SedgeBargesModel" "thrown" "I") (List.mem_of_getElem? (i := 1) rfl)) (fun _ h9 => h9) rfl (by decide +kernel) rfl rfl (Nat.le_of_ble_eq_true rfl) dX5_advise_2 (fun H locs hP hD hS => ?_)
  have hP : va_P D vwCl (wMod cA h mm 0 dy co ti ro n nb B G T BA GA TA mo) H := hP
  have hD : va_D A (wMod cA h mm 0 dy co ti ro n nb B G T BA GA TA mo) := hD
  refine lv_aload_n hx hb dX5_advise_5 rfl (lv_at hl 0 rfl) ?_
  refine lv_iload_n hx hb dX5_advise_6 rfl (lv_at hl 1 rfl) ?_
  refine goI ([]) ([(mm 0, I_ cA 64 (pkB B)), (mm 1, I_ cA 15 (pkG G)), (mm 2, I_ cA 3 T), (mm 3, I_ cA 64 (pkB BA)), (mm 4, I_ cA 15 (pkG GA)), (mm 5, I_ cA 3 TA), (mm 6, I_ cA 8 mo)]) hP hD hS hA (rnV (rest := []) (m_isBarge sa tb D cA cL l h mm 0 dy co ti ro n nb x ) ([]) ([(mm 0, I_ cA 64 (pkB B)), (mm 1, I_ cA 15 (pkG G)), (mm 2, I_ cA 3 T), (mm 3, I_ cA 64 (pkB BA)), (mm 4, I_ cA 15 (pkG GA)), (mm 5, I_ cA 3 TA), (mm 6, I_ cA 8 mo)]) hP hD hS hA hE ⟨hx, hb, hml, hown, hts⟩ (cwV 1 hts gX5_advise_X5_isBarge rfl rfl rfl (by decide +kernel) ⟨(Nat.le_of_ble_eq_true rfl), (Nat.le_of_ble_eq_true rfl)⟩) 5 0 rfl rfl rfl rfl hl.1 rfl (Nat.le_of_ble_eq_true rfl) dX5_advise_7 ⟨(Nat.le_of_ble_eq_true rfl), (Nat.le_of_ble_eq_true rfl)⟩) (fun _ => rfl) (fun r_7 u_7 H locs hw_7 hP hD hS => ?_)
  have hP : va_P D vwCl (wMod cA h mm 0 dy co ti ro n nb B G T BA GA TA mo) H := hP
  have hD : va_D A (wMod cA h mm 0 dy co ti ro n nb B G T BA GA TA mo) := hD
  obtain rfl : r_7 = bI (isInB x 0 (nI nb - 1)) := hw_7
  refine lv_if_ne (tgt := 19) hx hb dX5_advise_10 (by decide) (fun c_10 => False.elim (by exact c_10 (congrArg bI (isBed_no hb0 (by omega))))) (fun c_10 => ?_)
  refine lv_aload_n hx hb dX5_advise_13 rfl (lv_at hl 0 rfl) ?_
  refine lv_iconst (v := 1) hx hb dX5_advise_14 (by decide) ?_
  refine goI ([]) ([(mm 0, I_ cA 64 (pkB B)), (mm 1, I_ cA 15 (pkG G)), (mm 2, I_ cA 3 T), (mm 3, I_ cA 64 (pkB BA)), (mm 4, I_ cA 15 (pkG GA)), (mm 5, I_ cA 3 TA), (mm 6, I_ cA 8 mo)]) hP hD hS hA (rnV (rest := []) (m_no sa tb D cA cL l h mm 0 dy co ti ro n nb 1 ) ([]) ([(mm 0, I_ cA 64 (pkB B)), (mm 1, I_ cA 15 (pkG G)), (mm 2, I_ cA 3 T), (mm 3, I_ cA 64 (pkB BA)), (mm 4, I_ cA 15 (pkG GA)), (mm 5, I_ cA 3 TA), (mm 6, I_ cA 8 mo)]) hP hD hS hA hE ⟨hx, hb, hml, hown, hts⟩ (cwV 1 hts gX5_advise_X5_no rfl rfl rfl (by decide +kernel) ⟨(Nat.le_of_ble_eq_true rfl), (Nat.le_of_ble_eq_true rfl)⟩) 5 0 rfl rfl rfl rfl hl.1 rfl (Nat.le_of_ble_eq_true rfl) dX5_advise_15 ⟨(Nat.le_of_ble_eq_true rfl), (Nat.le_of_ble_eq_true rfl)⟩) (fun _ => (show List.map Prod.fst _ = [h] from rfl).trans (show [h] = List.map Prod.fst _ from rfl)) (fun r_15 u_15 H locs hw_15 hP hD hS => ?_)
  have hP : va_P D vwCl (wMod cA h mm 1 dy co ti ro n nb B G T BA GA TA mo) H := hP
  have hD : va_D A (wMod cA h mm 1 dy co ti ro n nb B G T BA GA TA mo) := hD
  obtain rfl : r_15 = 0 := hw_15
  exact enI () hx hb hr hlocks hS hP (rfl) dX5_advise_18
set_option maxRecDepth 100000 in
set_option maxHeartbeats 4000000 in
theorem m_sailOn (sa tb : Nat → Nat) (D : va_G) (cA cL : ClassId) (l : Launch) (h : Nat) (mm : Nat → Nat) (th : Int32) (dy : Int32) (co : Int32) (ti : Int32) (ro : Int32) (n : Nat) (nb : Nat) (xg : Nat) (G : Nat → Nat → Int32) (k : Nat) (hk : k < 3) (hgo : G 1 k = -1 ∨ ∃ p, p < 31 ∧ G 1 k = nI p) : KM sa tb D cA cL l yX5_sailOn wsX5_sailOn ({ frames := 1, cells := 0, slots := 0, locals := 24 }) [.ref h, .ref xg, .int (nI (5 * k))] ([oMod h mm th dy co ti ro n nb, (xg, I_ cA 15 (pkG G))]) (qV D (fun (_ : Unit) => True) (fun _ => [oMod h mm th dy co ti ro n nb, (xg, I_ cA 15 (pkG (sailK G k)))])) := by
  refine KM.of (cc := cX5_sailOn) (maxL := 5) (ret := none) (by decide) rfl (Nat.le_of_ble_eq_true rfl) ?_
  intro pg e s m args below meth c A hx hb hr hml hlocks hts hown hS hA hE hP hD ls hl
  have hown : s.vm.findClass RX5 = some m.cls := hown
  have hl : lv_has ls 5 [(0, .ref h), (1, .ref xg), (2, .int (nI (5 * k)))] := hl
  refine lv_aload_n hx hb dX5_sailOn_0 rfl (lv_at hl 1 rfl) ?_
  refine lv_iload_n hx hb dX5_sailOn_1 rfl (lv_at hl 2 rfl) ?_
  refine lv_iconst (v := 1) hx hb dX5_sailOn_2 (by decide) ?_
  refine rn_add (a := 5 * k) (b := 1) hx hb dX5_sailOn_3 ?_
  refine r_ald (f := pkG G) (v := G 1 k) hx hb hE hP 1 (5 * k + 1) rfl (congrArg nI (by omega)) (by omega) (by decide) (pkG_at 1 (k) (by decide)) dX5_sailOn_4 ?_
  refine lv_istore_n (lv' := [(3, .int (G 1 k)), (0, .ref h), (1, .ref xg), (2, .int (nI (5 * k)))]) hx hb dX5_sailOn_5 rfl hl (by decide) rfl (fun ls hl => ?_)
  refine lv_iload_n hx hb dX5_sailOn_6 rfl (lv_at hl 0 rfl) ?_
  refine lv_if_ge (tgt := 11) hx hb dX5_sailOn_7 (by decide) (fun c_7 => ?_) (fun c_7 => ?_)
  · refine lv_iload_n hx hb dX5_sailOn_11 rfl (lv_at hl 0 rfl) ?_
    refine lv_aload_n hx hb dX5_sailOn_12 rfl (lv_at hl 2 rfl) ?_
    refine lv_iload_n hx hb dX5_sailOn_13 rfl (lv_at hl 3 rfl) ?_
    refine r_ald (f := pkG G) (v := G 0 k) hx hb hE hP 1 (5 * k + 0) rfl (congrArg nI (by omega)) (by omega) (by decide) (pkG_at 0 (k) (by decide)) dX5_sailOn_14 ?_
    refine lv_isub hx hb dX5_sailOn_15 ?_
    refine lv_topi (fun z_1 hz_1 => ?_)
    refine lv_istore (lv' := [(4, .int z_1), (3, .int (G 1 k)), (0, .ref h), (1, .ref xg), (2, .int (nI (5 * k)))]) hx hb dX5_sailOn_16 hl (by decide) rfl (fun ls hl => ?_)
    refine lv_aload_n hx hb dX5_sailOn_18 rfl (lv_at hl 3 rfl) ?_
    refine lv_iload_n hx hb dX5_sailOn_19 rfl (lv_at hl 4 rfl) ?_
    refine lv_dup2_11 hx hb dX5_sailOn_20 rfl rfl ?_
    refine r_ald (f := pkG G) (v := G 0 k) hx hb hE hP 1 (5 * k + 0) rfl (congrArg nI (by omega)) (by omega) (by decide) (pkG_at 0 (k) (by decide)) dX5_sailOn_21 ?_
    refine lv_bipush (v := (-5)) hx hb dX5_sailOn_22 (by decide) ?_
    refine lv_iconst (v := 5) hx hb dX5_sailOn_24 (by decide) ?_
    refine lv_iload hx hb dX5_sailOn_25 (lv_at hl 0 rfl) ?_
    refine r_mmin hx hb (hml.trans hl.1.symm) hown (hts (.methodLink RX5 73 Lib.Math.min.name) (List.mem_of_getElem? (i := 1) rfl)) (hts (.static Lib.Math.min.name) (List.mem_of_getElem? (i := 2) rfl)) (hts (.initialized "java/lang/Math") (List.mem_of_getElem? (i := 3) rfl)) (hts (.code Lib.Math.min.name Lib.Math.min.code 2 (some .int)) (List.mem_of_getElem? (i := 4) rfl)) (Nat.le_of_ble_eq_true rfl) (Nat.le_of_ble_eq_true rfl) (Nat.le_of_ble_eq_true rfl) (Nat.le_of_ble_eq_true rfl) dX5_sailOn_27 ?_
    refine r_mmax hx hb (hml.trans hl.1.symm) hown (hts (.methodLink RX5 110 Lib.Math.max.name) (List.mem_of_getElem? (i := 5) rfl)) (hts (.static Lib.Math.max.name) (List.mem_of_getElem? (i := 6) rfl)) (hts (.initialized "java/lang/Math") (List.mem_of_getElem? (i := 3) rfl)) (hts (.code Lib.Math.max.name Lib.Math.max.code 2 (some .int)) (List.mem_of_getElem? (i := 7) rfl)) (Nat.le_of_ble_eq_true rfl) (Nat.le_of_ble_eq_true rfl) (Nat.le_of_ble_eq_true rfl) (Nat.le_of_ble_eq_true rfl) dX5_sailOn_30 ?_
    refine lv_iadd hx hb dX5_sailOn_33 ?_
    refine lv_topi (fun z_2 hz_2 => ?_)
    refine r_ast (f := pkG G) (g := pkG (st G 0 k z_2)) hx hb hE hP hD hS 1 (5 * k + 0) rfl (congrArg nI (by omega)) (by omega) (by decide) (pkG_up 0 (k) _ (by decide)) dX5_sailOn_34 (fun H locs hP hD hS => ?_)
    have hP : va_P D vwCl ([oMod h mm th dy co ti ro n nb, (xg, I_ cA 15 (pkG (st G 0 k z_2)))]) H := hP
    have hD : va_D A ([oMod h mm th dy co ti ro n nb, (xg, I_ cA 15 (pkG (st G 0 k z_2)))]) := hD
    generalize hG_3 : st G 0 k z_2 = G_3 at hP hD
    refine lv_aload_n hx hb dX5_sailOn_35 rfl (lv_at hl 3 rfl) ?_
    refine lv_iload_n hx hb dX5_sailOn_36 rfl (lv_at hl 4 rfl) ?_
    refine r_ald (f := pkG G_3) (v := G_3 0 k) hx hb hE hP 1 (5 * k + 0) rfl (congrArg nI (by omega)) (by omega) (by decide) (pkG_at 0 (k) (by decide)) dX5_sailOn_37 ?_
    refine lv_iload_n hx hb dX5_sailOn_38 rfl (lv_at hl 1 rfl) ?_
    refine lv_icmp_ne (tgt := 48) hx hb dX5_sailOn_39 (by decide) (fun c_39 => ?_) (fun c_39 => ?_)
    · subst hG_3
      subst hz_2
      subst hz_1
      have hW_G : sailK G k = (st G 0 k ((G 0 k) + (imax (-5) (imin 5 ((G 1 k) - (G 0 k)))))) := sK_1 (sailM_n c_7) rfl (fun q => c_39 ((sail_c0 rfl).trans q))
      rw [← hW_G] at hP
      exact enV () hx hb hr hlocks hS hP (trivial) dX5_sailOn_48
    · refine lv_aload_n hx hb dX5_sailOn_42 rfl (lv_at hl 3 rfl) ?_
      refine lv_iload_n hx hb dX5_sailOn_43 rfl (lv_at hl 4 rfl) ?_
      refine lv_iconst (v := 1) hx hb dX5_sailOn_44 (by decide) ?_
      refine rn_add (a := 5 * k) (b := 1) hx hb dX5_sailOn_45 ?_
      refine lv_iconst (v := (-1)) hx hb dX5_sailOn_46 (by decide) ?_
      refine r_ast (f := pkG G_3) (g := pkG (st G_3 1 k (-1))) hx hb hE hP hD hS 1 (5 * k + 1) rfl (congrArg nI (by omega)) (by omega) (by decide) (pkG_up 1 (k) _ (by decide)) dX5_sailOn_47 (fun H locs hP hD hS => ?_)
      have hP : va_P D vwCl ([oMod h mm th dy co ti ro n nb, (xg, I_ cA 15 (pkG (st G_3 1 k (-1))))]) H := hP
      have hD : va_D A ([oMod h mm th dy co ti ro n nb, (xg, I_ cA 15 (pkG (st G_3 1 k (-1))))]) := hD
      generalize hG_4 : st G_3 1 k (-1) = G_4 at hP hD
      subst hG_4
      subst hG_3
      subst hz_2
      subst hz_1
      have hW_G : sailK G k = (st (st G 0 k ((G 0 k) + (imax (-5) (imin 5 ((G 1 k) - (G 0 k)))))) 1 k (-1)) := sK_2 (sailM_n c_7) rfl ((sail_c0 rfl).symm.trans c_39)
      rw [← hW_G] at hP
      exact enV () hx hb hr hlocks hS hP (trivial) dX5_sailOn_48
  · have hW_G : sailK G k = G := sailM_0 hgo c_7
    rw [← hW_G] at hP
    exact enV () hx hb hr hlocks hS hP (trivial) dX5_sailOn_10
set_option maxRecDepth 100000 in
set_option maxHeartbeats 4000000 in
theorem m_rot4 (sa tb : Nat → Nat) (D : va_G) (cA cL : ClassId) (l : Launch) (xb : Nat) (B : Nat → Nat → Int32) (k : Nat) (hk : k < 8) : KM sa tb D cA cL l yX5_rot wsX5_rot ({ frames := 0, cells := 0, slots := 0, locals := 0 }) [.ref xb, .int (nI (8 * k + 4))] ([(xb, I_ cA 64 (pkB B))]) (qI D (fun (r : Int32) (_ : Unit) => r = tenth (B 4 k)) (fun _ => [(xb, I_ cA 64 (pkB (st B 4 k (B 4 k - tenth (B 4 k)))))])) := by
  refine KM.of (cc := cX5_rot) (maxL := 3) (ret := some .int) (by decide) rfl (Nat.le_of_ble_eq_true rfl) ?_
  intro pg e s m args below meth c A hx hb hr hml hlocks hts hown hS hA hE hP hD ls hl
  have hown : s.vm.findClass RX5 = some m.cls := hown
  have hl : lv_has ls 3 [(0, .ref xb), (1, .int (nI (8 * k + 4)))] := hl
  refine lv_aload_n hx hb dX5_rot_0 rfl (lv_at hl 0 rfl) ?_
  refine lv_iload_n hx hb dX5_rot_1 rfl (lv_at hl 1 rfl) ?_
  refine r_ald (f := pkB B) (v := B 4 k) hx hb hE hP 0 (8 * k + 4) rfl (congrArg nI (by omega)) (by omega) (by decide) (pkB_at 4 (k) (by decide)) dX5_rot_2 ?_
  refine lv_bipush (v := 9) hx hb dX5_rot_3 (by decide) ?_
  refine lv_iadd hx hb dX5_rot_5 ?_
  refine lv_bipush (v := 10) hx hb dX5_rot_6 (by decide) ?_
  refine lv_idiv hx hb dX5_rot_8 (by decide) ?_
  refine lv_topi (fun z_1 hz_1 => ?_)
  refine lv_istore_n (lv' := [(2, .int z_1), (0, .ref xb), (1, .int (nI (8 * k + 4)))]) hx hb dX5_rot_9 rfl hl (by decide) rfl (fun ls hl => ?_)
  refine lv_aload_n hx hb dX5_rot_10 rfl (lv_at hl 1 rfl) ?_
  refine lv_iload_n hx hb dX5_rot_11 rfl (lv_at hl 2 rfl) ?_
  refine lv_dup2_11 hx hb dX5_rot_12 rfl rfl ?_
  refine r_ald (f := pkB B) (v := B 4 k) hx hb hE hP 0 (8 * k + 4) rfl (congrArg nI (by omega)) (by omega) (by decide) (pkB_at 4 (k) (by decide)) dX5_rot_13 ?_
  refine lv_iload_n hx hb dX5_rot_14 rfl (lv_at hl 0 rfl) ?_
  refine lv_isub hx hb dX5_rot_15 ?_
  refine lv_topi (fun z_2 hz_2 => ?_)
  refine r_ast (f := pkB B) (g := pkB (st B 4 k z_2)) hx hb hE hP hD hS 0 (8 * k + 4) rfl (congrArg nI (by omega)) (by omega) (by decide) (pkB_up 4 (k) _ (by decide)) dX5_rot_16 (fun H locs hP hD hS => ?_)
  have hP : va_P D vwCl ([(xb, I_ cA 64 (pkB (st B 4 k z_2)))]) H := hP
  have hD : va_D A ([(xb, I_ cA 64 (pkB (st B 4 k z_2)))]) := hD
  generalize hB_3 : st B 4 k z_2 = B_3 at hP hD
  refine lv_iload_n hx hb dX5_rot_17 rfl (lv_at hl 0 rfl) ?_
  subst hB_3
  subst hz_2
  subst hz_1
  exact enI () hx hb hr hlocks hS hP (rfl) dX5_rot_18
set_option maxRecDepth 100000 in
set_option maxHeartbeats 4000000 in
theorem m_rot5 (sa tb : Nat → Nat) (D : va_G) (cA cL : ClassId) (l : Launch) (xb : Nat) (B : Nat → Nat → Int32) (k : Nat) (hk : k < 8) : KM sa tb D cA cL l yX5_rot wsX5_rot ({ frames := 0, cells := 0, slots := 0, locals := 0 }) [.ref xb, .int (nI (8 * k + 5))] ([(xb, I_ cA 64 (pkB B))]) (qI D (fun (r : Int32) (_ : Unit) => r = tenth (B 5 k)) (fun _ => [(xb, I_ cA 64 (pkB (st B 5 k (B 5 k - tenth (B 5 k)))))])) := by
  refine KM.of (cc := cX5_rot) (maxL := 3) (ret := some .int) (by decide) rfl (Nat.le_of_ble_eq_true rfl) ?_
  intro pg e s m args below meth c A hx hb hr hml hlocks hts hown hS hA hE hP hD ls hl
  have hown : s.vm.findClass RX5 = some m.cls := hown
  have hl : lv_has ls 3 [(0, .ref xb), (1, .int (nI (8 * k + 5)))] := hl
  refine lv_aload_n hx hb dX5_rot_0 rfl (lv_at hl 0 rfl) ?_
  refine lv_iload_n hx hb dX5_rot_1 rfl (lv_at hl 1 rfl) ?_
  refine r_ald (f := pkB B) (v := B 5 k) hx hb hE hP 0 (8 * k + 5) rfl (congrArg nI (by omega)) (by omega) (by decide) (pkB_at 5 (k) (by decide)) dX5_rot_2 ?_
  refine lv_bipush (v := 9) hx hb dX5_rot_3 (by decide) ?_
  refine lv_iadd hx hb dX5_rot_5 ?_
  refine lv_bipush (v := 10) hx hb dX5_rot_6 (by decide) ?_
  refine lv_idiv hx hb dX5_rot_8 (by decide) ?_
  refine lv_topi (fun z_1 hz_1 => ?_)
  refine lv_istore_n (lv' := [(2, .int z_1), (0, .ref xb), (1, .int (nI (8 * k + 5)))]) hx hb dX5_rot_9 rfl hl (by decide) rfl (fun ls hl => ?_)
  refine lv_aload_n hx hb dX5_rot_10 rfl (lv_at hl 1 rfl) ?_
  refine lv_iload_n hx hb dX5_rot_11 rfl (lv_at hl 2 rfl) ?_
  refine lv_dup2_11 hx hb dX5_rot_12 rfl rfl ?_
  refine r_ald (f := pkB B) (v := B 5 k) hx hb hE hP 0 (8 * k + 5) rfl (congrArg nI (by omega)) (by omega) (by decide) (pkB_at 5 (k) (by decide)) dX5_rot_13 ?_
  refine lv_iload_n hx hb dX5_rot_14 rfl (lv_at hl 0 rfl) ?_
  refine lv_isub hx hb dX5_rot_15 ?_
  refine lv_topi (fun z_2 hz_2 => ?_)
  refine r_ast (f := pkB B) (g := pkB (st B 5 k z_2)) hx hb hE hP hD hS 0 (8 * k + 5) rfl (congrArg nI (by omega)) (by omega) (by decide) (pkB_up 5 (k) _ (by decide)) dX5_rot_16 (fun H locs hP hD hS => ?_)
  have hP : va_P D vwCl ([(xb, I_ cA 64 (pkB (st B 5 k z_2)))]) H := hP
  have hD : va_D A ([(xb, I_ cA 64 (pkB (st B 5 k z_2)))]) := hD
  generalize hB_3 : st B 5 k z_2 = B_3 at hP hD
  refine lv_iload_n hx hb dX5_rot_17 rfl (lv_at hl 0 rfl) ?_
  subst hB_3
  subst hz_2
  subst hz_1
  exact enI () hx hb hr hlocks hS hP (rfl) dX5_rot_18
set_option maxRecDepth 100000 in
set_option maxHeartbeats 4000000 in
theorem m_pass (sa tb : Nat → Nat) (D : va_G) (cA cL : ClassId) (l : Launch) (h : Nat) (mm : Nat → Nat) (th : Int32) (dy : Int32) (co : Int32) (ti : Int32) (ro : Int32) (n : Nat) (nb : Nat) (xb : Nat) (B : Nat → Nat → Int32) (xg : Nat) (G : Nat → Nat → Int32) (xt : Nat) (T : Nat → Int32) (mo : Nat → Int32) (p4 : Int32) (hn : n ≤ 8) (hnb : nb ≤ 3) (hB0 : BInv n B) (hG0 : GInv nb G) : KM sa tb D cA cL l yX5_pass wsX5_pass ({ frames := 3, cells := 0, slots := 0, locals := 71 }) [.ref h, .ref xb, .ref xg, .ref xt, .int p4] ([oMod h mm th dy co ti ro n nb, (xb, I_ cA 64 (pkB B)), (xg, I_ cA 15 (pkG G)), (xt, I_ cA 3 T), (mm 6, I_ cA 8 mo)]) (qI D (fun (r : Int32) (cx : Nat → Int32) => r = sumF (rotF B) n) (fun cx => [oMod h mm th dy co ti ro n nb, (xb, I_ cA 64 (pkB (dayB n p4 B))), (xg, I_ cA 15 (pkG (sailG nb G))), (xt, I_ cA 3 (thT T)), (mm 6, I_ cA 8 cx)])) := by
  refine KM.of (cc := cX5_pass) (maxL := 7) (ret := some .int) (by decide) rfl (Nat.le_of_ble_eq_true rfl) ?_
  intro pg e s m args below meth c A hx hb hr hml hlocks hts hown hS hA hE hP hD ls hl
  have hown : s.vm.findClass RX5 = some m.cls := hown
  have hl : lv_has ls 7 [(0, .ref h), (1, .ref xb), (2, .ref xg), (3, .ref xt), (4, .int p4)] := hl
  have hwX5 : ∀ w ∈ wsX50, w ∈ wsX5_pass := (fun _ h => List.mem_cons_of_mem _ (List.mem_append_right _ h))
  refine lv_iconst (v := 0) hx hb dX5_pass_0 (by decide) ?_
  refine lv_istore (lv' := [(5, .int 0), (0, .ref h), (1, .ref xb), (2, .ref xg), (3, .ref xt), (4, .int p4)]) hx hb dX5_pass_1 hl (by decide) rfl (fun ls hl => ?_)
  refine lv_iconst (v := 0) hx hb dX5_pass_3 (by decide) ?_
  refine lv_istore (lv' := [(6, .int 0), (5, .int 0), (0, .ref h), (1, .ref xb), (2, .ref xg), (3, .ref xt), (4, .int p4)]) hx hb dX5_pass_4 hl (by decide) rfl (fun ls hl => ?_)
  have loop_6 : ∀ (f_6 : Nat) (i : Nat) (Gx : Nat → Nat → Int32), (nb - i) < f_6 → (i ≤ nb) → (Gx = mapC sailC i G) → ∀ (H : Heap) (locs : List Loc), va_P D vwCl ([oMod h mm th dy co ti ro n nb, (xb, I_ cA 64 (pkB B)), (xg, I_ cA 15 (pkG Gx)), (xt, I_ cA 3 T), (mm 6, I_ cA 8 mo)]) H → va_D A ([oMod h mm th dy co ti ro n nb, (xb, I_ cA 64 (pkB B)), (xg, I_ cA 15 (pkG Gx)), (xt, I_ cA 3 T), (mm 6, I_ cA 8 mo)]) → va_S A s.heap H locs → ∀ ls : Array Slot, lv_has ls 7 [(0, .ref h), (1, .ref xb), (2, .ref xg), (3, .ref xt), (4, .int p4), (5, .int 0), (6, .int (nI i))] → W pg l e ({ frames := 3, cells := 0, slots := 0, locals := 71 }) s m args below meth c H locs 0 0 (MQ below (qI D (fun (r : Int32) (cx : Nat → Int32) => r = sumF (rotF B) n) (fun cx => [oMod h mm th dy co ti ro n nb, (xb, I_ cA 64 (pkB (dayB n p4 B))), (xg, I_ cA 15 (pkG (sailG nb G))), (xt, I_ cA 3 (thT T)), (mm 6, I_ cA 8 cx)]) A) args s 0 0 A) (F0 m 6 ls []) := by
    intro f_6
    induction f_6 with
    | zero => intro i Gx h_f; exact absurd h_f (Nat.not_lt_zero _)
    | succ f_6 ih_6 =>
      intro i Gx h_f6 hi hG H locs hP hD hS ls hl
      refine lv_iload hx hb dX5_pass_6 (lv_at hl 6 rfl) ?_
      refine lv_aload_n hx hb dX5_pass_8 rfl (lv_at hl 0 rfl) ?_
      refine va_get (D := D) (ci := 5) (v := .int (nI nb)) (C := RX5) (T := TX5) (N := 14) hx hb hts hwX5 hown hE.K hP 0 rfl rfl 6 (by decide) (hts (.fieldLink RX5 48 "SedgeBargesModel" "barges" "I") (List.mem_of_getElem? (i := 1) rfl)) (fun _ h9 => h9) rfl dX5_pass_9 ?_
      refine rc_ge (tgt := 30) (a := i) (b := nb) hx hb (by omega) (by omega) dX5_pass_12 (by decide) (fun c_12 => ?_) (fun c_12 => ?_)
      · replace hG : Gx = sailG nb G := by rw [hG, show i = nb from by omega]; rfl
        subst hG
        have hP : va_P D vwCl ([oMod h mm th dy co ti ro n nb, (xb, I_ cA 64 (pkB B)), (xg, I_ cA 15 (pkG (sailG nb G))), (xt, I_ cA 3 T), (mm 6, I_ cA 8 mo)]) H := hP
        have hD : va_D A ([oMod h mm th dy co ti ro n nb, (xb, I_ cA 64 (pkB B)), (xg, I_ cA 15 (pkG (sailG nb G))), (xt, I_ cA 3 T), (mm 6, I_ cA 8 mo)]) := hD
        refine lv_iconst (v := 0) hx hb dX5_pass_30 (by decide) ?_
        refine lv_istore (lv' := [(6, .int 0), (0, .ref h), (1, .ref xb), (2, .ref xg), (3, .ref xt), (4, .int p4), (5, .int 0)]) hx hb dX5_pass_31 hl (by decide) rfl (fun ls hl => ?_)
        have loop_33 : ∀ (f_33 : Nat) (i2 : Nat) (acc : Int32) (Bx : Nat → Nat → Int32), (n - i2) < f_33 → (i2 ≤ n) → (acc = sumF (rotF B) i2) → (Bx = mapC rotC i2 B) → ∀ (H : Heap) (locs : List Loc), va_P D vwCl ([oMod h mm th dy co ti ro n nb, (xb, I_ cA 64 (pkB Bx)), (xg, I_ cA 15 (pkG (sailG nb G))), (xt, I_ cA 3 T), (mm 6, I_ cA 8 mo)]) H → va_D A ([oMod h mm th dy co ti ro n nb, (xb, I_ cA 64 (pkB Bx)), (xg, I_ cA 15 (pkG (sailG nb G))), (xt, I_ cA 3 T), (mm 6, I_ cA 8 mo)]) → va_S A s.heap H locs → ∀ ls : Array Slot, lv_has ls 7 [(0, .ref h), (1, .ref xb), (2, .ref xg), (3, .ref xt), (4, .int p4), (5, .int acc), (6, .int (nI i2))] → W pg l e ({ frames := 3, cells := 0, slots := 0, locals := 71 }) s m args below meth c H locs 0 0 (MQ below (qI D (fun (r : Int32) (cx : Nat → Int32) => r = sumF (rotF B) n) (fun cx => [oMod h mm th dy co ti ro n nb, (xb, I_ cA 64 (pkB (dayB n p4 B))), (xg, I_ cA 15 (pkG (sailG nb G))), (xt, I_ cA 3 (thT T)), (mm 6, I_ cA 8 cx)]) A) args s 0 0 A) (F0 m 33 ls []) := by
          intro f_33
          induction f_33 with
          | zero => intro i2 acc Bx h_f; exact absurd h_f (Nat.not_lt_zero _)
          | succ f_33 ih_33 =>
            intro i2 acc Bx h_f33 hi2 hacc hB H locs hP hD hS ls hl
            refine lv_iload hx hb dX5_pass_33 (lv_at hl 6 rfl) ?_
            refine lv_aload_n hx hb dX5_pass_35 rfl (lv_at hl 0 rfl) ?_
            refine va_get (D := D) (ci := 5) (v := .int (nI n)) (C := RX5) (T := TX5) (N := 14) hx hb hts hwX5 hown hE.K hP 0 rfl rfl 5 (by decide) (hts (.fieldLink RX5 41 "SedgeBargesModel" "beds" "I") (List.mem_of_getElem? (i := 2) rfl)) (fun _ h9 => h9) rfl dX5_pass_36 ?_
            refine rc_ge (tgt := 78) (a := i2) (b := n) hx hb (by omega) (by omega) dX5_pass_39 (by decide) (fun c_39 => ?_) (fun c_39 => ?_)
            · replace hB : Bx = rotB n B := by rw [hB, show i2 = n from by omega]; rfl
              subst hB
              replace hacc : acc = sumF (rotF B) n := by rw [hacc, show i2 = n from by omega]
              subst hacc
              have hP : va_P D vwCl ([oMod h mm th dy co ti ro n nb, (xb, I_ cA 64 (pkB (rotB n B))), (xg, I_ cA 15 (pkG (sailG nb G))), (xt, I_ cA 3 T), (mm 6, I_ cA 8 mo)]) H := hP
              have hD : va_D A ([oMod h mm th dy co ti ro n nb, (xb, I_ cA 64 (pkB (rotB n B))), (xg, I_ cA 15 (pkG (sailG nb G))), (xt, I_ cA 3 T), (mm 6, I_ cA 8 mo)]) := hD
              refine lv_iconst (v := 0) hx hb dX5_pass_78 (by decide) ?_
              refine lv_istore (lv' := [(6, .int 0), (0, .ref h), (1, .ref xb), (2, .ref xg), (3, .ref xt), (4, .int p4), (5, .int (sumF (rotF B) n))]) hx hb dX5_pass_79 hl (by decide) rfl (fun ls hl => ?_)
              refine lv_iload hx hb dX5_pass_81 (lv_at hl 0 rfl) ?_
              refine lv_iconst (v := 3) hx hb dX5_pass_83 (by decide) ?_
              refine lv_icmp_ge (tgt := 104) hx hb dX5_pass_84 (by decide) (fun q => absurd q (by decide)) (fun _ => ?_)
              refine lv_aload_n hx hb dX5_pass_87 rfl (lv_at hl 4 rfl) ?_
              refine lv_iload hx hb dX5_pass_88 (lv_at hl 0 rfl) ?_
              refine lv_aload_n hx hb dX5_pass_90 rfl (lv_at hl 4 rfl) ?_
              refine lv_iload hx hb dX5_pass_91 (lv_at hl 0 rfl) ?_
              refine r_ald (f := T) (v := T 0) hx hb hE hP 3 (0) rfl rfl (by omega) (by decide) rfl dX5_pass_93 ?_
              refine goI ([]) ([oMod h mm th dy co ti ro n nb, (xb, I_ cA 64 (pkB (rotB n B))), (xg, I_ cA 15 (pkG (sailG nb G))), (xt, I_ cA 3 T), (mm 6, I_ cA 8 mo)]) hP hD hS hA (rnS (rest := [.int 0, .ref xt]) (m_left sa tb D cA cL l (T 0) ) ([]) ([oMod h mm th dy co ti ro n nb, (xb, I_ cA 64 (pkB (rotB n B))), (xg, I_ cA 15 (pkG (sailG nb G))), (xt, I_ cA 3 T), (mm 6, I_ cA 8 mo)]) hP hD hS hA hE ⟨hx, hb, hml, hown, hts⟩ (va_cwS 1 hts gX5_pass_X5_left rfl rfl rfl (by decide +kernel) ⟨(Nat.le_of_ble_eq_true rfl), (Nat.le_of_ble_eq_true rfl)⟩) rfl hl.1 rfl (Nat.le_of_ble_eq_true rfl) dX5_pass_94 ⟨(Nat.le_of_ble_eq_true rfl), (Nat.le_of_ble_eq_true rfl)⟩) (fun _ => rfl) (fun r_94 u_94 H locs hw_94 hP hD hS => ?_)
              have hP : va_P D vwCl ([oMod h mm th dy co ti ro n nb, (xb, I_ cA 64 (pkB (rotB n B))), (xg, I_ cA 15 (pkG (sailG nb G))), (xt, I_ cA 3 T), (mm 6, I_ cA 8 mo)]) H := hP
              have hD : va_D A ([oMod h mm th dy co ti ro n nb, (xb, I_ cA 64 (pkB (rotB n B))), (xg, I_ cA 15 (pkG (sailG nb G))), (xt, I_ cA 3 T), (mm 6, I_ cA 8 mo)]) := hD
              obtain rfl : r_94 = lft (T 0) := hw_94
              refine r_ast (f := T) (g := upd T 0 (lft (T 0))) hx hb hE hP hD hS 3 (0) rfl rfl (by omega) (by decide) rfl dX5_pass_97 (fun H locs hP hD hS => ?_)
              have hP : va_P D vwCl ([oMod h mm th dy co ti ro n nb, (xb, I_ cA 64 (pkB (rotB n B))), (xg, I_ cA 15 (pkG (sailG nb G))), (xt, I_ cA 3 (upd T 0 (lft (T 0)))), (mm 6, I_ cA 8 mo)]) H := hP
              have hD : va_D A ([oMod h mm th dy co ti ro n nb, (xb, I_ cA 64 (pkB (rotB n B))), (xg, I_ cA 15 (pkG (sailG nb G))), (xt, I_ cA 3 (upd T 0 (lft (T 0)))), (mm 6, I_ cA 8 mo)]) := hD
              refine lv_iinc (v := 1) (lv' := [(6, .int 1), (0, .ref h), (1, .ref xb), (2, .ref xg), (3, .ref xt), (4, .int p4), (5, .int (sumF (rotF B) n))]) (k := 0) hx hb dX5_pass_98 hl rfl (by decide) (by decide) rfl (fun ls hl => ?_)
              refine lv_goto (tgt := 81) hx hb dX5_pass_101 (by decide) ?_
              refine lv_iload hx hb dX5_pass_81 (lv_at hl 0 rfl) ?_
              refine lv_iconst (v := 3) hx hb dX5_pass_83 (by decide) ?_
              refine lv_icmp_ge (tgt := 104) hx hb dX5_pass_84 (by decide) (fun q => absurd q (by decide)) (fun _ => ?_)
              refine lv_aload_n hx hb dX5_pass_87 rfl (lv_at hl 4 rfl) ?_
              refine lv_iload hx hb dX5_pass_88 (lv_at hl 0 rfl) ?_
              refine lv_aload_n hx hb dX5_pass_90 rfl (lv_at hl 4 rfl) ?_
              refine lv_iload hx hb dX5_pass_91 (lv_at hl 0 rfl) ?_
              refine r_ald (f := upd T 0 (lft (T 0))) (v := (upd T 0 (lft (T 0))) 1) hx hb hE hP 3 (1) rfl rfl (by omega) (by decide) rfl dX5_pass_93 ?_
              refine goI ([]) ([oMod h mm th dy co ti ro n nb, (xb, I_ cA 64 (pkB (rotB n B))), (xg, I_ cA 15 (pkG (sailG nb G))), (xt, I_ cA 3 (upd T 0 (lft (T 0)))), (mm 6, I_ cA 8 mo)]) hP hD hS hA (rnS (rest := [.int 1, .ref xt]) (m_left sa tb D cA cL l ((upd T 0 (lft (T 0))) 1) ) ([]) ([oMod h mm th dy co ti ro n nb, (xb, I_ cA 64 (pkB (rotB n B))), (xg, I_ cA 15 (pkG (sailG nb G))), (xt, I_ cA 3 (upd T 0 (lft (T 0)))), (mm 6, I_ cA 8 mo)]) hP hD hS hA hE ⟨hx, hb, hml, hown, hts⟩ (va_cwS 1 hts gX5_pass_X5_left rfl rfl rfl (by decide +kernel) ⟨(Nat.le_of_ble_eq_true rfl), (Nat.le_of_ble_eq_true rfl)⟩) rfl hl.1 rfl (Nat.le_of_ble_eq_true rfl) dX5_pass_94 ⟨(Nat.le_of_ble_eq_true rfl), (Nat.le_of_ble_eq_true rfl)⟩) (fun _ => rfl) (fun r_94 u_94 H locs hw_94 hP hD hS => ?_)
              have hP : va_P D vwCl ([oMod h mm th dy co ti ro n nb, (xb, I_ cA 64 (pkB (rotB n B))), (xg, I_ cA 15 (pkG (sailG nb G))), (xt, I_ cA 3 (upd T 0 (lft (T 0)))), (mm 6, I_ cA 8 mo)]) H := hP
              have hD : va_D A ([oMod h mm th dy co ti ro n nb, (xb, I_ cA 64 (pkB (rotB n B))), (xg, I_ cA 15 (pkG (sailG nb G))), (xt, I_ cA 3 (upd T 0 (lft (T 0)))), (mm 6, I_ cA 8 mo)]) := hD
              obtain rfl : r_94 = lft ((upd T 0 (lft (T 0))) 1) := hw_94
              refine r_ast (f := upd T 0 (lft (T 0))) (g := upd (upd T 0 (lft (T 0))) 1 (lft ((upd T 0 (lft (T 0))) 1))) hx hb hE hP hD hS 3 (1) rfl rfl (by omega) (by decide) rfl dX5_pass_97 (fun H locs hP hD hS => ?_)
              have hP : va_P D vwCl ([oMod h mm th dy co ti ro n nb, (xb, I_ cA 64 (pkB (rotB n B))), (xg, I_ cA 15 (pkG (sailG nb G))), (xt, I_ cA 3 (upd (upd T 0 (lft (T 0))) 1 (lft ((upd T 0 (lft (T 0))) 1)))), (mm 6, I_ cA 8 mo)]) H := hP
              have hD : va_D A ([oMod h mm th dy co ti ro n nb, (xb, I_ cA 64 (pkB (rotB n B))), (xg, I_ cA 15 (pkG (sailG nb G))), (xt, I_ cA 3 (upd (upd T 0 (lft (T 0))) 1 (lft ((upd T 0 (lft (T 0))) 1)))), (mm 6, I_ cA 8 mo)]) := hD
              refine lv_iinc (v := 2) (lv' := [(6, .int 2), (0, .ref h), (1, .ref xb), (2, .ref xg), (3, .ref xt), (4, .int p4), (5, .int (sumF (rotF B) n))]) (k := 0) hx hb dX5_pass_98 hl rfl (by decide) (by decide) rfl (fun ls hl => ?_)
              refine lv_goto (tgt := 81) hx hb dX5_pass_101 (by decide) ?_
              refine lv_iload hx hb dX5_pass_81 (lv_at hl 0 rfl) ?_
              refine lv_iconst (v := 3) hx hb dX5_pass_83 (by decide) ?_
              refine lv_icmp_ge (tgt := 104) hx hb dX5_pass_84 (by decide) (fun q => absurd q (by decide)) (fun _ => ?_)
              refine lv_aload_n hx hb dX5_pass_87 rfl (lv_at hl 4 rfl) ?_
              refine lv_iload hx hb dX5_pass_88 (lv_at hl 0 rfl) ?_
              refine lv_aload_n hx hb dX5_pass_90 rfl (lv_at hl 4 rfl) ?_
              refine lv_iload hx hb dX5_pass_91 (lv_at hl 0 rfl) ?_
              refine r_ald (f := upd (upd T 0 (lft (T 0))) 1 (lft ((upd T 0 (lft (T 0))) 1))) (v := (upd (upd T 0 (lft (T 0))) 1 (lft ((upd T 0 (lft (T 0))) 1))) 2) hx hb hE hP 3 (2) rfl rfl (by omega) (by decide) rfl dX5_pass_93 ?_
              refine goI ([]) ([oMod h mm th dy co ti ro n nb, (xb, I_ cA 64 (pkB (rotB n B))), (xg, I_ cA 15 (pkG (sailG nb G))), (xt, I_ cA 3 (upd (upd T 0 (lft (T 0))) 1 (lft ((upd T 0 (lft (T 0))) 1)))), (mm 6, I_ cA 8 mo)]) hP hD hS hA (rnS (rest := [.int 2, .ref xt]) (m_left sa tb D cA cL l ((upd (upd T 0 (lft (T 0))) 1 (lft ((upd T 0 (lft (T 0))) 1))) 2) ) ([]) ([oMod h mm th dy co ti ro n nb, (xb, I_ cA 64 (pkB (rotB n B))), (xg, I_ cA 15 (pkG (sailG nb G))), (xt, I_ cA 3 (upd (upd T 0 (lft (T 0))) 1 (lft ((upd T 0 (lft (T 0))) 1)))), (mm 6, I_ cA 8 mo)]) hP hD hS hA hE ⟨hx, hb, hml, hown, hts⟩ (va_cwS 1 hts gX5_pass_X5_left rfl rfl rfl (by decide +kernel) ⟨(Nat.le_of_ble_eq_true rfl), (Nat.le_of_ble_eq_true rfl)⟩) rfl hl.1 rfl (Nat.le_of_ble_eq_true rfl) dX5_pass_94 ⟨(Nat.le_of_ble_eq_true rfl), (Nat.le_of_ble_eq_true rfl)⟩) (fun _ => rfl) (fun r_94 u_94 H locs hw_94 hP hD hS => ?_)
              have hP : va_P D vwCl ([oMod h mm th dy co ti ro n nb, (xb, I_ cA 64 (pkB (rotB n B))), (xg, I_ cA 15 (pkG (sailG nb G))), (xt, I_ cA 3 (upd (upd T 0 (lft (T 0))) 1 (lft ((upd T 0 (lft (T 0))) 1)))), (mm 6, I_ cA 8 mo)]) H := hP
              have hD : va_D A ([oMod h mm th dy co ti ro n nb, (xb, I_ cA 64 (pkB (rotB n B))), (xg, I_ cA 15 (pkG (sailG nb G))), (xt, I_ cA 3 (upd (upd T 0 (lft (T 0))) 1 (lft ((upd T 0 (lft (T 0))) 1)))), (mm 6, I_ cA 8 mo)]) := hD
              obtain rfl : r_94 = lft ((upd (upd T 0 (lft (T 0))) 1 (lft ((upd T 0 (lft (T 0))) 1))) 2) := hw_94
              refine r_ast (f := upd (upd T 0 (lft (T 0))) 1 (lft ((upd T 0 (lft (T 0))) 1))) (g := upd (upd (upd T 0 (lft (T 0))) 1 (lft ((upd T 0 (lft (T 0))) 1))) 2 (lft ((upd (upd T 0 (lft (T 0))) 1 (lft ((upd T 0 (lft (T 0))) 1))) 2))) hx hb hE hP hD hS 3 (2) rfl rfl (by omega) (by decide) rfl dX5_pass_97 (fun H locs hP hD hS => ?_)
              have hP : va_P D vwCl ([oMod h mm th dy co ti ro n nb, (xb, I_ cA 64 (pkB (rotB n B))), (xg, I_ cA 15 (pkG (sailG nb G))), (xt, I_ cA 3 (upd (upd (upd T 0 (lft (T 0))) 1 (lft ((upd T 0 (lft (T 0))) 1))) 2 (lft ((upd (upd T 0 (lft (T 0))) 1 (lft ((upd T 0 (lft (T 0))) 1))) 2)))), (mm 6, I_ cA 8 mo)]) H := hP
              have hD : va_D A ([oMod h mm th dy co ti ro n nb, (xb, I_ cA 64 (pkB (rotB n B))), (xg, I_ cA 15 (pkG (sailG nb G))), (xt, I_ cA 3 (upd (upd (upd T 0 (lft (T 0))) 1 (lft ((upd T 0 (lft (T 0))) 1))) 2 (lft ((upd (upd T 0 (lft (T 0))) 1 (lft ((upd T 0 (lft (T 0))) 1))) 2)))), (mm 6, I_ cA 8 mo)]) := hD
              refine lv_iinc (v := 3) (lv' := [(6, .int 3), (0, .ref h), (1, .ref xb), (2, .ref xg), (3, .ref xt), (4, .int p4), (5, .int (sumF (rotF B) n))]) (k := 0) hx hb dX5_pass_98 hl rfl (by decide) (by decide) rfl (fun ls hl => ?_)
              refine lv_goto (tgt := 81) hx hb dX5_pass_101 (by decide) ?_
              refine lv_iload hx hb dX5_pass_81 (lv_at hl 0 rfl) ?_
              refine lv_iconst (v := 3) hx hb dX5_pass_83 (by decide) ?_
              refine lv_icmp_ge (tgt := 104) hx hb dX5_pass_84 (by decide) (fun _ => ?_) (fun q => absurd (by decide) q)
              refine lv_iload hx hb dX5_pass_104 (lv_at hl 5 rfl) ?_
              refine lv_bipush (v := 100) hx hb dX5_pass_106 (by decide) ?_
              refine r_irem hx hb dX5_pass_108 (by decide) ?_
              refine lv_bipush (v := 99) hx hb dX5_pass_109 (by decide) ?_
              refine lv_icmp_ne (tgt := 119) hx hb dX5_pass_111 (by decide) (fun c_111 => ?_) (fun c_111 => ?_)
              · refine lv_iload hx hb dX5_pass_119 (lv_at hl 6 rfl) ?_
                have hdB : dayB n p4 B = rotB n B := by first | exact if_pos c_111 | exact if_neg c_111
                rw [← hdB] at hP
                have hW_T : thT T = upd (upd (upd T 0 (lft (T 0))) 1 (lft ((upd T 0 (lft (T 0))) 1))) 2 (lft ((upd (upd T 0 (lft (T 0))) 1 (lft ((upd T 0 (lft (T 0))) 1))) 2)) := by unfold thT th2 th1 lft; rfl
                rw [← hW_T] at hP
                exact enI mo hx hb hr hlocks hS hP (rfl) dX5_pass_121
              · refine lv_aload_n hx hb dX5_pass_114 rfl (lv_at hl 1 rfl) ?_
                refine lv_aload_n hx hb dX5_pass_115 rfl (lv_at hl 2 rfl) ?_
                have hPq : va_P D vwCl ([] ++ (([oMod h mm th dy co ti ro n nb, (xb, I_ cA 64 (pkB (rotB n B))), (mm 6, I_ cA 8 mo)]) ++ ([(xg, I_ cA 15 (pkG (sailG nb G))), (xt, I_ cA 3 (upd (upd (upd T 0 (lft (T 0))) 1 (lft ((upd T 0 (lft (T 0))) 1))) 2 (lft ((upd (upd T 0 (lft (T 0))) 1 (lft ((upd T 0 (lft (T 0))) 1))) 2))))]))) _ := hP.sub [0, 1, 4, 2, 3] rfl
                have hDq : va_D A ([] ++ (([oMod h mm th dy co ti ro n nb, (xb, I_ cA 64 (pkB (rotB n B))), (mm 6, I_ cA 8 mo)]) ++ ([(xg, I_ cA 15 (pkG (sailG nb G))), (xt, I_ cA 3 (upd (upd (upd T 0 (lft (T 0))) 1 (lft ((upd T 0 (lft (T 0))) 1))) 2 (lft ((upd (upd T 0 (lft (T 0))) 1 (lft ((upd T 0 (lft (T 0))) 1))) 2))))]))) := hD.sub [0, 1, 4, 2, 3] (by decide) rfl
                refine goV ([]) ([(xg, I_ cA 15 (pkG (sailG nb G))), (xt, I_ cA 3 (upd (upd (upd T 0 (lft (T 0))) 1 (lft ((upd T 0 (lft (T 0))) 1))) 2 (lft ((upd (upd T 0 (lft (T 0))) 1 (lft ((upd T 0 (lft (T 0))) 1))) 2))))]) hPq hDq hS hA (rnV (rest := []) (m_endYear sa tb D cA cL l h mm th dy co ti ro n nb xb (rotB n B) mo (show n ≤ 8 from by first | omega | assumption | decide) (show BInv n (rotB n B) from rot_inv hB0)) ([]) ([(xg, I_ cA 15 (pkG (sailG nb G))), (xt, I_ cA 3 (upd (upd (upd T 0 (lft (T 0))) 1 (lft ((upd T 0 (lft (T 0))) 1))) 2 (lft ((upd (upd T 0 (lft (T 0))) 1 (lft ((upd T 0 (lft (T 0))) 1))) 2))))]) hPq hDq hS hA hE ⟨hx, hb, hml, hown, hts⟩ (cwV 1 hts gX5_pass_X5_endYear rfl rfl rfl (by decide +kernel) ⟨(Nat.le_of_ble_eq_true rfl), (Nat.le_of_ble_eq_true rfl)⟩) 5 0 rfl rfl rfl rfl hl.1 rfl (Nat.le_of_ble_eq_true rfl) dX5_pass_116 ⟨(Nat.le_of_ble_eq_true rfl), (Nat.le_of_ble_eq_true rfl)⟩) (fun _ => (show List.map Prod.fst _ = [h, xb, mm 6] from rfl).trans (show [h, xb, mm 6] = List.map Prod.fst _ from rfl)) (fun u_116 H locs hw_116 hP hD hS => ?_)
                have hP : va_P D vwCl ([oMod h mm th dy co ti ro n nb, (xb, I_ cA 64 (pkB (yearB n (rotB n B)))), (xg, I_ cA 15 (pkG (sailG nb G))), (xt, I_ cA 3 (upd (upd (upd T 0 (lft (T 0))) 1 (lft ((upd T 0 (lft (T 0))) 1))) 2 (lft ((upd (upd T 0 (lft (T 0))) 1 (lft ((upd T 0 (lft (T 0))) 1))) 2)))), (mm 6, I_ cA 8 u_116)]) H := hP.sub [0, 1, 3, 4, 2] rfl
                have hD : va_D A ([oMod h mm th dy co ti ro n nb, (xb, I_ cA 64 (pkB (yearB n (rotB n B)))), (xg, I_ cA 15 (pkG (sailG nb G))), (xt, I_ cA 3 (upd (upd (upd T 0 (lft (T 0))) 1 (lft ((upd T 0 (lft (T 0))) 1))) 2 (lft ((upd (upd T 0 (lft (T 0))) 1 (lft ((upd T 0 (lft (T 0))) 1))) 2)))), (mm 6, I_ cA 8 u_116)]) := hD.sub [0, 1, 3, 4, 2] (by decide) rfl
                refine lv_iload hx hb dX5_pass_119 (lv_at hl 6 rfl) ?_
                have hdB : dayB n p4 B = yearB n (rotB n B) := by first | exact if_pos c_111 | exact if_neg c_111
                rw [← hdB] at hP
                have hW_T : thT T = upd (upd (upd T 0 (lft (T 0))) 1 (lft ((upd T 0 (lft (T 0))) 1))) 2 (lft ((upd (upd T 0 (lft (T 0))) 1 (lft ((upd T 0 (lft (T 0))) 1))) 2)) := by unfold thT th2 th1 lft; rfl
                rw [← hW_T] at hP
                exact enI u_116 hx hb hr hlocks hS hP (rfl) dX5_pass_121
            · refine lv_iload hx hb dX5_pass_42 (lv_at hl 5 rfl) ?_
              refine lv_aload_n hx hb dX5_pass_44 rfl (lv_at hl 1 rfl) ?_
              refine lv_bipush (v := 8) hx hb dX5_pass_45 (by decide) ?_
              refine lv_iload hx hb dX5_pass_47 (lv_at hl 6 rfl) ?_
              refine rn_mul (a := 8) (b := i2) hx hb dX5_pass_49 ?_
              refine lv_iconst (v := 4) hx hb dX5_pass_50 (by decide) ?_
              refine rn_add (a := 8 * i2) (b := 4) hx hb dX5_pass_51 ?_
              have hPq : va_P D vwCl ([] ++ (([(xb, I_ cA 64 (pkB Bx))]) ++ ([(h, .inr (5, [.int th, .int dy, .int co, .int ti, .int ro, .int (nI n), .int (nI nb), .ref (mm 0), .ref (mm 1), .ref (mm 2), .ref (mm 3), .ref (mm 4), .ref (mm 5), .ref (mm 6)])), (xg, I_ cA 15 (pkG (sailG nb G))), (xt, I_ cA 3 T), (mm 6, I_ cA 8 mo)]))) _ := hP.sub [1, 0, 2, 3, 4] rfl
              have hDq : va_D A ([] ++ (([(xb, I_ cA 64 (pkB Bx))]) ++ ([(h, .inr (5, [.int th, .int dy, .int co, .int ti, .int ro, .int (nI n), .int (nI nb), .ref (mm 0), .ref (mm 1), .ref (mm 2), .ref (mm 3), .ref (mm 4), .ref (mm 5), .ref (mm 6)])), (xg, I_ cA 15 (pkG (sailG nb G))), (xt, I_ cA 3 T), (mm 6, I_ cA 8 mo)]))) := hD.sub [1, 0, 2, 3, 4] (by decide) rfl
              refine goI ([]) ([(h, .inr (5, [.int th, .int dy, .int co, .int ti, .int ro, .int (nI n), .int (nI nb), .ref (mm 0), .ref (mm 1), .ref (mm 2), .ref (mm 3), .ref (mm 4), .ref (mm 5), .ref (mm 6)])), (xg, I_ cA 15 (pkG (sailG nb G))), (xt, I_ cA 3 T), (mm 6, I_ cA 8 mo)]) hPq hDq hS hA (rnS (rest := [.int acc]) (m_rot4 sa tb D cA cL l xb Bx i2 (show i2 < 8 from by first | omega | assumption | decide)) ([]) ([(h, .inr (5, [.int th, .int dy, .int co, .int ti, .int ro, .int (nI n), .int (nI nb), .ref (mm 0), .ref (mm 1), .ref (mm 2), .ref (mm 3), .ref (mm 4), .ref (mm 5), .ref (mm 6)])), (xg, I_ cA 15 (pkG (sailG nb G))), (xt, I_ cA 3 T), (mm 6, I_ cA 8 mo)]) hPq hDq hS hA hE ⟨hx, hb, hml, hown, hts⟩ (va_cwS 2 hts gX5_pass_X5_rot rfl rfl rfl (by decide +kernel) ⟨(Nat.le_of_ble_eq_true rfl), (Nat.le_of_ble_eq_true rfl)⟩) rfl hl.1 rfl (Nat.le_of_ble_eq_true rfl) dX5_pass_52 ⟨(Nat.le_of_ble_eq_true rfl), (Nat.le_of_ble_eq_true rfl)⟩) (fun _ => (show List.map Prod.fst _ = [xb] from rfl).trans (show [xb] = List.map Prod.fst _ from rfl)) (fun r_52 u_52 H locs hw_52 hP hD hS => ?_)
              have hP : va_P D vwCl ([oMod h mm th dy co ti ro n nb, (xb, I_ cA 64 (pkB (st Bx 4 i2 (Bx 4 i2 - tenth (Bx 4 i2))))), (xg, I_ cA 15 (pkG (sailG nb G))), (xt, I_ cA 3 T), (mm 6, I_ cA 8 mo)]) H := hP.sub [1, 0, 2, 3, 4] rfl
              have hD : va_D A ([oMod h mm th dy co ti ro n nb, (xb, I_ cA 64 (pkB (st Bx 4 i2 (Bx 4 i2 - tenth (Bx 4 i2))))), (xg, I_ cA 15 (pkG (sailG nb G))), (xt, I_ cA 3 T), (mm 6, I_ cA 8 mo)]) := hD.sub [1, 0, 2, 3, 4] (by decide) rfl
              generalize hBq1 : st Bx 4 i2 (Bx 4 i2 - tenth (Bx 4 i2)) = Bq1 at hP hD
              obtain rfl : r_52 = tenth (Bx 4 i2) := hw_52
              refine lv_aload_n hx hb dX5_pass_55 rfl (lv_at hl 1 rfl) ?_
              refine lv_bipush (v := 8) hx hb dX5_pass_56 (by decide) ?_
              refine lv_iload hx hb dX5_pass_58 (lv_at hl 6 rfl) ?_
              refine rn_mul (a := 8) (b := i2) hx hb dX5_pass_60 ?_
              refine lv_iconst (v := 4) hx hb dX5_pass_61 (by decide) ?_
              refine rn_add (a := 8 * i2) (b := 4) hx hb dX5_pass_62 ?_
              refine lv_iconst (v := 1) hx hb dX5_pass_63 (by decide) ?_
              refine rn_add (a := (8 * i2) + 4) (b := 1) hx hb dX5_pass_64 ?_
              have hPq : va_P D vwCl ([] ++ (([(xb, I_ cA 64 (pkB Bq1))]) ++ ([(h, .inr (5, [.int th, .int dy, .int co, .int ti, .int ro, .int (nI n), .int (nI nb), .ref (mm 0), .ref (mm 1), .ref (mm 2), .ref (mm 3), .ref (mm 4), .ref (mm 5), .ref (mm 6)])), (xg, I_ cA 15 (pkG (sailG nb G))), (xt, I_ cA 3 T), (mm 6, I_ cA 8 mo)]))) _ := hP.sub [1, 0, 2, 3, 4] rfl
              have hDq : va_D A ([] ++ (([(xb, I_ cA 64 (pkB Bq1))]) ++ ([(h, .inr (5, [.int th, .int dy, .int co, .int ti, .int ro, .int (nI n), .int (nI nb), .ref (mm 0), .ref (mm 1), .ref (mm 2), .ref (mm 3), .ref (mm 4), .ref (mm 5), .ref (mm 6)])), (xg, I_ cA 15 (pkG (sailG nb G))), (xt, I_ cA 3 T), (mm 6, I_ cA 8 mo)]))) := hD.sub [1, 0, 2, 3, 4] (by decide) rfl
              refine goI ([]) ([(h, .inr (5, [.int th, .int dy, .int co, .int ti, .int ro, .int (nI n), .int (nI nb), .ref (mm 0), .ref (mm 1), .ref (mm 2), .ref (mm 3), .ref (mm 4), .ref (mm 5), .ref (mm 6)])), (xg, I_ cA 15 (pkG (sailG nb G))), (xt, I_ cA 3 T), (mm 6, I_ cA 8 mo)]) hPq hDq hS hA (rnS (rest := [.int (tenth (Bx 4 i2)), .int acc]) (m_rot5 sa tb D cA cL l xb Bq1 i2 (show i2 < 8 from by first | omega | assumption | decide)) ([]) ([(h, .inr (5, [.int th, .int dy, .int co, .int ti, .int ro, .int (nI n), .int (nI nb), .ref (mm 0), .ref (mm 1), .ref (mm 2), .ref (mm 3), .ref (mm 4), .ref (mm 5), .ref (mm 6)])), (xg, I_ cA 15 (pkG (sailG nb G))), (xt, I_ cA 3 T), (mm 6, I_ cA 8 mo)]) hPq hDq hS hA hE ⟨hx, hb, hml, hown, hts⟩ (va_cwS 2 hts gX5_pass_X5_rot rfl rfl rfl (by decide +kernel) ⟨(Nat.le_of_ble_eq_true rfl), (Nat.le_of_ble_eq_true rfl)⟩) rfl hl.1 rfl (Nat.le_of_ble_eq_true rfl) dX5_pass_65 ⟨(Nat.le_of_ble_eq_true rfl), (Nat.le_of_ble_eq_true rfl)⟩) (fun _ => (show List.map Prod.fst _ = [xb] from rfl).trans (show [xb] = List.map Prod.fst _ from rfl)) (fun r_65 u_65 H locs hw_65 hP hD hS => ?_)
              have hP : va_P D vwCl ([oMod h mm th dy co ti ro n nb, (xb, I_ cA 64 (pkB (st Bq1 5 i2 (Bq1 5 i2 - tenth (Bq1 5 i2))))), (xg, I_ cA 15 (pkG (sailG nb G))), (xt, I_ cA 3 T), (mm 6, I_ cA 8 mo)]) H := hP.sub [1, 0, 2, 3, 4] rfl
              have hD : va_D A ([oMod h mm th dy co ti ro n nb, (xb, I_ cA 64 (pkB (st Bq1 5 i2 (Bq1 5 i2 - tenth (Bq1 5 i2))))), (xg, I_ cA 15 (pkG (sailG nb G))), (xt, I_ cA 3 T), (mm 6, I_ cA 8 mo)]) := hD.sub [1, 0, 2, 3, 4] (by decide) rfl
              generalize hBq2 : st Bq1 5 i2 (Bq1 5 i2 - tenth (Bq1 5 i2)) = Bq2 at hP hD
              obtain rfl : r_65 = tenth (Bq1 5 i2) := hw_65
              refine lv_iadd hx hb dX5_pass_68 ?_
              refine lv_iadd hx hb dX5_pass_69 ?_
              refine lv_topi (fun z_3 hz_3 => ?_)
              refine lv_istore (lv' := [(5, .int z_3), (0, .ref h), (1, .ref xb), (2, .ref xg), (3, .ref xt), (4, .int p4), (6, .int (nI i2))]) hx hb dX5_pass_70 hl (by decide) rfl (fun ls hl => ?_)
              refine lv_iinc (v := (nI (i2 + 1))) (lv' := [(6, .int (nI (i2 + 1))), (5, .int z_3), (0, .ref h), (1, .ref xb), (2, .ref xg), (3, .ref xt), (4, .int p4)]) (k := 6) hx hb dX5_pass_72 hl rfl (iinc1 _) (by decide) rfl (fun ls hl => ?_)
              refine lv_goto (tgt := 33) hx hb dX5_pass_75 (by decide) ?_
              subst hz_3
              subst hBq2
              subst hBq1
              exact ih_33  (i2 + 1) (acc + ((tenth (Bx 4 i2)) + (tenth ((st Bx 4 i2 (Bx 4 i2 - tenth (Bx 4 i2))) 5 i2)))) (st (st Bx 4 i2 (Bx 4 i2 - tenth (Bx 4 i2))) 5 i2 ((st Bx 4 i2 (Bx 4 i2 - tenth (Bx 4 i2))) 5 i2 - tenth ((st Bx 4 i2 (Bx 4 i2 - tenth (Bx 4 i2))) 5 i2))) (show n - (i2 + 1) < f_33 from by omega) (show (i2 + 1) ≤ n from by omega) (show (acc + ((tenth (Bx 4 i2)) + (tenth ((st Bx 4 i2 (Bx 4 i2 - tenth (Bx 4 i2))) 5 i2)))) = sumF (rotF B) (i2 + 1) from by rw [hacc]; exact congrArg (sumF (rotF B) i2 + ·) (rot_step hB)) (show (st (st Bx 4 i2 (Bx 4 i2 - tenth (Bx 4 i2))) 5 i2 ((st Bx 4 i2 (Bx 4 i2 - tenth (Bx 4 i2))) 5 i2 - tenth ((st Bx 4 i2 (Bx 4 i2 - tenth (Bx 4 i2))) 5 i2))) = mapC rotC (i2 + 1) B from rot_map hB) _ _ hP hD hS ls (lv_sub hl [2, 3, 4, 5, 6, 1, 0] rfl)
        exact loop_33 ((n - 0) + 1) 0 0 B (Nat.lt_succ_self _) (show 0 ≤ n from by omega) (show 0 = sumF (rotF B) 0 from rfl) (show B = mapC rotC 0 B from mapC_0.symm) _ _ hP hD hS ls (lv_sub hl [1, 2, 3, 4, 5, 6, 0] rfl)
      · refine lv_aload_n hx hb dX5_pass_15 rfl (lv_at hl 0 rfl) ?_
        refine lv_aload_n hx hb dX5_pass_16 rfl (lv_at hl 2 rfl) ?_
        refine lv_iconst (v := 5) hx hb dX5_pass_17 (by decide) ?_
        refine lv_iload hx hb dX5_pass_18 (lv_at hl 6 rfl) ?_
        refine rn_mul (a := 5) (b := i) hx hb dX5_pass_20 ?_
        have hPq : va_P D vwCl ([] ++ (([oMod h mm th dy co ti ro n nb, (xg, I_ cA 15 (pkG Gx))]) ++ ([(xb, I_ cA 64 (pkB B)), (xt, I_ cA 3 T), (mm 6, I_ cA 8 mo)]))) _ := hP.sub [0, 2, 1, 3, 4] rfl
        have hDq : va_D A ([] ++ (([oMod h mm th dy co ti ro n nb, (xg, I_ cA 15 (pkG Gx))]) ++ ([(xb, I_ cA 64 (pkB B)), (xt, I_ cA 3 T), (mm 6, I_ cA 8 mo)]))) := hD.sub [0, 2, 1, 3, 4] (by decide) rfl
        refine goV ([]) ([(xb, I_ cA 64 (pkB B)), (xt, I_ cA 3 T), (mm 6, I_ cA 8 mo)]) hPq hDq hS hA (rnV (rest := []) (m_sailOn sa tb D cA cL l h mm th dy co ti ro n nb xg Gx i (show i < 3 from by first | omega | assumption | decide) (show Gx 1 i = -1 ∨ ∃ p, p < 31 ∧ Gx 1 i = nI p from by rw [hG, mapG_1]; exact (hG0 i (by omega)).2)) ([]) ([(xb, I_ cA 64 (pkB B)), (xt, I_ cA 3 T), (mm 6, I_ cA 8 mo)]) hPq hDq hS hA hE ⟨hx, hb, hml, hown, hts⟩ (cwV 2 hts gX5_pass_X5_sailOn rfl rfl rfl (by decide +kernel) ⟨(Nat.le_of_ble_eq_true rfl), (Nat.le_of_ble_eq_true rfl)⟩) 5 0 rfl rfl rfl rfl hl.1 rfl (Nat.le_of_ble_eq_true rfl) dX5_pass_21 ⟨(Nat.le_of_ble_eq_true rfl), (Nat.le_of_ble_eq_true rfl)⟩) (fun _ => (show List.map Prod.fst _ = [h, xg] from rfl).trans (show [h, xg] = List.map Prod.fst _ from rfl)) (fun u_21 H locs hw_21 hP hD hS => ?_)
        have hP : va_P D vwCl ([oMod h mm th dy co ti ro n nb, (xb, I_ cA 64 (pkB B)), (xg, I_ cA 15 (pkG (sailK Gx i))), (xt, I_ cA 3 T), (mm 6, I_ cA 8 mo)]) H := hP.sub [0, 2, 1, 3, 4] rfl
        have hD : va_D A ([oMod h mm th dy co ti ro n nb, (xb, I_ cA 64 (pkB B)), (xg, I_ cA 15 (pkG (sailK Gx i))), (xt, I_ cA 3 T), (mm 6, I_ cA 8 mo)]) := hD.sub [0, 2, 1, 3, 4] (by decide) rfl
        refine lv_iinc (v := (nI (i + 1))) (lv' := [(6, .int (nI (i + 1))), (0, .ref h), (1, .ref xb), (2, .ref xg), (3, .ref xt), (4, .int p4), (5, .int 0)]) (k := 6) hx hb dX5_pass_24 hl rfl (iinc1 _) (by decide) rfl (fun ls hl => ?_)
        refine lv_goto (tgt := 6) hx hb dX5_pass_27 (by decide) ?_
        exact ih_6  (i + 1) (sailK Gx i) (show nb - (i + 1) < f_6 from by omega) (show (i + 1) ≤ nb from by omega) (show (sailK Gx i) = mapC sailC (i + 1) G from by subst hG; exact sailK_step) _ _ hP hD hS ls (lv_sub hl [1, 2, 3, 4, 5, 6, 0] rfl)
  exact loop_6 ((nb - 0) + 1) 0 G (Nat.lt_succ_self _) (show 0 ≤ nb from by omega) (show G = mapC sailC 0 G from mapC_0.symm) _ _ hP hD hS ls (lv_sub hl [2, 3, 4, 5, 6, 1, 0] rfl)
set_option maxRecDepth 100000 in
set_option maxHeartbeats 4000000 in
theorem m_pass_ (sa tb : Nat → Nat) (D : va_G) (cA cL : ClassId) (l : Launch) (h : Nat) (mm : Nat → Nat) (th : Int32) (dy : Int32) (co : Int32) (ti : Int32) (ro : Int32) (n : Nat) (nb : Nat) (B : Nat → Nat → Int32) (G : Nat → Nat → Int32) (T : Nat → Int32) (BA : Nat → Nat → Int32) (GA : Nat → Nat → Int32) (TA : Nat → Int32) (mo : Nat → Int32) (d : Nat) (hn : n ≤ 8) (hnb : nb ≤ 3) (hI : Inv n nb B G) (h0 : 1 ≤ d) (h1 : d ≤ 200) : KM sa tb D cA cL l yX5_pass_ wsX5_pass_ ({ frames := 4, cells := 0, slots := 0, locals := 97 }) [.ref h, .int (nI d)] (wMod cA h mm th dy co ti ro n nb B G T BA GA TA mo) (qI D (fun (r : Int32) (cx : Nat → Int32) => r = (daysS n nb d (dy, ro, B, G, T)).2.1 - ro) (fun cx => wMod cA h mm 0 ((daysS n nb d (dy, ro, B, G, T)).1) co ti ((daysS n nb d (dy, ro, B, G, T)).2.1) n nb ((daysS n nb d (dy, ro, B, G, T)).2.2.1) ((daysS n nb d (dy, ro, B, G, T)).2.2.2.1) ((daysS n nb d (dy, ro, B, G, T)).2.2.2.2) BA GA TA cx)) := by
  refine KM.of (cc := cX5_pass_) (maxL := 4) (ret := some .int) (by decide) rfl (Nat.le_of_ble_eq_true rfl) ?_
  intro pg e s m args below meth c A hx hb hr hml hlocks hts hown hS hA hE hP hD ls hl
  have hown : s.vm.findClass RX5 = some m.cls := hown
  have hl : lv_has ls 4 [(0, .ref h), (1, .int (nI d))] := hl
  have hwX5 : ∀ w ∈ wsX50, w ∈ wsX5_pass_ := (fun _ h => List.mem_cons_of_mem _ (List.mem_append_right _ h))
  refine lv_aload_n hx hb dX5_pass__0 rfl (lv_at hl 0 rfl) ?_
  refine lv_iconst (v := 0) hx hb dX5_pass__1 (by decide) ?_
  refine va_put (D := D) (ci := 5) (v := .int 0) (ty := .int) (C := RX5) (T := TX5) (N := 14) hx hb hts hwX5 tyX5 tyX5_ok nmX5 hown hE.K hP hD hS 0 rfl rfl 0 (by decide) (hts (.fieldLink RX5 38 "SedgeBargesModel" "thrown" "I") (List.mem_of_getElem? (i := 1) rfl)) (fun _ h9 => h9) rfl (by decide +kernel) rfl rfl (Nat.le_of_ble_eq_true rfl) dX5_pass__2 (fun H locs hP hD hS => ?_)
  have hP : va_P D vwCl (wMod cA h mm 0 dy co ti ro n nb B G T BA GA TA mo) H := hP
  have hD : va_D A (wMod cA h mm 0 dy co ti ro n nb B G T BA GA TA mo) := hD
  refine lv_iload_n hx hb dX5_pass__5 rfl (lv_at hl 1 rfl) ?_
  refine lv_iconst (v := 1) hx hb dX5_pass__6 (by decide) ?_
  refine lv_sipush (v := 200) hx hb dX5_pass__7 (by decide) ?_
  refine goI ([]) (wMod cA h mm 0 dy co ti ro n nb B G T BA GA TA mo) hP hD hS hA (rnS (rest := []) (m_isIn sa tb D cA cL l (nI d) 1 200 ) ([]) (wMod cA h mm 0 dy co ti ro n nb B G T BA GA TA mo) hP hD hS hA hE ⟨hx, hb, hml, hown, hts⟩ (va_cwS 3 hts gX5_pass__X5_isIn rfl rfl rfl (by decide +kernel) ⟨(Nat.le_of_ble_eq_true rfl), (Nat.le_of_ble_eq_true rfl)⟩) rfl hl.1 rfl (Nat.le_of_ble_eq_true rfl) dX5_pass__10 ⟨(Nat.le_of_ble_eq_true rfl), (Nat.le_of_ble_eq_true rfl)⟩) (fun _ => rfl) (fun r_10 u_10 H locs hw_10 hP hD hS => ?_)
  have hP : va_P D vwCl (wMod cA h mm 0 dy co ti ro n nb B G T BA GA TA mo) H := hP
  have hD : va_D A (wMod cA h mm 0 dy co ti ro n nb B G T BA GA TA mo) := hD
  obtain rfl : r_10 = bI (isInB (nI d) 1 200) := hw_10
  refine lv_if_ne (tgt := 22) hx hb dX5_pass__13 (by decide) (fun c_13 => ?_) (fun c_13 => False.elim (by exact absurd ((bI0 c_13).symm.trans (isIn_d h0 h1)) (by decide)))
  refine lv_iconst (v := 0) hx hb dX5_pass__22 (by decide) ?_
  refine lv_istore_n (lv' := [(2, .int 0), (0, .ref h), (1, .int (nI d))]) hx hb dX5_pass__23 rfl hl (by decide) rfl (fun ls hl => ?_)
  refine lv_iconst (v := 0) hx hb dX5_pass__24 (by decide) ?_
  refine lv_istore_n (lv' := [(3, .int 0), (2, .int 0), (0, .ref h), (1, .int (nI d))]) hx hb dX5_pass__25 rfl hl (by decide) rfl (fun ls hl => ?_)
  have loop_26 : ∀ (f_26 : Nat) (i : Nat) (xs : DS) (ow : Int32) (cx : Nat → Int32), (d - i) < f_26 → (i ≤ d) → (xs = daysS n nb i (dy, ro, B, G, T)) → (ow = xs.2.1 - ro) → ∀ (H : Heap) (locs : List Loc), va_P D vwCl (wMod cA h mm 0 xs.1 co ti ro n nb xs.2.2.1 xs.2.2.2.1 xs.2.2.2.2 BA GA TA cx) H → va_D A (wMod cA h mm 0 xs.1 co ti ro n nb xs.2.2.1 xs.2.2.2.1 xs.2.2.2.2 BA GA TA cx) → va_S A s.heap H locs → ∀ ls : Array Slot, lv_has ls 4 [(0, .ref h), (1, .int (nI d)), (2, .int ow), (3, .int (nI i))] → W pg l e ({ frames := 4, cells := 0, slots := 0, locals := 97 }) s m args below meth c H locs 0 0 (MQ below (qI D (fun (r : Int32) (cx : Nat → Int32) => r = (daysS n nb d (dy, ro, B, G, T)).2.1 - ro) (fun cx => wMod cA h mm 0 ((daysS n nb d (dy, ro, B, G, T)).1) co ti ((daysS n nb d (dy, ro, B, G, T)).2.1) n nb ((daysS n nb d (dy, ro, B, G, T)).2.2.1) ((daysS n nb d (dy, ro, B, G, T)).2.2.2.1) ((daysS n nb d (dy, ro, B, G, T)).2.2.2.2) BA GA TA cx) A) args s 0 0 A) (F0 m 26 ls []) := by
    intro f_26
    induction f_26 with
    | zero => intro i xs ow cx h_f; exact absurd h_f (Nat.not_lt_zero _)
    | succ f_26 ih_26 =>
      intro i xs ow cx h_f26 hi hxs how H locs hP hD hS ls hl
      refine lv_iload_n hx hb dX5_pass__26 rfl (lv_at hl 3 rfl) ?_
      refine lv_iload_n hx hb dX5_pass__27 rfl (lv_at hl 1 rfl) ?_
      refine rc_ge (tgt := 70) (a := i) (b := d) hx hb (by omega) (by omega) dX5_pass__28 (by decide) (fun c_28 => ?_) (fun c_28 => ?_)
      · refine lv_aload_n hx hb dX5_pass__70 rfl (lv_at hl 0 rfl) ?_
        refine lv_dup hx hb dX5_pass__71 rfl ?_
        refine va_get (D := D) (ci := 5) (v := .int ro) (C := RX5) (T := TX5) (N := 14) hx hb hts hwX5 hown hE.K hP 0 rfl rfl 4 (by decide) (hts (.fieldLink RX5 155 "SedgeBargesModel" "rotted" "I") (List.mem_of_getElem? (i := 6) rfl)) (fun _ h9 => h9) rfl dX5_pass__72 ?_
        refine lv_iload_n hx hb dX5_pass__75 rfl (lv_at hl 2 rfl) ?_
        refine lv_iadd hx hb dX5_pass__76 ?_
        refine lv_topi (fun z_1 hz_1 => ?_)
        refine va_put (D := D) (ci := 5) (v := .int z_1) (ty := .int) (C := RX5) (T := TX5) (N := 14) hx hb hts hwX5 tyX5 tyX5_ok nmX5 hown hE.K hP hD hS 0 rfl rfl 4 (by decide) (hts (.fieldLink RX5 155 "SedgeBargesModel" "rotted" "I") (List.mem_of_getElem? (i := 6) rfl)) (fun _ h9 => h9) rfl (by decide +kernel) rfl rfl (Nat.le_of_ble_eq_true rfl) dX5_pass__77 (fun H locs hP hD hS => ?_)
        have hP : va_P D vwCl (wMod cA h mm 0 xs.1 co ti z_1 n nb xs.2.2.1 xs.2.2.2.1 xs.2.2.2.2 BA GA TA cx) H := hP
        have hD : va_D A (wMod cA h mm 0 xs.1 co ti z_1 n nb xs.2.2.1 xs.2.2.2.1 xs.2.2.2.2 BA GA TA cx) := hD
        refine lv_iload_n hx hb dX5_pass__80 rfl (lv_at hl 2 rfl) ?_
        subst hz_1
        rw [show i = d from by omega] at hxs
        subst hxs
        have hW_ro : (daysS n nb d (dy, ro, B, G, T)).2.1 = (ro + ow) := by rw [how, i_back]
        rw [← hW_ro] at hP
        exact enI cx hx hb hr hlocks hS hP (how) dX5_pass__81
      · refine lv_iload_n hx hb dX5_pass__31 rfl (lv_at hl 2 rfl) ?_
        refine lv_aload_n hx hb dX5_pass__32 rfl (lv_at hl 0 rfl) ?_
        refine lv_aload_n hx hb dX5_pass__33 rfl (lv_at hl 0 rfl) ?_
        refine va_get (D := D) (ci := 5) (v := .ref (mm 0)) (C := RX5) (T := TX5) (N := 14) hx hb hts hwX5 hown hE.K hP 0 rfl rfl 7 (by decide) (hts (.fieldLink RX5 16 "SedgeBargesModel" "b" "[I") (List.mem_of_getElem? (i := 2) rfl)) (fun _ h9 => h9) rfl dX5_pass__34 ?_
        refine lv_aload_n hx hb dX5_pass__37 rfl (lv_at hl 0 rfl) ?_
        refine va_get (D := D) (ci := 5) (v := .ref (mm 1)) (C := RX5) (T := TX5) (N := 14) hx hb hts hwX5 hown hE.K hP 0 rfl rfl 8 (by decide) (hts (.fieldLink RX5 20 "SedgeBargesModel" "g" "[I") (List.mem_of_getElem? (i := 3) rfl)) (fun _ h9 => h9) rfl dX5_pass__38 ?_
        refine lv_aload_n hx hb dX5_pass__41 rfl (lv_at hl 0 rfl) ?_
        refine va_get (D := D) (ci := 5) (v := .ref (mm 2)) (C := RX5) (T := TX5) (N := 14) hx hb hts hwX5 hown hE.K hP 0 rfl rfl 9 (by decide) (hts (.fieldLink RX5 23 "SedgeBargesModel" "store" "[I") (List.mem_of_getElem? (i := 4) rfl)) (fun _ h9 => h9) rfl dX5_pass__42 ?_
        refine lv_aload_n hx hb dX5_pass__45 rfl (lv_at hl 0 rfl) ?_
        refine va_get (D := D) (ci := 5) (v := .int xs.1) (C := RX5) (T := TX5) (N := 14) hx hb hts hwX5 hown hE.K hP 0 rfl rfl 1 (by decide) (hts (.fieldLink RX5 148 "SedgeBargesModel" "day" "I") (List.mem_of_getElem? (i := 5) rfl)) (fun _ h9 => h9) rfl dX5_pass__46 ?_
        have hPq : va_P D vwCl ([] ++ (([oMod h mm 0 xs.1 co ti ro n nb, (mm 0, I_ cA 64 (pkB xs.2.2.1)), (mm 1, I_ cA 15 (pkG xs.2.2.2.1)), (mm 2, I_ cA 3 xs.2.2.2.2), (mm 6, I_ cA 8 cx)]) ++ ([(mm 3, I_ cA 64 (pkB BA)), (mm 4, I_ cA 15 (pkG GA)), (mm 5, I_ cA 3 TA)]))) _ := hP.sub [0, 1, 2, 3, 7, 4, 5, 6] rfl
        have hDq : va_D A ([] ++ (([oMod h mm 0 xs.1 co ti ro n nb, (mm 0, I_ cA 64 (pkB xs.2.2.1)), (mm 1, I_ cA 15 (pkG xs.2.2.2.1)), (mm 2, I_ cA 3 xs.2.2.2.2), (mm 6, I_ cA 8 cx)]) ++ ([(mm 3, I_ cA 64 (pkB BA)), (mm 4, I_ cA 15 (pkG GA)), (mm 5, I_ cA 3 TA)]))) := hD.sub [0, 1, 2, 3, 7, 4, 5, 6] (by decide) rfl
        refine goI ([]) ([(mm 3, I_ cA 64 (pkB BA)), (mm 4, I_ cA 15 (pkG GA)), (mm 5, I_ cA 3 TA)]) hPq hDq hS hA (rnV (rest := [.int ow]) (m_pass sa tb D cA cL l h mm 0 xs.1 co ti ro n nb (mm 0) xs.2.2.1 (mm 1) xs.2.2.2.1 (mm 2) xs.2.2.2.2 cx xs.1 (show n ≤ 8 from by first | omega | assumption | decide) (show nb ≤ 3 from by first | omega | assumption | decide) (show BInv n xs.2.2.1 from by rw [hxs]; exact (days_inv (x := (dy, ro, B, G, T)) hI.1 hI.2 i).1) (show GInv nb xs.2.2.2.1 from by rw [hxs]; exact (days_inv (x := (dy, ro, B, G, T)) hI.1 hI.2 i).2)) ([]) ([(mm 3, I_ cA 64 (pkB BA)), (mm 4, I_ cA 15 (pkG GA)), (mm 5, I_ cA 3 TA)]) hPq hDq hS hA hE ⟨hx, hb, hml, hown, hts⟩ (cwV 4 hts gX5_pass__X5_pass rfl rfl rfl (by decide +kernel) ⟨(Nat.le_of_ble_eq_true rfl), (Nat.le_of_ble_eq_true rfl)⟩) 5 0 rfl rfl rfl rfl hl.1 rfl (Nat.le_of_ble_eq_true rfl) dX5_pass__49 ⟨(Nat.le_of_ble_eq_true rfl), (Nat.le_of_ble_eq_true rfl)⟩) (fun _ => (show List.map Prod.fst _ = [h, mm 0, mm 1, mm 2, mm 6] from rfl).trans (show [h, mm 0, mm 1, mm 2, mm 6] = List.map Prod.fst _ from rfl)) (fun r_49 u_49 H locs hw_49 hP hD hS => ?_)
        have hP : va_P D vwCl (wMod cA h mm 0 xs.1 co ti ro n nb (dayB n xs.1 xs.2.2.1) (sailG nb xs.2.2.2.1) (thT xs.2.2.2.2) BA GA TA u_49) H := hP.sub [0, 1, 2, 3, 5, 6, 7, 4] rfl
        have hD : va_D A (wMod cA h mm 0 xs.1 co ti ro n nb (dayB n xs.1 xs.2.2.1) (sailG nb xs.2.2.2.1) (thT xs.2.2.2.2) BA GA TA u_49) := hD.sub [0, 1, 2, 3, 5, 6, 7, 4] (by decide) rfl
        obtain rfl : r_49 = sumF (rotF xs.2.2.1) n := hw_49
        refine lv_iadd hx hb dX5_pass__52 ?_
        refine lv_topi (fun z_2 hz_2 => ?_)
        refine lv_istore_n (lv' := [(2, .int z_2), (0, .ref h), (1, .int (nI d)), (3, .int (nI i))]) hx hb dX5_pass__53 rfl hl (by decide) rfl (fun ls hl => ?_)
        refine lv_aload_n hx hb dX5_pass__54 rfl (lv_at hl 1 rfl) ?_
        refine lv_dup hx hb dX5_pass__55 rfl ?_
        refine va_get (D := D) (ci := 5) (v := .int xs.1) (C := RX5) (T := TX5) (N := 14) hx hb hts hwX5 hown hE.K hP 0 rfl rfl 1 (by decide) (hts (.fieldLink RX5 148 "SedgeBargesModel" "day" "I") (List.mem_of_getElem? (i := 5) rfl)) (fun _ h9 => h9) rfl dX5_pass__56 ?_
        refine lv_iconst (v := 1) hx hb dX5_pass__59 (by decide) ?_
        refine lv_iadd hx hb dX5_pass__60 ?_
        refine lv_topi (fun z_3 hz_3 => ?_)
        refine va_put (D := D) (ci := 5) (v := .int z_3) (ty := .int) (C := RX5) (T := TX5) (N := 14) hx hb hts hwX5 tyX5 tyX5_ok nmX5 hown hE.K hP hD hS 0 rfl rfl 1 (by decide) (hts (.fieldLink RX5 148 "SedgeBargesModel" "day" "I") (List.mem_of_getElem? (i := 5) rfl)) (fun _ h9 => h9) rfl (by decide +kernel) rfl rfl (Nat.le_of_ble_eq_true rfl) dX5_pass__61 (fun H locs hP hD hS => ?_)
        have hP : va_P D vwCl (wMod cA h mm 0 z_3 co ti ro n nb (dayB n xs.1 xs.2.2.1) (sailG nb xs.2.2.2.1) (thT xs.2.2.2.2) BA GA TA u_49) H := hP
        have hD : va_D A (wMod cA h mm 0 z_3 co ti ro n nb (dayB n xs.1 xs.2.2.1) (sailG nb xs.2.2.2.1) (thT xs.2.2.2.2) BA GA TA u_49) := hD
        refine lv_iinc (v := (nI (i + 1))) (lv' := [(3, .int (nI (i + 1))), (2, .int z_2), (0, .ref h), (1, .int (nI d))]) (k := 3) hx hb dX5_pass__64 hl rfl (iinc1 _) (by decide) rfl (fun ls hl => ?_)
        refine lv_goto (tgt := 26) hx hb dX5_pass__67 (by decide) ?_
        subst hz_3
        subst hz_2
        exact ih_26  (i + 1) (dayS n nb xs) (ow + (sumF (rotF xs.2.2.1) n)) u_49 (show d - (i + 1) < f_26 from by omega) (show (i + 1) ≤ d from by omega) (show (dayS n nb xs) = daysS n nb (i + 1) (dy, ro, B, G, T) from by rw [hxs]; rfl) (show (ow + (sumF (rotF xs.2.2.1) n)) = (dayS n nb xs).2.1 - ro from by rw [how]; exact i_as _ _ _) _ _ hP hD hS ls (lv_sub hl [2, 3, 1, 0] rfl)
  exact loop_26 ((d - 0) + 1) 0 (dy, ro, B, G, T) 0 mo (Nat.lt_succ_self _) (show 0 ≤ d from by omega) (show (dy, ro, B, G, T) = daysS n nb 0 (dy, ro, B, G, T) from rfl) (show 0 = (dy, ro, B, G, T).2.1 - ro from (Int32.sub_self (a := ro)).symm) _ _ hP hD hS ls (lv_sub hl [2, 3, 1, 0] rfl)
set_option maxRecDepth 100000 in
set_option maxHeartbeats 4000000 in
theorem m_pass_1 (sa tb : Nat → Nat) (D : va_G) (cA cL : ClassId) (l : Launch) (h : Nat) (mm : Nat → Nat) (th : Int32) (dy : Int32) (co : Int32) (ti : Int32) (ro : Int32) (n : Nat) (nb : Nat) (B : Nat → Nat → Int32) (G : Nat → Nat → Int32) (T : Nat → Int32) (BA : Nat → Nat → Int32) (GA : Nat → Nat → Int32) (TA : Nat → Int32) (mo : Nat → Int32) (x : Int32) (hb0 : x < 1 ∨ ¬ x ≤ 200) : KM sa tb D cA cL l yX5_pass_ wsX5_pass_ ({ frames := 1, cells := 0, slots := 0, locals := 22 }) [.ref h, .int x] (wMod cA h mm th dy co ti ro n nb B G T BA GA TA mo) (qI D (fun (r : Int32) (_ : Unit) => r = 0) (fun _ => wMod cA h mm 1 dy co ti ro n nb B G T BA GA TA mo)) := by
  refine KM.of (cc := cX5_pass_) (maxL := 4) (ret := some .int) (by decide) rfl (Nat.le_of_ble_eq_true rfl) ?_
  intro pg e s m args below meth c A hx hb hr hml hlocks hts hown hS hA hE hP hD ls hl
  have hown : s.vm.findClass RX5 = some m.cls := hown
  have hl : lv_has ls 4 [(0, .ref h), (1, .int x)] := hl
  have hwX5 : ∀ w ∈ wsX50, w ∈ wsX5_pass_ := (fun _ h => List.mem_cons_of_mem _ (List.mem_append_right _ h))
  refine lv_aload_n hx hb dX5_pass__0 rfl (lv_at hl 0 rfl) ?_
  refine lv_iconst (v := 0) hx hb dX5_pass__1 (by decide) ?_
  refine va_put (D := D) (ci := 5) (v := .int 0) (ty := .int) (C := RX5) (T := TX5) (N := 14) hx hb hts hwX5 tyX5 tyX5_ok nmX5 hown hE.K hP hD hS 0 rfl rfl 0 (by decide) (hts (.fieldLink RX5 38 "SedgeBargesModel" "thrown" "I") (List.mem_of_getElem? (i := 1) rfl)) (fun _ h9 => h9) rfl (by decide +kernel) rfl rfl (Nat.le_of_ble_eq_true rfl) dX5_pass__2 (fun H locs hP hD hS => ?_)
  have hP : va_P D vwCl (wMod cA h mm 0 dy co ti ro n nb B G T BA GA TA mo) H := hP
  have hD : va_D A (wMod cA h mm 0 dy co ti ro n nb B G T BA GA TA mo) := hD
  refine lv_iload_n hx hb dX5_pass__5 rfl (lv_at hl 1 rfl) ?_
  refine lv_iconst (v := 1) hx hb dX5_pass__6 (by decide) ?_
  refine lv_sipush (v := 200) hx hb dX5_pass__7 (by decide) ?_
  refine goI ([]) (wMod cA h mm 0 dy co ti ro n nb B G T BA GA TA mo) hP hD hS hA (rnS (rest := []) (m_isIn sa tb D cA cL l x 1 200 ) ([]) (wMod cA h mm 0 dy co ti ro n nb B G T BA GA TA mo) hP hD hS hA hE ⟨hx, hb, hml, hown, hts⟩ (va_cwS 3 hts gX5_pass__X5_isIn rfl rfl rfl (by decide +kernel) ⟨(Nat.le_of_ble_eq_true rfl), (Nat.le_of_ble_eq_true rfl)⟩) rfl hl.1 rfl (Nat.le_of_ble_eq_true rfl) dX5_pass__10 ⟨(Nat.le_of_ble_eq_true rfl), (Nat.le_of_ble_eq_true rfl)⟩) (fun _ => rfl) (fun r_10 u_10 H locs hw_10 hP hD hS => ?_)
  have hP : va_P D vwCl (wMod cA h mm 0 dy co ti ro n nb B G T BA GA TA mo) H := hP
  have hD : va_D A (wMod cA h mm 0 dy co ti ro n nb B G T BA GA TA mo) := hD
  obtain rfl : r_10 = bI (isInB x 1 200) := hw_10
  refine lv_if_ne (tgt := 22) hx hb dX5_pass__13 (by decide) (fun c_13 => False.elim (by exact c_13 (congrArg bI (isIn_no hb0)))) (fun c_13 => ?_)
  refine lv_aload_n hx hb dX5_pass__16 rfl (lv_at hl 0 rfl) ?_
  refine lv_iconst (v := 1) hx hb dX5_pass__17 (by decide) ?_
  refine goI ([]) ([(mm 0, I_ cA 64 (pkB B)), (mm 1, I_ cA 15 (pkG G)), (mm 2, I_ cA 3 T), (mm 3, I_ cA 64 (pkB BA)), (mm 4, I_ cA 15 (pkG GA)), (mm 5, I_ cA 3 TA), (mm 6, I_ cA 8 mo)]) hP hD hS hA (rnV (rest := []) (m_no sa tb D cA cL l h mm 0 dy co ti ro n nb 1 ) ([]) ([(mm 0, I_ cA 64 (pkB B)), (mm 1, I_ cA 15 (pkG G)), (mm 2, I_ cA 3 T), (mm 3, I_ cA 64 (pkB BA)), (mm 4, I_ cA 15 (pkG GA)), (mm 5, I_ cA 3 TA), (mm 6, I_ cA 8 mo)]) hP hD hS hA hE ⟨hx, hb, hml, hown, hts⟩ (cwV 1 hts gX5_pass__X5_no rfl rfl rfl (by decide +kernel) ⟨(Nat.le_of_ble_eq_true rfl), (Nat.le_of_ble_eq_true rfl)⟩) 5 0 rfl rfl rfl rfl hl.1 rfl (Nat.le_of_ble_eq_true rfl) dX5_pass__18 ⟨(Nat.le_of_ble_eq_true rfl), (Nat.le_of_ble_eq_true rfl)⟩) (fun _ => (show List.map Prod.fst _ = [h] from rfl).trans (show [h] = List.map Prod.fst _ from rfl)) (fun r_18 u_18 H locs hw_18 hP hD hS => ?_)
  have hP : va_P D vwCl (wMod cA h mm 1 dy co ti ro n nb B G T BA GA TA mo) H := hP
  have hD : va_D A (wMod cA h mm 1 dy co ti ro n nb B G T BA GA TA mo) := hD
  obtain rfl : r_18 = 0 := hw_18
  exact enI () hx hb hr hlocks hS hP (rfl) dX5_pass__21
set_option maxRecDepth 100000 in
set_option maxHeartbeats 4000000 in
theorem m_sum3 (sa tb : Nat → Nat) (D : va_G) (cA cL : ClassId) (l : Launch) (h : Nat) (mm : Nat → Nat) (th : Int32) (dy : Int32) (co : Int32) (ti : Int32) (ro : Int32) (n : Nat) (nb : Nat) (xb : Nat) (B : Nat → Nat → Int32) (hn : n ≤ 8) : KM sa tb D cA cL l yX5_sum wsX5_sum ({ frames := 0, cells := 0, slots := 0, locals := 0 }) [.ref h, .ref xb, .int 3] ([oMod h mm th dy co ti ro n nb, (xb, I_ cA 64 (pkB B))]) (qI D (fun (r : Int32) (_ : Unit) => r = sumF (B 3) n) (fun _ => [oMod h mm th dy co ti ro n nb, (xb, I_ cA 64 (pkB B))])) := by
  refine KM.of (cc := cX5_sum) (maxL := 5) (ret := some .int) (by decide) rfl (Nat.le_of_ble_eq_true rfl) ?_
  intro pg e s m args below meth c A hx hb hr hml hlocks hts hown hS hA hE hP hD ls hl
  have hown : s.vm.findClass RX5 = some m.cls := hown
  have hl : lv_has ls 5 [(0, .ref h), (1, .ref xb), (2, .int 3)] := hl
  have hwX5 : ∀ w ∈ wsX50, w ∈ wsX5_sum := (fun _ h => List.mem_cons_of_mem _ (List.mem_append_right _ h))
  refine lv_iconst (v := 0) hx hb dX5_sum_0 (by decide) ?_
  refine lv_istore_n (lv' := [(3, .int 0), (0, .ref h), (1, .ref xb), (2, .int 3)]) hx hb dX5_sum_1 rfl hl (by decide) rfl (fun ls hl => ?_)
  refine lv_iconst (v := 0) hx hb dX5_sum_2 (by decide) ?_
  refine lv_istore (lv' := [(4, .int 0), (3, .int 0), (0, .ref h), (1, .ref xb), (2, .int 3)]) hx hb dX5_sum_3 hl (by decide) rfl (fun ls hl => ?_)
  have loop_5 : ∀ (f_5 : Nat) (i : Nat) (acc : Int32), (n - i) < f_5 → (i ≤ n) → (acc = sumF (B 3) i) → ∀ (H : Heap) (locs : List Loc), va_P D vwCl ([oMod h mm th dy co ti ro n nb, (xb, I_ cA 64 (pkB B))]) H → va_D A ([oMod h mm th dy co ti ro n nb, (xb, I_ cA 64 (pkB B))]) → va_S A s.heap H locs → ∀ ls : Array Slot, lv_has ls 5 [(0, .ref h), (1, .ref xb), (2, .int 3), (3, .int acc), (4, .int (nI i))] → W pg l e ({ frames := 0, cells := 0, slots := 0, locals := 0 }) s m args below meth c H locs 0 0 (MQ below (qI D (fun (r : Int32) (_ : Unit) => r = sumF (B 3) n) (fun _ => [oMod h mm th dy co ti ro n nb, (xb, I_ cA 64 (pkB B))]) A) args s 0 0 A) (F0 m 5 ls []) := by
    intro f_5
    induction f_5 with
    | zero => intro i acc h_f; exact absurd h_f (Nat.not_lt_zero _)
    | succ f_5 ih_5 =>
      intro i acc h_f5 hi hacc H locs hP hD hS ls hl
      refine lv_iload hx hb dX5_sum_5 (lv_at hl 4 rfl) ?_
      refine lv_aload_n hx hb dX5_sum_7 rfl (lv_at hl 0 rfl) ?_
      refine va_get (D := D) (ci := 5) (v := .int (nI n)) (C := RX5) (T := TX5) (N := 14) hx hb hts hwX5 hown hE.K hP 0 rfl rfl 5 (by decide) (hts (.fieldLink RX5 41 "SedgeBargesModel" "beds" "I") (List.mem_of_getElem? (i := 1) rfl)) (fun _ h9 => h9) rfl dX5_sum_8 ?_
      refine rc_ge (tgt := 32) (a := i) (b := n) hx hb (by omega) (by omega) dX5_sum_11 (by decide) (fun c_11 => ?_) (fun c_11 => ?_)
      · refine lv_iload_n hx hb dX5_sum_32 rfl (lv_at hl 3 rfl) ?_
        rw [show i = n from by omega] at hacc
        exact enI () hx hb hr hlocks hS hP (hacc) dX5_sum_33
      · refine lv_iload_n hx hb dX5_sum_14 rfl (lv_at hl 3 rfl) ?_
        refine lv_aload_n hx hb dX5_sum_15 rfl (lv_at hl 1 rfl) ?_
        refine lv_bipush (v := 8) hx hb dX5_sum_16 (by decide) ?_
        refine lv_iload hx hb dX5_sum_18 (lv_at hl 4 rfl) ?_
        refine rn_mul (a := 8) (b := i) hx hb dX5_sum_20 ?_
        refine lv_iload_n hx hb dX5_sum_21 rfl (lv_at hl 2 rfl) ?_
        refine rn_add (a := 8 * i) (b := 3) hx hb dX5_sum_22 ?_
        refine r_ald (f := pkB B) (v := B 3 i) hx hb hE hP 1 (8 * i + 3) rfl (congrArg nI (by omega)) (by omega) (by decide) (pkB_at 3 (i) (by decide)) dX5_sum_23 ?_
        refine lv_iadd hx hb dX5_sum_24 ?_
        refine lv_topi (fun z_1 hz_1 => ?_)
        refine lv_istore_n (lv' := [(3, .int z_1), (0, .ref h), (1, .ref xb), (2, .int 3), (4, .int (nI i))]) hx hb dX5_sum_25 rfl hl (by decide) rfl (fun ls hl => ?_)
        refine lv_iinc (v := (nI (i + 1))) (lv' := [(4, .int (nI (i + 1))), (3, .int z_1), (0, .ref h), (1, .ref xb), (2, .int 3)]) (k := 4) hx hb dX5_sum_26 hl rfl (iinc1 _) (by decide) rfl (fun ls hl => ?_)
        refine lv_goto (tgt := 5) hx hb dX5_sum_29 (by decide) ?_
        subst hz_1
        exact ih_5  (i + 1) (acc + (B 3 i)) (show n - (i + 1) < f_5 from by omega) (show (i + 1) ≤ n from by omega) (show (acc + (B 3 i)) = sumF (B 3) (i + 1) from by rw [hacc]; rfl) _ _ hP hD hS ls (lv_sub hl [2, 3, 4, 1, 0] rfl)
  exact loop_5 ((n - 0) + 1) 0 0 (Nat.lt_succ_self _) (show 0 ≤ n from by omega) (show 0 = sumF (B 3) 0 from rfl) _ _ hP hD hS ls (lv_sub hl [2, 3, 4, 1, 0] rfl)
set_option maxRecDepth 100000 in
set_option maxHeartbeats 4000000 in
theorem m_sum4 (sa tb : Nat → Nat) (D : va_G) (cA cL : ClassId) (l : Launch) (h : Nat) (mm : Nat → Nat) (th : Int32) (dy : Int32) (co : Int32) (ti : Int32) (ro : Int32) (n : Nat) (nb : Nat) (xb : Nat) (B : Nat → Nat → Int32) (hn : n ≤ 8) : KM sa tb D cA cL l yX5_sum wsX5_sum ({ frames := 0, cells := 0, slots := 0, locals := 0 }) [.ref h, .ref xb, .int 4] ([oMod h mm th dy co ti ro n nb, (xb, I_ cA 64 (pkB B))]) (qI D (fun (r : Int32) (_ : Unit) => r = sumF (B 4) n) (fun _ => [oMod h mm th dy co ti ro n nb, (xb, I_ cA 64 (pkB B))])) := by
  refine KM.of (cc := cX5_sum) (maxL := 5) (ret := some .int) (by decide) rfl (Nat.le_of_ble_eq_true rfl) ?_
  intro pg e s m args below meth c A hx hb hr hml hlocks hts hown hS hA hE hP hD ls hl
  have hown : s.vm.findClass RX5 = some m.cls := hown
  have hl : lv_has ls 5 [(0, .ref h), (1, .ref xb), (2, .int 4)] := hl
  have hwX5 : ∀ w ∈ wsX50, w ∈ wsX5_sum := (fun _ h => List.mem_cons_of_mem _ (List.mem_append_right _ h))
  refine lv_iconst (v := 0) hx hb dX5_sum_0 (by decide) ?_
  refine lv_istore_n (lv' := [(3, .int 0), (0, .ref h), (1, .ref xb), (2, .int 4)]) hx hb dX5_sum_1 rfl hl (by decide) rfl (fun ls hl => ?_)
  refine lv_iconst (v := 0) hx hb dX5_sum_2 (by decide) ?_
  refine lv_istore (lv' := [(4, .int 0), (3, .int 0), (0, .ref h), (1, .ref xb), (2, .int 4)]) hx hb dX5_sum_3 hl (by decide) rfl (fun ls hl => ?_)
  have loop_5 : ∀ (f_5 : Nat) (i : Nat) (acc : Int32), (n - i) < f_5 → (i ≤ n) → (acc = sumF (B 4) i) → ∀ (H : Heap) (locs : List Loc), va_P D vwCl ([oMod h mm th dy co ti ro n nb, (xb, I_ cA 64 (pkB B))]) H → va_D A ([oMod h mm th dy co ti ro n nb, (xb, I_ cA 64 (pkB B))]) → va_S A s.heap H locs → ∀ ls : Array Slot, lv_has ls 5 [(0, .ref h), (1, .ref xb), (2, .int 4), (3, .int acc), (4, .int (nI i))] → W pg l e ({ frames := 0, cells := 0, slots := 0, locals := 0 }) s m args below meth c H locs 0 0 (MQ below (qI D (fun (r : Int32) (_ : Unit) => r = sumF (B 4) n) (fun _ => [oMod h mm th dy co ti ro n nb, (xb, I_ cA 64 (pkB B))]) A) args s 0 0 A) (F0 m 5 ls []) := by
    intro f_5
    induction f_5 with
    | zero => intro i acc h_f; exact absurd h_f (Nat.not_lt_zero _)
    | succ f_5 ih_5 =>
      intro i acc h_f5 hi hacc H locs hP hD hS ls hl
      refine lv_iload hx hb dX5_sum_5 (lv_at hl 4 rfl) ?_
      refine lv_aload_n hx hb dX5_sum_7 rfl (lv_at hl 0 rfl) ?_
      refine va_get (D := D) (ci := 5) (v := .int (nI n)) (C := RX5) (T := TX5) (N := 14) hx hb hts hwX5 hown hE.K hP 0 rfl rfl 5 (by decide) (hts (.fieldLink RX5 41 "SedgeBargesModel" "beds" "I") (List.mem_of_getElem? (i := 1) rfl)) (fun _ h9 => h9) rfl dX5_sum_8 ?_
      refine rc_ge (tgt := 32) (a := i) (b := n) hx hb (by omega) (by omega) dX5_sum_11 (by decide) (fun c_11 => ?_) (fun c_11 => ?_)
      · refine lv_iload_n hx hb dX5_sum_32 rfl (lv_at hl 3 rfl) ?_
        rw [show i = n from by omega] at hacc
        exact enI () hx hb hr hlocks hS hP (hacc) dX5_sum_33
      · refine lv_iload_n hx hb dX5_sum_14 rfl (lv_at hl 3 rfl) ?_
        refine lv_aload_n hx hb dX5_sum_15 rfl (lv_at hl 1 rfl) ?_
        refine lv_bipush (v := 8) hx hb dX5_sum_16 (by decide) ?_
        refine lv_iload hx hb dX5_sum_18 (lv_at hl 4 rfl) ?_
        refine rn_mul (a := 8) (b := i) hx hb dX5_sum_20 ?_
        refine lv_iload_n hx hb dX5_sum_21 rfl (lv_at hl 2 rfl) ?_
        refine rn_add (a := 8 * i) (b := 4) hx hb dX5_sum_22 ?_
        refine r_ald (f := pkB B) (v := B 4 i) hx hb hE hP 1 (8 * i + 4) rfl (congrArg nI (by omega)) (by omega) (by decide) (pkB_at 4 (i) (by decide)) dX5_sum_23 ?_
        refine lv_iadd hx hb dX5_sum_24 ?_
        refine lv_topi (fun z_1 hz_1 => ?_)
        refine lv_istore_n (lv' := [(3, .int z_1), (0, .ref h), (1, .ref xb), (2, .int 4), (4, .int (nI i))]) hx hb dX5_sum_25 rfl hl (by decide) rfl (fun ls hl => ?_)
        refine lv_iinc (v := (nI (i + 1))) (lv' := [(4, .int (nI (i + 1))), (3, .int z_1), (0, .ref h), (1, .ref xb), (2, .int 4)]) (k := 4) hx hb dX5_sum_26 hl rfl (iinc1 _) (by decide) rfl (fun ls hl => ?_)
        refine lv_goto (tgt := 5) hx hb dX5_sum_29 (by decide) ?_
        subst hz_1
        exact ih_5  (i + 1) (acc + (B 4 i)) (show n - (i + 1) < f_5 from by omega) (show (i + 1) ≤ n from by omega) (show (acc + (B 4 i)) = sumF (B 4) (i + 1) from by rw [hacc]; rfl) _ _ hP hD hS ls (lv_sub hl [2, 3, 4, 1, 0] rfl)
  exact loop_5 ((n - 0) + 1) 0 0 (Nat.lt_succ_self _) (show 0 ≤ n from by omega) (show 0 = sumF (B 4) 0 from rfl) _ _ hP hD hS ls (lv_sub hl [2, 3, 4, 1, 0] rfl)
set_option maxRecDepth 100000 in
set_option maxHeartbeats 4000000 in
theorem m_sum5 (sa tb : Nat → Nat) (D : va_G) (cA cL : ClassId) (l : Launch) (h : Nat) (mm : Nat → Nat) (th : Int32) (dy : Int32) (co : Int32) (ti : Int32) (ro : Int32) (n : Nat) (nb : Nat) (xb : Nat) (B : Nat → Nat → Int32) (hn : n ≤ 8) : KM sa tb D cA cL l yX5_sum wsX5_sum ({ frames := 0, cells := 0, slots := 0, locals := 0 }) [.ref h, .ref xb, .int 5] ([oMod h mm th dy co ti ro n nb, (xb, I_ cA 64 (pkB B))]) (qI D (fun (r : Int32) (_ : Unit) => r = sumF (B 5) n) (fun _ => [oMod h mm th dy co ti ro n nb, (xb, I_ cA 64 (pkB B))])) := by
  refine KM.of (cc := cX5_sum) (maxL := 5) (ret := some .int) (by decide) rfl (Nat.le_of_ble_eq_true rfl) ?_
  intro pg e s m args below meth c A hx hb hr hml hlocks hts hown hS hA hE hP hD ls hl
  have hown : s.vm.findClass RX5 = some m.cls := hown
  have hl : lv_has ls 5 [(0, .ref h), (1, .ref xb), (2, .int 5)] := hl
  have hwX5 : ∀ w ∈ wsX50, w ∈ wsX5_sum := (fun _ h => List.mem_cons_of_mem _ (List.mem_append_right _ h))
  refine lv_iconst (v := 0) hx hb dX5_sum_0 (by decide) ?_
  refine lv_istore_n (lv' := [(3, .int 0), (0, .ref h), (1, .ref xb), (2, .int 5)]) hx hb dX5_sum_1 rfl hl (by decide) rfl (fun ls hl => ?_)
  refine lv_iconst (v := 0) hx hb dX5_sum_2 (by decide) ?_
  refine lv_istore (lv' := [(4, .int 0), (3, .int 0), (0, .ref h), (1, .ref xb), (2, .int 5)]) hx hb dX5_sum_3 hl (by decide) rfl (fun ls hl => ?_)
  have loop_5 : ∀ (f_5 : Nat) (i : Nat) (acc : Int32), (n - i) < f_5 → (i ≤ n) → (acc = sumF (B 5) i) → ∀ (H : Heap) (locs : List Loc), va_P D vwCl ([oMod h mm th dy co ti ro n nb, (xb, I_ cA 64 (pkB B))]) H → va_D A ([oMod h mm th dy co ti ro n nb, (xb, I_ cA 64 (pkB B))]) → va_S A s.heap H locs → ∀ ls : Array Slot, lv_has ls 5 [(0, .ref h), (1, .ref xb), (2, .int 5), (3, .int acc), (4, .int (nI i))] → W pg l e ({ frames := 0, cells := 0, slots := 0, locals := 0 }) s m args below meth c H locs 0 0 (MQ below (qI D (fun (r : Int32) (_ : Unit) => r = sumF (B 5) n) (fun _ => [oMod h mm th dy co ti ro n nb, (xb, I_ cA 64 (pkB B))]) A) args s 0 0 A) (F0 m 5 ls []) := by
    intro f_5
    induction f_5 with
    | zero => intro i acc h_f; exact absurd h_f (Nat.not_lt_zero _)
    | succ f_5 ih_5 =>
      intro i acc h_f5 hi hacc H locs hP hD hS ls hl
      refine lv_iload hx hb dX5_sum_5 (lv_at hl 4 rfl) ?_
      refine lv_aload_n hx hb dX5_sum_7 rfl (lv_at hl 0 rfl) ?_
      refine va_get (D := D) (ci := 5) (v := .int (nI n)) (C := RX5) (T := TX5) (N := 14) hx hb hts hwX5 hown hE.K hP 0 rfl rfl 5 (by decide) (hts (.fieldLink RX5 41 "SedgeBargesModel" "beds" "I") (List.mem_of_getElem? (i := 1) rfl)) (fun _ h9 => h9) rfl dX5_sum_8 ?_
      refine rc_ge (tgt := 32) (a := i) (b := n) hx hb (by omega) (by omega) dX5_sum_11 (by decide) (fun c_11 => ?_) (fun c_11 => ?_)
      · refine lv_iload_n hx hb dX5_sum_32 rfl (lv_at hl 3 rfl) ?_
        rw [show i = n from by omega] at hacc
        exact enI () hx hb hr hlocks hS hP (hacc) dX5_sum_33
      · refine lv_iload_n hx hb dX5_sum_14 rfl (lv_at hl 3 rfl) ?_
        refine lv_aload_n hx hb dX5_sum_15 rfl (lv_at hl 1 rfl) ?_
        refine lv_bipush (v := 8) hx hb dX5_sum_16 (by decide) ?_
        refine lv_iload hx hb dX5_sum_18 (lv_at hl 4 rfl) ?_
        refine rn_mul (a := 8) (b := i) hx hb dX5_sum_20 ?_
        refine lv_iload_n hx hb dX5_sum_21 rfl (lv_at hl 2 rfl) ?_
        refine rn_add (a := 8 * i) (b := 5) hx hb dX5_sum_22 ?_
        refine r_ald (f := pkB B) (v := B 5 i) hx hb hE hP 1 (8 * i + 5) rfl (congrArg nI (by omega)) (by omega) (by decide) (pkB_at 5 (i) (by decide)) dX5_sum_23 ?_
        refine lv_iadd hx hb dX5_sum_24 ?_
        refine lv_topi (fun z_1 hz_1 => ?_)
        refine lv_istore_n (lv' := [(3, .int z_1), (0, .ref h), (1, .ref xb), (2, .int 5), (4, .int (nI i))]) hx hb dX5_sum_25 rfl hl (by decide) rfl (fun ls hl => ?_)
        refine lv_iinc (v := (nI (i + 1))) (lv' := [(4, .int (nI (i + 1))), (3, .int z_1), (0, .ref h), (1, .ref xb), (2, .int 5)]) (k := 4) hx hb dX5_sum_26 hl rfl (iinc1 _) (by decide) rfl (fun ls hl => ?_)
        refine lv_goto (tgt := 5) hx hb dX5_sum_29 (by decide) ?_
        subst hz_1
        exact ih_5  (i + 1) (acc + (B 5 i)) (show n - (i + 1) < f_5 from by omega) (show (i + 1) ≤ n from by omega) (show (acc + (B 5 i)) = sumF (B 5) (i + 1) from by rw [hacc]; rfl) _ _ hP hD hS ls (lv_sub hl [2, 3, 4, 1, 0] rfl)
  exact loop_5 ((n - 0) + 1) 0 0 (Nat.lt_succ_self _) (show 0 ≤ n from by omega) (show 0 = sumF (B 5) 0 from rfl) _ _ hP hD hS ls (lv_sub hl [2, 3, 4, 1, 0] rfl)
set_option maxRecDepth 100000 in
set_option maxHeartbeats 4000000 in
theorem m_sum6 (sa tb : Nat → Nat) (D : va_G) (cA cL : ClassId) (l : Launch) (h : Nat) (mm : Nat → Nat) (th : Int32) (dy : Int32) (co : Int32) (ti : Int32) (ro : Int32) (n : Nat) (nb : Nat) (xb : Nat) (B : Nat → Nat → Int32) (hn : n ≤ 8) : KM sa tb D cA cL l yX5_sum wsX5_sum ({ frames := 0, cells := 0, slots := 0, locals := 0 }) [.ref h, .ref xb, .int 6] ([oMod h mm th dy co ti ro n nb, (xb, I_ cA 64 (pkB B))]) (qI D (fun (r : Int32) (_ : Unit) => r = sumF (B 6) n) (fun _ => [oMod h mm th dy co ti ro n nb, (xb, I_ cA 64 (pkB B))])) := by
  refine KM.of (cc := cX5_sum) (maxL := 5) (ret := some .int) (by decide) rfl (Nat.le_of_ble_eq_true rfl) ?_
  intro pg e s m args below meth c A hx hb hr hml hlocks hts hown hS hA hE hP hD ls hl
  have hown : s.vm.findClass RX5 = some m.cls := hown
  have hl : lv_has ls 5 [(0, .ref h), (1, .ref xb), (2, .int 6)] := hl
  have hwX5 : ∀ w ∈ wsX50, w ∈ wsX5_sum := (fun _ h => List.mem_cons_of_mem _ (List.mem_append_right _ h))
  refine lv_iconst (v := 0) hx hb dX5_sum_0 (by decide) ?_
  refine lv_istore_n (lv' := [(3, .int 0), (0, .ref h), (1, .ref xb), (2, .int 6)]) hx hb dX5_sum_1 rfl hl (by decide) rfl (fun ls hl => ?_)
  refine lv_iconst (v := 0) hx hb dX5_sum_2 (by decide) ?_
  refine lv_istore (lv' := [(4, .int 0), (3, .int 0), (0, .ref h), (1, .ref xb), (2, .int 6)]) hx hb dX5_sum_3 hl (by decide) rfl (fun ls hl => ?_)
  have loop_5 : ∀ (f_5 : Nat) (i : Nat) (acc : Int32), (n - i) < f_5 → (i ≤ n) → (acc = sumF (B 6) i) → ∀ (H : Heap) (locs : List Loc), va_P D vwCl ([oMod h mm th dy co ti ro n nb, (xb, I_ cA 64 (pkB B))]) H → va_D A ([oMod h mm th dy co ti ro n nb, (xb, I_ cA 64 (pkB B))]) → va_S A s.heap H locs → ∀ ls : Array Slot, lv_has ls 5 [(0, .ref h), (1, .ref xb), (2, .int 6), (3, .int acc), (4, .int (nI i))] → W pg l e ({ frames := 0, cells := 0, slots := 0, locals := 0 }) s m args below meth c H locs 0 0 (MQ below (qI D (fun (r : Int32) (_ : Unit) => r = sumF (B 6) n) (fun _ => [oMod h mm th dy co ti ro n nb, (xb, I_ cA 64 (pkB B))]) A) args s 0 0 A) (F0 m 5 ls []) := by
    intro f_5
    induction f_5 with
    | zero => intro i acc h_f; exact absurd h_f (Nat.not_lt_zero _)
    | succ f_5 ih_5 =>
      intro i acc h_f5 hi hacc H locs hP hD hS ls hl
      refine lv_iload hx hb dX5_sum_5 (lv_at hl 4 rfl) ?_
      refine lv_aload_n hx hb dX5_sum_7 rfl (lv_at hl 0 rfl) ?_
      refine va_get (D := D) (ci := 5) (v := .int (nI n)) (C := RX5) (T := TX5) (N := 14) hx hb hts hwX5 hown hE.K hP 0 rfl rfl 5 (by decide) (hts (.fieldLink RX5 41 "SedgeBargesModel" "beds" "I") (List.mem_of_getElem? (i := 1) rfl)) (fun _ h9 => h9) rfl dX5_sum_8 ?_
      refine rc_ge (tgt := 32) (a := i) (b := n) hx hb (by omega) (by omega) dX5_sum_11 (by decide) (fun c_11 => ?_) (fun c_11 => ?_)
      · refine lv_iload_n hx hb dX5_sum_32 rfl (lv_at hl 3 rfl) ?_
        rw [show i = n from by omega] at hacc
        exact enI () hx hb hr hlocks hS hP (hacc) dX5_sum_33
      · refine lv_iload_n hx hb dX5_sum_14 rfl (lv_at hl 3 rfl) ?_
        refine lv_aload_n hx hb dX5_sum_15 rfl (lv_at hl 1 rfl) ?_
        refine lv_bipush (v := 8) hx hb dX5_sum_16 (by decide) ?_
        refine lv_iload hx hb dX5_sum_18 (lv_at hl 4 rfl) ?_
        refine rn_mul (a := 8) (b := i) hx hb dX5_sum_20 ?_
        refine lv_iload_n hx hb dX5_sum_21 rfl (lv_at hl 2 rfl) ?_
        refine rn_add (a := 8 * i) (b := 6) hx hb dX5_sum_22 ?_
        refine r_ald (f := pkB B) (v := B 6 i) hx hb hE hP 1 (8 * i + 6) rfl (congrArg nI (by omega)) (by omega) (by decide) (pkB_at 6 (i) (by decide)) dX5_sum_23 ?_
        refine lv_iadd hx hb dX5_sum_24 ?_
        refine lv_topi (fun z_1 hz_1 => ?_)
        refine lv_istore_n (lv' := [(3, .int z_1), (0, .ref h), (1, .ref xb), (2, .int 6), (4, .int (nI i))]) hx hb dX5_sum_25 rfl hl (by decide) rfl (fun ls hl => ?_)
        refine lv_iinc (v := (nI (i + 1))) (lv' := [(4, .int (nI (i + 1))), (3, .int z_1), (0, .ref h), (1, .ref xb), (2, .int 6)]) (k := 4) hx hb dX5_sum_26 hl rfl (iinc1 _) (by decide) rfl (fun ls hl => ?_)
        refine lv_goto (tgt := 5) hx hb dX5_sum_29 (by decide) ?_
        subst hz_1
        exact ih_5  (i + 1) (acc + (B 6 i)) (show n - (i + 1) < f_5 from by omega) (show (i + 1) ≤ n from by omega) (show (acc + (B 6 i)) = sumF (B 6) (i + 1) from by rw [hacc]; rfl) _ _ hP hD hS ls (lv_sub hl [2, 3, 4, 1, 0] rfl)
  exact loop_5 ((n - 0) + 1) 0 0 (Nat.lt_succ_self _) (show 0 ≤ n from by omega) (show 0 = sumF (B 6) 0 from rfl) _ _ hP hD hS ls (lv_sub hl [2, 3, 4, 1, 0] rfl)
set_option maxRecDepth 100000 in
set_option maxHeartbeats 4000000 in
theorem m_sum7 (sa tb : Nat → Nat) (D : va_G) (cA cL : ClassId) (l : Launch) (h : Nat) (mm : Nat → Nat) (th : Int32) (dy : Int32) (co : Int32) (ti : Int32) (ro : Int32) (n : Nat) (nb : Nat) (xb : Nat) (B : Nat → Nat → Int32) (hn : n ≤ 8) : KM sa tb D cA cL l yX5_sum wsX5_sum ({ frames := 0, cells := 0, slots := 0, locals := 0 }) [.ref h, .ref xb, .int 7] ([oMod h mm th dy co ti ro n nb, (xb, I_ cA 64 (pkB B))]) (qI D (fun (r : Int32) (_ : Unit) => r = sumF (B 7) n) (fun _ => [oMod h mm th dy co ti ro n nb, (xb, I_ cA 64 (pkB B))])) := by
  refine KM.of (cc := cX5_sum) (maxL := 5) (ret := some .int) (by decide) rfl (Nat.le_of_ble_eq_true rfl) ?_
  intro pg e s m args below meth c A hx hb hr hml hlocks hts hown hS hA hE hP hD ls hl
  have hown : s.vm.findClass RX5 = some m.cls := hown
  have hl : lv_has ls 5 [(0, .ref h), (1, .ref xb), (2, .int 7)] := hl
  have hwX5 : ∀ w ∈ wsX50, w ∈ wsX5_sum := (fun _ h => List.mem_cons_of_mem _ (List.mem_append_right _ h))
  refine lv_iconst (v := 0) hx hb dX5_sum_0 (by decide) ?_
  refine lv_istore_n (lv' := [(3, .int 0), (0, .ref h), (1, .ref xb), (2, .int 7)]) hx hb dX5_sum_1 rfl hl (by decide) rfl (fun ls hl => ?_)
  refine lv_iconst (v := 0) hx hb dX5_sum_2 (by decide) ?_
  refine lv_istore (lv' := [(4, .int 0), (3, .int 0), (0, .ref h), (1, .ref xb), (2, .int 7)]) hx hb dX5_sum_3 hl (by decide) rfl (fun ls hl => ?_)
  have loop_5 : ∀ (f_5 : Nat) (i : Nat) (acc : Int32), (n - i) < f_5 → (i ≤ n) → (acc = sumF (B 7) i) → ∀ (H : Heap) (locs : List Loc), va_P D vwCl ([oMod h mm th dy co ti ro n nb, (xb, I_ cA 64 (pkB B))]) H → va_D A ([oMod h mm th dy co ti ro n nb, (xb, I_ cA 64 (pkB B))]) → va_S A s.heap H locs → ∀ ls : Array Slot, lv_has ls 5 [(0, .ref h), (1, .ref xb), (2, .int 7), (3, .int acc), (4, .int (nI i))] → W pg l e ({ frames := 0, cells := 0, slots := 0, locals := 0 }) s m args below meth c H locs 0 0 (MQ below (qI D (fun (r : Int32) (_ : Unit) => r = sumF (B 7) n) (fun _ => [oMod h mm th dy co ti ro n nb, (xb, I_ cA 64 (pkB B))]) A) args s 0 0 A) (F0 m 5 ls []) := by
    intro f_5
    induction f_5 with
    | zero => intro i acc h_f; exact absurd h_f (Nat.not_lt_zero _)
    | succ f_5 ih_5 =>
      intro i acc h_f5 hi hacc H locs hP hD hS ls hl
      refine lv_iload hx hb dX5_sum_5 (lv_at hl 4 rfl) ?_
      refine lv_aload_n hx hb dX5_sum_7 rfl (lv_at hl 0 rfl) ?_
      refine va_get (D := D) (ci := 5) (v := .int (nI n)) (C := RX5) (T := TX5) (N := 14) hx hb hts hwX5 hown hE.K hP 0 rfl rfl 5 (by decide) (hts (.fieldLink RX5 41 "SedgeBargesModel" "beds" "I") (List.mem_of_getElem? (i := 1) rfl)) (fun _ h9 => h9) rfl dX5_sum_8 ?_
      refine rc_ge (tgt := 32) (a := i) (b := n) hx hb (by omega) (by omega) dX5_sum_11 (by decide) (fun c_11 => ?_) (fun c_11 => ?_)
      · refine lv_iload_n hx hb dX5_sum_32 rfl (lv_at hl 3 rfl) ?_
        rw [show i = n from by omega] at hacc
        exact enI () hx hb hr hlocks hS hP (hacc) dX5_sum_33
      · refine lv_iload_n hx hb dX5_sum_14 rfl (lv_at hl 3 rfl) ?_
        refine lv_aload_n hx hb dX5_sum_15 rfl (lv_at hl 1 rfl) ?_
        refine lv_bipush (v := 8) hx hb dX5_sum_16 (by decide) ?_
        refine lv_iload hx hb dX5_sum_18 (lv_at hl 4 rfl) ?_
        refine rn_mul (a := 8) (b := i) hx hb dX5_sum_20 ?_
        refine lv_iload_n hx hb dX5_sum_21 rfl (lv_at hl 2 rfl) ?_
        refine rn_add (a := 8 * i) (b := 7) hx hb dX5_sum_22 ?_
        refine r_ald (f := pkB B) (v := B 7 i) hx hb hE hP 1 (8 * i + 7) rfl (congrArg nI (by omega)) (by omega) (by decide) (pkB_at 7 (i) (by decide)) dX5_sum_23 ?_
        refine lv_iadd hx hb dX5_sum_24 ?_
        refine lv_topi (fun z_1 hz_1 => ?_)
        refine lv_istore_n (lv' := [(3, .int z_1), (0, .ref h), (1, .ref xb), (2, .int 7), (4, .int (nI i))]) hx hb dX5_sum_25 rfl hl (by decide) rfl (fun ls hl => ?_)
        refine lv_iinc (v := (nI (i + 1))) (lv' := [(4, .int (nI (i + 1))), (3, .int z_1), (0, .ref h), (1, .ref xb), (2, .int 7)]) (k := 4) hx hb dX5_sum_26 hl rfl (iinc1 _) (by decide) rfl (fun ls hl => ?_)
        refine lv_goto (tgt := 5) hx hb dX5_sum_29 (by decide) ?_
        subst hz_1
        exact ih_5  (i + 1) (acc + (B 7 i)) (show n - (i + 1) < f_5 from by omega) (show (i + 1) ≤ n from by omega) (show (acc + (B 7 i)) = sumF (B 7) (i + 1) from by rw [hacc]; rfl) _ _ hP hD hS ls (lv_sub hl [2, 3, 4, 1, 0] rfl)
  exact loop_5 ((n - 0) + 1) 0 0 (Nat.lt_succ_self _) (show 0 ≤ n from by omega) (show 0 = sumF (B 7) 0 from rfl) _ _ hP hD hS ls (lv_sub hl [2, 3, 4, 1, 0] rfl)
set_option maxRecDepth 100000 in
set_option maxHeartbeats 4000000 in
theorem m_giveAll (sa tb : Nat → Nat) (D : va_G) (cA cL : ClassId) (l : Launch) (h : Nat) (mm : Nat → Nat) (th : Int32) (dy : Int32) (co : Int32) (ti : Int32) (ro : Int32) (n : Nat) (nb : Nat) (xb : Nat) (B : Nat → Nat → Int32) (hn : n ≤ 8) (hB0 : BInv n B) : KM sa tb D cA cL l yX5_giveAll wsX5_giveAll ({ frames := 1, cells := 0, slots := 0, locals := 21 }) [.ref h, .ref xb] ([oMod h mm th dy co ti ro n nb, (xb, I_ cA 64 (pkB B))]) (qI D (fun (r : Int32) (_ : Unit) => r = sumF (given B) n) (fun _ => [oMod h mm th dy co ti ro n nb, (xb, I_ cA 64 (pkB B))])) := by
  refine KM.of (cc := cX5_giveAll) (maxL := 4) (ret := some .int) (by decide) rfl (Nat.le_of_ble_eq_true rfl) ?_
  intro pg e s m args below meth c A hx hb hr hml hlocks hts hown hS hA hE hP hD ls hl
  have hown : s.vm.findClass RX5 = some m.cls := hown
  have hl : lv_has ls 4 [(0, .ref h), (1, .ref xb)] := hl
  have hwX5 : ∀ w ∈ wsX50, w ∈ wsX5_giveAll := (fun _ h => List.mem_cons_of_mem _ (List.mem_append_right _ h))
  refine lv_iconst (v := 0) hx hb dX5_giveAll_0 (by decide) ?_
  refine lv_istore_n (lv' := [(2, .int 0), (0, .ref h), (1, .ref xb)]) hx hb dX5_giveAll_1 rfl hl (by decide) rfl (fun ls hl => ?_)
  refine lv_iconst (v := 0) hx hb dX5_giveAll_2 (by decide) ?_
  refine lv_istore_n (lv' := [(3, .int 0), (2, .int 0), (0, .ref h), (1, .ref xb)]) hx hb dX5_giveAll_3 rfl hl (by decide) rfl (fun ls hl => ?_)
  have loop_4 : ∀ (f_4 : Nat) (i : Nat) (acc : Int32), (n - i) < f_4 → (i ≤ n) → (acc = sumF (given B) i) → ∀ (H : Heap) (locs : List Loc), va_P D vwCl ([oMod h mm th dy co ti ro n nb, (xb, I_ cA 64 (pkB B))]) H → va_D A ([oMod h mm th dy co ti ro n nb, (xb, I_ cA 64 (pkB B))]) → va_S A s.heap H locs → ∀ ls : Array Slot, lv_has ls 4 [(0, .ref h), (1, .ref xb), (2, .int acc), (3, .int (nI i))] → W pg l e ({ frames := 1, cells := 0, slots := 0, locals := 21 }) s m args below meth c H locs 0 0 (MQ below (qI D (fun (r : Int32) (_ : Unit) => r = sumF (given B) n) (fun _ => [oMod h mm th dy co ti ro n nb, (xb, I_ cA 64 (pkB B))]) A) args s 0 0 A) (F0 m 4 ls []) := by
    intro f_4
    induction f_4 with
    | zero => intro i acc h_f; exact absurd h_f (Nat.not_lt_zero _)
    | succ f_4 ih_4 =>
      intro i acc h_f4 hi hacc H locs hP hD hS ls hl
      refine lv_iload_n hx hb dX5_giveAll_4 rfl (lv_at hl 3 rfl) ?_
      refine lv_aload_n hx hb dX5_giveAll_5 rfl (lv_at hl 0 rfl) ?_
      refine va_get (D := D) (ci := 5) (v := .int (nI n)) (C := RX5) (T := TX5) (N := 14) hx hb hts hwX5 hown hE.K hP 0 rfl rfl 5 (by decide) (hts (.fieldLink RX5 41 "SedgeBargesModel" "beds" "I") (List.mem_of_getElem? (i := 1) rfl)) (fun _ h9 => h9) rfl dX5_giveAll_6 ?_
      refine rc_ge (tgt := 29) (a := i) (b := n) hx hb (by omega) (by omega) dX5_giveAll_9 (by decide) (fun c_9 => ?_) (fun c_9 => ?_)
      · refine lv_iload_n hx hb dX5_giveAll_29 rfl (lv_at hl 2 rfl) ?_
        rw [show i = n from by omega] at hacc
        exact enI () hx hb hr hlocks hS hP (hacc) dX5_giveAll_30
      · refine lv_iload_n hx hb dX5_giveAll_12 rfl (lv_at hl 2 rfl) ?_
        refine lv_aload_n hx hb dX5_giveAll_13 rfl (lv_at hl 1 rfl) ?_
        refine lv_bipush (v := 8) hx hb dX5_giveAll_14 (by decide) ?_
        refine lv_iload_n hx hb dX5_giveAll_16 rfl (lv_at hl 3 rfl) ?_
        refine rn_mul (a := 8) (b := i) hx hb dX5_giveAll_17 ?_
        have hPq : va_P D vwCl ([] ++ (([(xb, I_ cA 64 (pkB B))]) ++ ([(h, .inr (5, [.int th, .int dy, .int co, .int ti, .int ro, .int (nI n), .int (nI nb), .ref (mm 0), .ref (mm 1), .ref (mm 2), .ref (mm 3), .ref (mm 4), .ref (mm 5), .ref (mm 6)]))]))) _ := hP.sub [1, 0] rfl
        have hDq : va_D A ([] ++ (([(xb, I_ cA 64 (pkB B))]) ++ ([(h, .inr (5, [.int th, .int dy, .int co, .int ti, .int ro, .int (nI n), .int (nI nb), .ref (mm 0), .ref (mm 1), .ref (mm 2), .ref (mm 3), .ref (mm 4), .ref (mm 5), .ref (mm 6)]))]))) := hD.sub [1, 0] (by decide) rfl
        refine goI ([]) ([(h, .inr (5, [.int th, .int dy, .int co, .int ti, .int ro, .int (nI n), .int (nI nb), .ref (mm 0), .ref (mm 1), .ref (mm 2), .ref (mm 3), .ref (mm 4), .ref (mm 5), .ref (mm 6)]))]) hPq hDq hS hA (rnS (rest := [.int acc]) (m_gives sa tb D cA cL l xb B i (show i < 8 from by first | omega | assumption | decide) (show ∃ j, j < 10 ∧ B 2 i = nI j from (hB0 i (by omega)).2.1)) ([]) ([(h, .inr (5, [.int th, .int dy, .int co, .int ti, .int ro, .int (nI n), .int (nI nb), .ref (mm 0), .ref (mm 1), .ref (mm 2), .ref (mm 3), .ref (mm 4), .ref (mm 5), .ref (mm 6)]))]) hPq hDq hS hA hE ⟨hx, hb, hml, hown, hts⟩ (va_cwS 2 hts gX5_giveAll_X5_gives rfl rfl rfl (by decide +kernel) ⟨(Nat.le_of_ble_eq_true rfl), (Nat.le_of_ble_eq_true rfl)⟩) rfl hl.1 rfl (Nat.le_of_ble_eq_true rfl) dX5_giveAll_18 ⟨(Nat.le_of_ble_eq_true rfl), (Nat.le_of_ble_eq_true rfl)⟩) (fun _ => rfl) (fun r_18 u_18 H locs hw_18 hP hD hS => ?_)
        have hP : va_P D vwCl ([oMod h mm th dy co ti ro n nb, (xb, I_ cA 64 (pkB B))]) H := hP.sub [1, 0] rfl
        have hD : va_D A ([oMod h mm th dy co ti ro n nb, (xb, I_ cA 64 (pkB B))]) := hD.sub [1, 0] (by decide) rfl
        obtain rfl : r_18 = given B i := hw_18
        refine lv_iadd hx hb dX5_giveAll_21 ?_
        refine lv_topi (fun z_1 hz_1 => ?_)
        refine lv_istore_n (lv' := [(2, .int z_1), (0, .ref h), (1, .ref xb), (3, .int (nI i))]) hx hb dX5_giveAll_22 rfl hl (by decide) rfl (fun ls hl => ?_)
        refine lv_iinc (v := (nI (i + 1))) (lv' := [(3, .int (nI (i + 1))), (2, .int z_1), (0, .ref h), (1, .ref xb)]) (k := 3) hx hb dX5_giveAll_23 hl rfl (iinc1 _) (by decide) rfl (fun ls hl => ?_)
        refine lv_goto (tgt := 4) hx hb dX5_giveAll_26 (by decide) ?_
        subst hz_1
        exact ih_4  (i + 1) (acc + (given B i)) (show n - (i + 1) < f_4 from by omega) (show (i + 1) ≤ n from by omega) (show (acc + (given B i)) = sumF (given B) (i + 1) from by rw [hacc]; rfl) _ _ hP hD hS ls (lv_sub hl [2, 3, 1, 0] rfl)
  exact loop_4 ((n - 0) + 1) 0 0 (Nat.lt_succ_self _) (show 0 ≤ n from by omega) (show 0 = sumF (given B) 0 from rfl) _ _ hP hD hS ls (lv_sub hl [2, 3, 1, 0] rfl)
set_option maxRecDepth 100000 in
set_option maxHeartbeats 4000000 in
theorem m_aboardAll (sa tb : Nat → Nat) (D : va_G) (cA cL : ClassId) (l : Launch) (h : Nat) (mm : Nat → Nat) (th : Int32) (dy : Int32) (co : Int32) (ti : Int32) (ro : Int32) (n : Nat) (nb : Nat) (B : Nat → Nat → Int32) (G : Nat → Nat → Int32) (T : Nat → Int32) (BA : Nat → Nat → Int32) (GA : Nat → Nat → Int32) (TA : Nat → Int32) (mo : Nat → Int32) (hnb : nb ≤ 3) : KM sa tb D cA cL l yX5_aboardAll wsX5_aboardAll ({ frames := 1, cells := 0, slots := 0, locals := 21 }) [.ref h] (wMod cA h mm th dy co ti ro n nb B G T BA GA TA mo) (qI D (fun (r : Int32) (_ : Unit) => r = sumF (abd G) nb) (fun _ => wMod cA h mm th dy co ti ro n nb B G T BA GA TA mo)) := by
  refine KM.of (cc := cX5_aboardAll) (maxL := 3) (ret := some .int) (by decide) rfl (Nat.le_of_ble_eq_true rfl) ?_
  intro pg e s m args below meth c A hx hb hr hml hlocks hts hown hS hA hE hP hD ls hl
  have hown : s.vm.findClass RX5 = some m.cls := hown
  have hl : lv_has ls 3 [(0, .ref h)] := hl
  have hwX5 : ∀ w ∈ wsX50, w ∈ wsX5_aboardAll := (fun _ h => List.mem_cons_of_mem _ (List.mem_append_right _ h))
  refine lv_iconst (v := 0) hx hb dX5_aboardAll_0 (by decide) ?_
  refine lv_istore_n (lv' := [(1, .int 0), (0, .ref h)]) hx hb dX5_aboardAll_1 rfl hl (by decide) rfl (fun ls hl => ?_)
  refine lv_iconst (v := 0) hx hb dX5_aboardAll_2 (by decide) ?_
  refine lv_istore_n (lv' := [(2, .int 0), (1, .int 0), (0, .ref h)]) hx hb dX5_aboardAll_3 rfl hl (by decide) rfl (fun ls hl => ?_)
  have loop_4 : ∀ (f_4 : Nat) (i : Nat) (acc : Int32), (nb - i) < f_4 → (i ≤ nb) → (acc = sumF (abd G) i) → ∀ (H : Heap) (locs : List Loc), va_P D vwCl (wMod cA h mm th dy co ti ro n nb B G T BA GA TA mo) H → va_D A (wMod cA h mm th dy co ti ro n nb B G T BA GA TA mo) → va_S A s.heap H locs → ∀ ls : Array Slot, lv_has ls 3 [(0, .ref h), (1, .int acc), (2, .int (nI i))] → W pg l e ({ frames := 1, cells := 0, slots := 0, locals := 21 }) s m args below meth c H locs 0 0 (MQ below (qI D (fun (r : Int32) (_ : Unit) => r = sumF (abd G) nb) (fun _ => wMod cA h mm th dy co ti ro n nb B G T BA GA TA mo) A) args s 0 0 A) (F0 m 4 ls []) := by
    intro f_4
    induction f_4 with
    | zero => intro i acc h_f; exact absurd h_f (Nat.not_lt_zero _)
    | succ f_4 ih_4 =>
      intro i acc h_f4 hi hacc H locs hP hD hS ls hl
      refine lv_iload_n hx hb dX5_aboardAll_4 rfl (lv_at hl 2 rfl) ?_
      refine lv_aload_n hx hb dX5_aboardAll_5 rfl (lv_at hl 0 rfl) ?_
      refine va_get (D := D) (ci := 5) (v := .int (nI nb)) (C := RX5) (T := TX5) (N := 14) hx hb hts hwX5 hown hE.K hP 0 rfl rfl 6 (by decide) (hts (.fieldLink RX5 48 "SedgeBargesModel" "barges" "I") (List.mem_of_getElem? (i := 1) rfl)) (fun _ h9 => h9) rfl dX5_aboardAll_6 ?_
      refine rc_ge (tgt := 28) (a := i) (b := nb) hx hb (by omega) (by omega) dX5_aboardAll_9 (by decide) (fun c_9 => ?_) (fun c_9 => ?_)
      · refine lv_iload_n hx hb dX5_aboardAll_28 rfl (lv_at hl 1 rfl) ?_
        rw [show i = nb from by omega] at hacc
        exact enI () hx hb hr hlocks hS hP (hacc) dX5_aboardAll_29
      · refine lv_iload_n hx hb dX5_aboardAll_12 rfl (lv_at hl 1 rfl) ?_
        refine lv_aload_n hx hb dX5_aboardAll_13 rfl (lv_at hl 0 rfl) ?_
        refine lv_iconst (v := 5) hx hb dX5_aboardAll_14 (by decide) ?_
        refine lv_iload_n hx hb dX5_aboardAll_15 rfl (lv_at hl 2 rfl) ?_
        refine rn_mul (a := 5) (b := i) hx hb dX5_aboardAll_16 ?_
        refine goI ([]) ([]) hP hD hS hA (rnV (rest := [.int acc]) (m_aboard sa tb D cA cL l h mm th dy co ti ro n nb B G T BA GA TA mo i (show i < 3 from by first | omega | assumption | decide)) ([]) ([]) hP hD hS hA hE ⟨hx, hb, hml, hown, hts⟩ (cwV 1 hts gX5_aboardAll_X5_aboard rfl rfl rfl (by decide +kernel) ⟨(Nat.le_of_ble_eq_true rfl), (Nat.le_of_ble_eq_true rfl)⟩) 5 0 rfl rfl rfl rfl hl.1 rfl (Nat.le_of_ble_eq_true rfl) dX5_aboardAll_17 ⟨(Nat.le_of_ble_eq_true rfl), (Nat.le_of_ble_eq_true rfl)⟩) (fun _ => rfl) (fun r_17 u_17 H locs hw_17 hP hD hS => ?_)
        have hP : va_P D vwCl (wMod cA h mm th dy co ti ro n nb B G T BA GA TA mo) H := hP
        have hD : va_D A (wMod cA h mm th dy co ti ro n nb B G T BA GA TA mo) := hD
        obtain rfl : r_17 = abd G i := hw_17
        refine lv_iadd hx hb dX5_aboardAll_20 ?_
        refine lv_topi (fun z_1 hz_1 => ?_)
        refine lv_istore_n (lv' := [(1, .int z_1), (0, .ref h), (2, .int (nI i))]) hx hb dX5_aboardAll_21 rfl hl (by decide) rfl (fun ls hl => ?_)
        refine lv_iinc (v := (nI (i + 1))) (lv' := [(2, .int (nI (i + 1))), (1, .int z_1), (0, .ref h)]) (k := 2) hx hb dX5_aboardAll_22 hl rfl (iinc1 _) (by decide) rfl (fun ls hl => ?_)
        refine lv_goto (tgt := 4) hx hb dX5_aboardAll_25 (by decide) ?_
        subst hz_1
        exact ih_4  (i + 1) (acc + (abd G i)) (show nb - (i + 1) < f_4 from by omega) (show (i + 1) ≤ nb from by omega) (show (acc + (abd G i)) = sumF (abd G) (i + 1) from by rw [hacc]; rfl) _ _ hP hD hS ls (lv_sub hl [2, 1, 0] rfl)
  exact loop_4 ((nb - 0) + 1) 0 0 (Nat.lt_succ_self _) (show 0 ≤ nb from by omega) (show 0 = sumF (abd G) 0 from rfl) _ _ hP hD hS ls (lv_sub hl [2, 1, 0] rfl)
set_option maxRecDepth 100000 in
set_option maxHeartbeats 4000000 in
theorem m_summed (sa tb : Nat → Nat) (D : va_G) (cA cL : ClassId) (l : Launch) (h : Nat) (mm : Nat → Nat) (th : Int32) (dy : Int32) (co : Int32) (ti : Int32) (ro : Int32) (n : Nat) (nb : Nat) (xb : Nat) (B : Nat → Nat → Int32) (xt : Nat) (T : Nat → Int32) (p9 : Int32) (qw : Nat) (hn : n ≤ 8) (hB0 : BInv n B) (hw : qw = 4 ∨ qw = 5 ∨ qw = 9 ∨ qw = 10) : KM sa tb D cA cL l yX5_summed wsX5_summed ({ frames := 2, cells := 0, slots := 0, locals := 44 }) [.ref h, .ref xb, .ref xt, .int p9, .int (nI qw)] ([oMod h mm th dy co ti ro n nb, (xb, I_ cA 64 (pkB B)), (xt, I_ cA 3 T)]) (qI D (fun (r : Int32) (_ : Unit) => r = tellS B n T p9 qw) (fun _ => [oMod h mm th dy co ti ro n nb, (xb, I_ cA 64 (pkB B)), (xt, I_ cA 3 T)])) := by
  refine KM.of (cc := cX5_summed) (maxL := 5) (ret := some .int) (by decide) rfl (Nat.le_of_ble_eq_true rfl) ?_
  intro pg e s m args below meth c A hx hb hr hml hlocks hts hown hS hA hE hP hD ls hl
  have hown : s.vm.findClass RX5 = some m.cls := hown
  have hl : lv_has ls 5 [(0, .ref h), (1, .ref xb), (2, .ref xt), (3, .int p9), (4, .int (nI qw))] := hl
  rcases hw with rfl | rfl | rfl | rfl
  · have hl : lv_has ls 5 [(0, .ref h), (1, .ref xb), (2, .ref xt), (3, .int p9), (4, .int 4)] := hl
    refine lv_iload hx hb dX5_summed_0 (lv_at hl 4 rfl) ?_
    refine lv_lookup (tgt := 36) (off := 34) hx hb dX5_summed_2 (by decide) (by decide) (by decide) ?_
    refine lv_aload_n hx hb dX5_summed_36 rfl (lv_at hl 0 rfl) ?_
    refine lv_aload_n hx hb dX5_summed_37 rfl (lv_at hl 1 rfl) ?_
    refine goI ([]) ([(xt, I_ cA 3 T)]) hP hD hS hA (rnV (rest := []) (m_giveAll sa tb D cA cL l h mm th dy co ti ro n nb xb B (show n ≤ 8 from by first | omega | assumption | decide) (show BInv n B from by first | omega | assumption | decide)) ([]) ([(xt, I_ cA 3 T)]) hP hD hS hA hE ⟨hx, hb, hml, hown, hts⟩ (cwV 1 hts gX5_summed_X5_giveAll rfl rfl rfl (by decide +kernel) ⟨(Nat.le_of_ble_eq_true rfl), (Nat.le_of_ble_eq_true rfl)⟩) 5 0 rfl rfl rfl rfl hl.1 rfl (Nat.le_of_ble_eq_true rfl) dX5_summed_38 ⟨(Nat.le_of_ble_eq_true rfl), (Nat.le_of_ble_eq_true rfl)⟩) (fun _ => rfl) (fun r_38 u_38 H locs hw_38 hP hD hS => ?_)
    have hP : va_P D vwCl ([oMod h mm th dy co ti ro n nb, (xb, I_ cA 64 (pkB B)), (xt, I_ cA 3 T)]) H := hP
    have hD : va_D A ([oMod h mm th dy co ti ro n nb, (xb, I_ cA 64 (pkB B)), (xt, I_ cA 3 T)]) := hD
    obtain rfl : r_38 = sumF (given B) n := hw_38
    exact enI () hx hb hr hlocks hS hP (rfl) dX5_summed_41
  · have hl : lv_has ls 5 [(0, .ref h), (1, .ref xb), (2, .ref xt), (3, .int p9), (4, .int 5)] := hl
    refine lv_iload hx hb dX5_summed_0 (lv_at hl 4 rfl) ?_
    refine lv_lookup (tgt := 42) (off := 40) hx hb dX5_summed_2 (by decide) (by decide) (by decide) ?_
    refine lv_aload_n hx hb dX5_summed_42 rfl (lv_at hl 0 rfl) ?_
    refine lv_aload_n hx hb dX5_summed_43 rfl (lv_at hl 1 rfl) ?_
    refine lv_iconst (v := 4) hx hb dX5_summed_44 (by decide) ?_
    refine goI ([]) ([(xt, I_ cA 3 T)]) hP hD hS hA (rnV (rest := []) (m_sum4 sa tb D cA cL l h mm th dy co ti ro n nb xb B (show n ≤ 8 from by first | omega | assumption | decide)) ([]) ([(xt, I_ cA 3 T)]) hP hD hS hA hE ⟨hx, hb, hml, hown, hts⟩ (cwV 2 hts gX5_summed_X5_sum rfl rfl rfl (by decide +kernel) ⟨(Nat.le_of_ble_eq_true rfl), (Nat.le_of_ble_eq_true rfl)⟩) 5 0 rfl rfl rfl rfl hl.1 rfl (Nat.le_of_ble_eq_true rfl) dX5_summed_45 ⟨(Nat.le_of_ble_eq_true rfl), (Nat.le_of_ble_eq_true rfl)⟩) (fun _ => rfl) (fun r_45 u_45 H locs hw_45 hP hD hS => ?_)
    have hP : va_P D vwCl ([oMod h mm th dy co ti ro n nb, (xb, I_ cA 64 (pkB B)), (xt, I_ cA 3 T)]) H := hP
    have hD : va_D A ([oMod h mm th dy co ti ro n nb, (xb, I_ cA 64 (pkB B)), (xt, I_ cA 3 T)]) := hD
    obtain rfl : r_45 = sumF (B 4) n := hw_45
    refine lv_aload_n hx hb dX5_summed_48 rfl (lv_at hl 0 rfl) ?_
    refine lv_aload_n hx hb dX5_summed_49 rfl (lv_at hl 1 rfl) ?_
    refine lv_iconst (v := 5) hx hb dX5_summed_50 (by decide) ?_
    refine goI ([]) ([(xt, I_ cA 3 T)]) hP hD hS hA (rnV (rest := [.int (sumF (B 4) n)]) (m_sum5 sa tb D cA cL l h mm th dy co ti ro n nb xb B (show n ≤ 8 from by first | omega | assumption | decide)) ([]) ([(xt, I_ cA 3 T)]) hP hD hS hA hE ⟨hx, hb, hml, hown, hts⟩ (cwV 2 hts gX5_summed_X5_sum rfl rfl rfl (by decide +kernel) ⟨(Nat.le_of_ble_eq_true rfl), (Nat.le_of_ble_eq_true rfl)⟩) 5 0 rfl rfl rfl rfl hl.1 rfl (Nat.le_of_ble_eq_true rfl) dX5_summed_51 ⟨(Nat.le_of_ble_eq_true rfl), (Nat.le_of_ble_eq_true rfl)⟩) (fun _ => rfl) (fun r_51 u_51 H locs hw_51 hP hD hS => ?_)
    have hP : va_P D vwCl ([oMod h mm th dy co ti ro n nb, (xb, I_ cA 64 (pkB B)), (xt, I_ cA 3 T)]) H := hP
    have hD : va_D A ([oMod h mm th dy co ti ro n nb, (xb, I_ cA 64 (pkB B)), (xt, I_ cA 3 T)]) := hD
    obtain rfl : r_51 = sumF (B 5) n := hw_51
    refine lv_iadd hx hb dX5_summed_54 ?_
    exact enI () hx hb hr hlocks hS hP (sum_two (B 4) (B 5) n) dX5_summed_55
  · have hl : lv_has ls 5 [(0, .ref h), (1, .ref xb), (2, .ref xt), (3, .int p9), (4, .int 9)] := hl
    refine lv_iload hx hb dX5_summed_0 (lv_at hl 4 rfl) ?_
    refine lv_lookup (tgt := 56) (off := 54) hx hb dX5_summed_2 (by decide) (by decide) (by decide) ?_
    refine lv_aload_n hx hb dX5_summed_56 rfl (lv_at hl 2 rfl) ?_
    refine lv_iconst (v := 0) hx hb dX5_summed_57 (by decide) ?_
    refine r_ald (f := T) (v := T 0) hx hb hE hP 2 (0) rfl rfl (by omega) (by decide) rfl dX5_summed_58 ?_
    refine lv_aload_n hx hb dX5_summed_59 rfl (lv_at hl 2 rfl) ?_
    refine lv_iconst (v := 1) hx hb dX5_summed_60 (by decide) ?_
    refine r_ald (f := T) (v := T 1) hx hb hE hP 2 (1) rfl rfl (by omega) (by decide) rfl dX5_summed_61 ?_
    refine lv_iadd hx hb dX5_summed_62 ?_
    refine lv_aload_n hx hb dX5_summed_63 rfl (lv_at hl 2 rfl) ?_
    refine lv_iconst (v := 2) hx hb dX5_summed_64 (by decide) ?_
    refine r_ald (f := T) (v := T 2) hx hb hE hP 2 (2) rfl rfl (by omega) (by decide) rfl dX5_summed_65 ?_
    refine lv_iadd hx hb dX5_summed_66 ?_
    exact enI () hx hb hr hlocks hS hP (sum_3 T) dX5_summed_67
  · have hl : lv_has ls 5 [(0, .ref h), (1, .ref xb), (2, .ref xt), (3, .int p9), (4, .int 10)] := hl
    refine lv_iload hx hb dX5_summed_0 (lv_at hl 4 rfl) ?_
    refine lv_lookup (tgt := 68) (off := 66) hx hb dX5_summed_2 (by decide) (by decide) (by decide) ?_
    refine lv_iload_n hx hb dX5_summed_68 rfl (lv_at hl 3 rfl) ?_
    exact enI () hx hb hr hlocks hS hP (rfl) dX5_summed_69
set_option maxRecDepth 100000 in
set_option maxHeartbeats 4000000 in
theorem m_counted (sa tb : Nat → Nat) (D : va_G) (cA cL : ClassId) (l : Launch) (h : Nat) (mm : Nat → Nat) (th : Int32) (dy : Int32) (co : Int32) (ti : Int32) (ro : Int32) (n : Nat) (nb : Nat) (B : Nat → Nat → Int32) (G : Nat → Nat → Int32) (T : Nat → Int32) (BA : Nat → Nat → Int32) (GA : Nat → Nat → Int32) (TA : Nat → Int32) (mo : Nat → Int32) (qw : Nat) (hn : n ≤ 8) (hnb : nb ≤ 3) (hI : Inv n nb B G) (hw : qw < 11) : KM sa tb D cA cL l yX5_counted wsX5_counted ({ frames := 3, cells := 0, slots := 0, locals := 68 }) [.ref h, .int (nI qw)] (wMod cA h mm th dy co ti ro n nb B G T BA GA TA mo) (qI D (fun (r : Int32) (_ : Unit) => r = tellW dy co ti ro n B nb G T qw) (fun _ => wMod cA h mm th dy co ti ro n nb B G T BA GA TA mo)) := by
  refine KM.of (cc := cX5_counted) (maxL := 2) (ret := some .int) (by decide) rfl (Nat.le_of_ble_eq_true rfl) ?_
  intro pg e s m args below meth c A hx hb hr hml hlocks hts hown hS hA hE hP hD ls hl
  have hown : s.vm.findClass RX5 = some m.cls := hown
  have hl : lv_has ls 2 [(0, .ref h), (1, .int (nI qw))] := hl
  have hwX5 : ∀ w ∈ wsX50, w ∈ wsX5_counted := (fun _ h => List.mem_cons_of_mem _ (List.mem_append_right _ h))
  have hw9 : qw = 0 ∨ qw = 1 ∨ qw = 2 ∨ qw = 3 ∨ qw = 4 ∨ qw = 5 ∨ qw = 6 ∨ qw = 7 ∨ qw = 8 ∨ qw = 9 ∨ qw = 10 := by omega
  rcases hw9 with rfl | rfl | rfl | rfl | rfl | rfl | rfl | rfl | rfl | rfl | rfl
  · have hl : lv_has ls 2 [(0, .ref h), (1, .int 0)] := hl
    refine lv_iload_n hx hb dX5_counted_0 rfl (lv_at hl 1 rfl) ?_
    refine lv_tableIn (tgt := 52) hx hb dX5_counted_1 (by decide) (by decide) (off := 51) (by decide) (by decide) ?_
    refine lv_aload_n hx hb dX5_counted_52 rfl (lv_at hl 0 rfl) ?_
    refine va_get (D := D) (ci := 5) (v := .int dy) (C := RX5) (T := TX5) (N := 14) hx hb hts hwX5 hown hE.K hP 0 rfl rfl 1 (by decide) (hts (.fieldLink RX5 148 "SedgeBargesModel" "day" "I") (List.mem_of_getElem? (i := 1) rfl)) (fun _ h9 => h9) rfl dX5_counted_53 ?_
    exact enI () hx hb hr hlocks hS hP (rfl) dX5_counted_56
  · have hl : lv_has ls 2 [(0, .ref h), (1, .int 1)] := hl
    refine lv_iload_n hx hb dX5_counted_0 rfl (lv_at hl 1 rfl) ?_
    refine lv_tableIn (tgt := 57) hx hb dX5_counted_1 (by decide) (by decide) (off := 56) (by decide) (by decide) ?_
    refine lv_aload_n hx hb dX5_counted_57 rfl (lv_at hl 0 rfl) ?_
    refine va_get (D := D) (ci := 5) (v := .int co) (C := RX5) (T := TX5) (N := 14) hx hb hts hwX5 hown hE.K hP 0 rfl rfl 2 (by decide) (hts (.fieldLink RX5 7 "SedgeBargesModel" "coins" "I") (List.mem_of_getElem? (i := 2) rfl)) (fun _ h9 => h9) rfl dX5_counted_58 ?_
    exact enI () hx hb hr hlocks hS hP (rfl) dX5_counted_61
  · have hl : lv_has ls 2 [(0, .ref h), (1, .int 2)] := hl
    refine lv_iload_n hx hb dX5_counted_0 rfl (lv_at hl 1 rfl) ?_
    refine lv_tableIn (tgt := 62) hx hb dX5_counted_1 (by decide) (by decide) (off := 61) (by decide) (by decide) ?_
    refine lv_aload_n hx hb dX5_counted_62 rfl (lv_at hl 0 rfl) ?_
    refine va_get (D := D) (ci := 5) (v := .int ti) (C := RX5) (T := TX5) (N := 14) hx hb hts hwX5 hown hE.K hP 0 rfl rfl 3 (by decide) (hts (.fieldLink RX5 13 "SedgeBargesModel" "ties" "I") (List.mem_of_getElem? (i := 3) rfl)) (fun _ h9 => h9) rfl dX5_counted_63 ?_
    exact enI () hx hb hr hlocks hS hP (rfl) dX5_counted_66
  · have hl : lv_has ls 2 [(0, .ref h), (1, .int 3)] := hl
    refine lv_iload_n hx hb dX5_counted_0 rfl (lv_at hl 1 rfl) ?_
    refine lv_tableIn (tgt := 67) hx hb dX5_counted_1 (by decide) (by decide) (off := 66) (by decide) (by decide) ?_
    refine lv_aload_n hx hb dX5_counted_67 rfl (lv_at hl 0 rfl) ?_
    refine va_get (D := D) (ci := 5) (v := .int (nI n)) (C := RX5) (T := TX5) (N := 14) hx hb hts hwX5 hown hE.K hP 0 rfl rfl 5 (by decide) (hts (.fieldLink RX5 41 "SedgeBargesModel" "beds" "I") (List.mem_of_getElem? (i := 4) rfl)) (fun _ h9 => h9) rfl dX5_counted_68 ?_
    exact enI () hx hb hr hlocks hS hP (rfl) dX5_counted_71
  · have hl : lv_has ls 2 [(0, .ref h), (1, .int 4)] := hl
    refine lv_iload_n hx hb dX5_counted_0 rfl (lv_at hl 1 rfl) ?_
    refine lv_tableIn (tgt := 104) hx hb dX5_counted_1 (by decide) (by decide) (off := 103) (by decide) (by decide) ?_
    refine lv_aload_n hx hb dX5_counted_104 rfl (lv_at hl 0 rfl) ?_
    refine lv_aload_n hx hb dX5_counted_105 rfl (lv_at hl 0 rfl) ?_
    refine va_get (D := D) (ci := 5) (v := .ref (mm 0)) (C := RX5) (T := TX5) (N := 14) hx hb hts hwX5 hown hE.K hP 0 rfl rfl 7 (by decide) (hts (.fieldLink RX5 16 "SedgeBargesModel" "b" "[I") (List.mem_of_getElem? (i := 5) rfl)) (fun _ h9 => h9) rfl dX5_counted_106 ?_
    refine lv_aload_n hx hb dX5_counted_109 rfl (lv_at hl 0 rfl) ?_
    refine va_get (D := D) (ci := 5) (v := .ref (mm 2)) (C := RX5) (T := TX5) (N := 14) hx hb hts hwX5 hown hE.K hP 0 rfl rfl 9 (by decide) (hts (.fieldLink RX5 23 "SedgeBargesModel" "store" "[I") (List.mem_of_getElem? (i := 7) rfl)) (fun _ h9 => h9) rfl dX5_counted_110 ?_
    refine lv_aload_n hx hb dX5_counted_113 rfl (lv_at hl 0 rfl) ?_
    refine va_get (D := D) (ci := 5) (v := .int ro) (C := RX5) (T := TX5) (N := 14) hx hb hts hwX5 hown hE.K hP 0 rfl rfl 4 (by decide) (hts (.fieldLink RX5 155 "SedgeBargesModel" "rotted" "I") (List.mem_of_getElem? (i := 8) rfl)) (fun _ h9 => h9) rfl dX5_counted_114 ?_
    refine lv_iload_n hx hb dX5_counted_117 rfl (lv_at hl 1 rfl) ?_
    have hPq : va_P D vwCl ([] ++ (([oMod h mm th dy co ti ro n nb, (mm 0, I_ cA 64 (pkB B)), (mm 2, I_ cA 3 T)]) ++ ([(mm 1, I_ cA 15 (pkG G)), (mm 3, I_ cA 64 (pkB BA)), (mm 4, I_ cA 15 (pkG GA)), (mm 5, I_ cA 3 TA), (mm 6, I_ cA 8 mo)]))) _ := hP.sub [0, 1, 3, 2, 4, 5, 6, 7] rfl
    have hDq : va_D A ([] ++ (([oMod h mm th dy co ti ro n nb, (mm 0, I_ cA 64 (pkB B)), (mm 2, I_ cA 3 T)]) ++ ([(mm 1, I_ cA 15 (pkG G)), (mm 3, I_ cA 64 (pkB BA)), (mm 4, I_ cA 15 (pkG GA)), (mm 5, I_ cA 3 TA), (mm 6, I_ cA 8 mo)]))) := hD.sub [0, 1, 3, 2, 4, 5, 6, 7] (by decide) rfl
    refine goI ([]) ([(mm 1, I_ cA 15 (pkG G)), (mm 3, I_ cA 64 (pkB BA)), (mm 4, I_ cA 15 (pkG GA)), (mm 5, I_ cA 3 TA), (mm 6, I_ cA 8 mo)]) hPq hDq hS hA (rnV (rest := []) (m_summed sa tb D cA cL l h mm th dy co ti ro n nb (mm 0) B (mm 2) T ro 4 (show n ≤ 8 from by first | omega | assumption | decide) (show BInv n B from hI.1) (show 4 = 4 ∨ 4 = 5 ∨ 4 = 9 ∨ 4 = 10 from by decide)) ([]) ([(mm 1, I_ cA 15 (pkG G)), (mm 3, I_ cA 64 (pkB BA)), (mm 4, I_ cA 15 (pkG GA)), (mm 5, I_ cA 3 TA), (mm 6, I_ cA 8 mo)]) hPq hDq hS hA hE ⟨hx, hb, hml, hown, hts⟩ (cwV 4 hts gX5_counted_X5_summed rfl rfl rfl (by decide +kernel) ⟨(Nat.le_of_ble_eq_true rfl), (Nat.le_of_ble_eq_true rfl)⟩) 5 0 rfl rfl rfl rfl hl.1 rfl (Nat.le_of_ble_eq_true rfl) dX5_counted_118 ⟨(Nat.le_of_ble_eq_true rfl), (Nat.le_of_ble_eq_true rfl)⟩) (fun _ => rfl) (fun r_118 u_118 H locs hw_118 hP hD hS => ?_)
    have hP : va_P D vwCl (wMod cA h mm th dy co ti ro n nb B G T BA GA TA mo) H := hP.sub [0, 1, 3, 2, 4, 5, 6, 7] rfl
    have hD : va_D A (wMod cA h mm th dy co ti ro n nb B G T BA GA TA mo) := hD.sub [0, 1, 3, 2, 4, 5, 6, 7] (by decide) rfl
    refine w_eqi (show r_118 = tellS B n T ro 4 from hw_118) ?_
    exact enI () hx hb hr hlocks hS hP (rfl) dX5_counted_121
  · have hl : lv_has ls 2 [(0, .ref h), (1, .int 5)] := hl
    refine lv_iload_n hx hb dX5_counted_0 rfl (lv_at hl 1 rfl) ?_
    refine lv_tableIn (tgt := 104) hx hb dX5_counted_1 (by decide) (by decide) (off := 103) (by decide) (by decide) ?_
    refine lv_aload_n hx hb dX5_counted_104 rfl (lv_at hl 0 rfl) ?_
    refine lv_aload_n hx hb dX5_counted_105 rfl (lv_at hl 0 rfl) ?_
    refine va_get (D := D) (ci := 5) (v := .ref (mm 0)) (C := RX5) (T := TX5) (N := 14) hx hb hts hwX5 hown hE.K hP 0 rfl rfl 7 (by decide) (hts (.fieldLink RX5 16 "SedgeBargesModel" "b" "[I") (List.mem_of_getElem? (i := 5) rfl)) (fun _ h9 => h9) rfl dX5_counted_106 ?_
    refine lv_aload_n hx hb dX5_counted_109 rfl (lv_at hl 0 rfl) ?_
    refine va_get (D := D) (ci := 5) (v := .ref (mm 2)) (C := RX5) (T := TX5) (N := 14) hx hb hts hwX5 hown hE.K hP 0 rfl rfl 9 (by decide) (hts (.fieldLink RX5 23 "SedgeBargesModel" "store" "[I") (List.mem_of_getElem? (i := 7) rfl)) (fun _ h9 => h9) rfl dX5_counted_110 ?_
    refine lv_aload_n hx hb dX5_counted_113 rfl (lv_at hl 0 rfl) ?_
    refine va_get (D := D) (ci := 5) (v := .int ro) (C := RX5) (T := TX5) (N := 14) hx hb hts hwX5 hown hE.K hP 0 rfl rfl 4 (by decide) (hts (.fieldLink RX5 155 "SedgeBargesModel" "rotted" "I") (List.mem_of_getElem? (i := 8) rfl)) (fun _ h9 => h9) rfl dX5_counted_114 ?_
    refine lv_iload_n hx hb dX5_counted_117 rfl (lv_at hl 1 rfl) ?_
    have hPq : va_P D vwCl ([] ++ (([oMod h mm th dy co ti ro n nb, (mm 0, I_ cA 64 (pkB B)), (mm 2, I_ cA 3 T)]) ++ ([(mm 1, I_ cA 15 (pkG G)), (mm 3, I_ cA 64 (pkB BA)), (mm 4, I_ cA 15 (pkG GA)), (mm 5, I_ cA 3 TA), (mm 6, I_ cA 8 mo)]))) _ := hP.sub [0, 1, 3, 2, 4, 5, 6, 7] rfl
    have hDq : va_D A ([] ++ (([oMod h mm th dy co ti ro n nb, (mm 0, I_ cA 64 (pkB B)), (mm 2, I_ cA 3 T)]) ++ ([(mm 1, I_ cA 15 (pkG G)), (mm 3, I_ cA 64 (pkB BA)), (mm 4, I_ cA 15 (pkG GA)), (mm 5, I_ cA 3 TA), (mm 6, I_ cA 8 mo)]))) := hD.sub [0, 1, 3, 2, 4, 5, 6, 7] (by decide) rfl
    refine goI ([]) ([(mm 1, I_ cA 15 (pkG G)), (mm 3, I_ cA 64 (pkB BA)), (mm 4, I_ cA 15 (pkG GA)), (mm 5, I_ cA 3 TA), (mm 6, I_ cA 8 mo)]) hPq hDq hS hA (rnV (rest := []) (m_summed sa tb D cA cL l h mm th dy co ti ro n nb (mm 0) B (mm 2) T ro 5 (show n ≤ 8 from by first | omega | assumption | decide) (show BInv n B from hI.1) (show 5 = 4 ∨ 5 = 5 ∨ 5 = 9 ∨ 5 = 10 from by decide)) ([]) ([(mm 1, I_ cA 15 (pkG G)), (mm 3, I_ cA 64 (pkB BA)), (mm 4, I_ cA 15 (pkG GA)), (mm 5, I_ cA 3 TA), (mm 6, I_ cA 8 mo)]) hPq hDq hS hA hE ⟨hx, hb, hml, hown, hts⟩ (cwV 4 hts gX5_counted_X5_summed rfl rfl rfl (by decide +kernel) ⟨(Nat.le_of_ble_eq_true rfl), (Nat.le_of_ble_eq_true rfl)⟩) 5 0 rfl rfl rfl rfl hl.1 rfl (Nat.le_of_ble_eq_true rfl) dX5_counted_118 ⟨(Nat.le_of_ble_eq_true rfl), (Nat.le_of_ble_eq_true rfl)⟩) (fun _ => rfl) (fun r_118 u_118 H locs hw_118 hP hD hS => ?_)
    have hP : va_P D vwCl (wMod cA h mm th dy co ti ro n nb B G T BA GA TA mo) H := hP.sub [0, 1, 3, 2, 4, 5, 6, 7] rfl
    have hD : va_D A (wMod cA h mm th dy co ti ro n nb B G T BA GA TA mo) := hD.sub [0, 1, 3, 2, 4, 5, 6, 7] (by decide) rfl
    refine w_eqi (show r_118 = tellS B n T ro 5 from hw_118) ?_
    exact enI () hx hb hr hlocks hS hP (rfl) dX5_counted_121
  · have hl : lv_has ls 2 [(0, .ref h), (1, .int 6)] := hl
    refine lv_iload_n hx hb dX5_counted_0 rfl (lv_at hl 1 rfl) ?_
    refine lv_tableIn (tgt := 72) hx hb dX5_counted_1 (by decide) (by decide) (off := 71) (by decide) (by decide) ?_
    refine lv_aload_n hx hb dX5_counted_72 rfl (lv_at hl 0 rfl) ?_
    refine lv_aload_n hx hb dX5_counted_73 rfl (lv_at hl 0 rfl) ?_
    refine va_get (D := D) (ci := 5) (v := .ref (mm 0)) (C := RX5) (T := TX5) (N := 14) hx hb hts hwX5 hown hE.K hP 0 rfl rfl 7 (by decide) (hts (.fieldLink RX5 16 "SedgeBargesModel" "b" "[I") (List.mem_of_getElem? (i := 5) rfl)) (fun _ h9 => h9) rfl dX5_counted_74 ?_
    refine lv_bipush (v := 6) hx hb dX5_counted_77 (by decide) ?_
    refine goI ([]) ([(mm 1, I_ cA 15 (pkG G)), (mm 2, I_ cA 3 T), (mm 3, I_ cA 64 (pkB BA)), (mm 4, I_ cA 15 (pkG GA)), (mm 5, I_ cA 3 TA), (mm 6, I_ cA 8 mo)]) hP hD hS hA (rnV (rest := []) (m_sum6 sa tb D cA cL l h mm th dy co ti ro n nb (mm 0) B (show n ≤ 8 from by first | omega | assumption | decide)) ([]) ([(mm 1, I_ cA 15 (pkG G)), (mm 2, I_ cA 3 T), (mm 3, I_ cA 64 (pkB BA)), (mm 4, I_ cA 15 (pkG GA)), (mm 5, I_ cA 3 TA), (mm 6, I_ cA 8 mo)]) hP hD hS hA hE ⟨hx, hb, hml, hown, hts⟩ (cwV 2 hts gX5_counted_X5_sum rfl rfl rfl (by decide +kernel) ⟨(Nat.le_of_ble_eq_true rfl), (Nat.le_of_ble_eq_true rfl)⟩) 5 0 rfl rfl rfl rfl hl.1 rfl (Nat.le_of_ble_eq_true rfl) dX5_counted_79 ⟨(Nat.le_of_ble_eq_true rfl), (Nat.le_of_ble_eq_true rfl)⟩) (fun _ => rfl) (fun r_79 u_79 H locs hw_79 hP hD hS => ?_)
    have hP : va_P D vwCl (wMod cA h mm th dy co ti ro n nb B G T BA GA TA mo) H := hP
    have hD : va_D A (wMod cA h mm th dy co ti ro n nb B G T BA GA TA mo) := hD
    refine w_eqi (show r_79 = sumF (B 6) n from hw_79) ?_
    refine lv_aload_n hx hb dX5_counted_82 rfl (lv_at hl 0 rfl) ?_
    refine lv_aload_n hx hb dX5_counted_83 rfl (lv_at hl 0 rfl) ?_
    refine va_get (D := D) (ci := 5) (v := .ref (mm 0)) (C := RX5) (T := TX5) (N := 14) hx hb hts hwX5 hown hE.K hP 0 rfl rfl 7 (by decide) (hts (.fieldLink RX5 16 "SedgeBargesModel" "b" "[I") (List.mem_of_getElem? (i := 5) rfl)) (fun _ h9 => h9) rfl dX5_counted_84 ?_
    refine lv_bipush (v := 7) hx hb dX5_counted_87 (by decide) ?_
    refine goI ([]) ([(mm 1, I_ cA 15 (pkG G)), (mm 2, I_ cA 3 T), (mm 3, I_ cA 64 (pkB BA)), (mm 4, I_ cA 15 (pkG GA)), (mm 5, I_ cA 3 TA), (mm 6, I_ cA 8 mo)]) hP hD hS hA (rnV (rest := [.int (sumF (B 6) n)]) (m_sum7 sa tb D cA cL l h mm th dy co ti ro n nb (mm 0) B (show n ≤ 8 from by first | omega | assumption | decide)) ([]) ([(mm 1, I_ cA 15 (pkG G)), (mm 2, I_ cA 3 T), (mm 3, I_ cA 64 (pkB BA)), (mm 4, I_ cA 15 (pkG GA)), (mm 5, I_ cA 3 TA), (mm 6, I_ cA 8 mo)]) hP hD hS hA hE ⟨hx, hb, hml, hown, hts⟩ (cwV 2 hts gX5_counted_X5_sum rfl rfl rfl (by decide +kernel) ⟨(Nat.le_of_ble_eq_true rfl), (Nat.le_of_ble_eq_true rfl)⟩) 5 0 rfl rfl rfl rfl hl.1 rfl (Nat.le_of_ble_eq_true rfl) dX5_counted_89 ⟨(Nat.le_of_ble_eq_true rfl), (Nat.le_of_ble_eq_true rfl)⟩) (fun _ => rfl) (fun r_89 u_89 H locs hw_89 hP hD hS => ?_)
    have hP : va_P D vwCl (wMod cA h mm th dy co ti ro n nb B G T BA GA TA mo) H := hP
    have hD : va_D A (wMod cA h mm th dy co ti ro n nb B G T BA GA TA mo) := hD
    refine w_eqi (show r_89 = sumF (B 7) n from hw_89) ?_
    refine lv_iadd hx hb dX5_counted_92 ?_
    exact enI () hx hb hr hlocks hS hP (sum_two (B 6) (B 7) n) dX5_counted_93
  · have hl : lv_has ls 2 [(0, .ref h), (1, .int 7)] := hl
    refine lv_iload_n hx hb dX5_counted_0 rfl (lv_at hl 1 rfl) ?_
    refine lv_tableIn (tgt := 94) hx hb dX5_counted_1 (by decide) (by decide) (off := 93) (by decide) (by decide) ?_
    refine lv_aload_n hx hb dX5_counted_94 rfl (lv_at hl 0 rfl) ?_
    refine va_get (D := D) (ci := 5) (v := .int (nI nb)) (C := RX5) (T := TX5) (N := 14) hx hb hts hwX5 hown hE.K hP 0 rfl rfl 6 (by decide) (hts (.fieldLink RX5 48 "SedgeBargesModel" "barges" "I") (List.mem_of_getElem? (i := 6) rfl)) (fun _ h9 => h9) rfl dX5_counted_95 ?_
    exact enI () hx hb hr hlocks hS hP (rfl) dX5_counted_98
  · have hl : lv_has ls 2 [(0, .ref h), (1, .int 8)] := hl
    refine lv_iload_n hx hb dX5_counted_0 rfl (lv_at hl 1 rfl) ?_
    refine lv_tableIn (tgt := 99) hx hb dX5_counted_1 (by decide) (by decide) (off := 98) (by decide) (by decide) ?_
    refine lv_aload_n hx hb dX5_counted_99 rfl (lv_at hl 0 rfl) ?_
    refine goI ([]) ([]) hP hD hS hA (rnV (rest := []) (m_aboardAll sa tb D cA cL l h mm th dy co ti ro n nb B G T BA GA TA mo (show nb ≤ 3 from by first | omega | assumption | decide)) ([]) ([]) hP hD hS hA hE ⟨hx, hb, hml, hown, hts⟩ (cwV 0 hts gX5_counted_X5_aboardAll rfl rfl rfl (by decide +kernel) ⟨(Nat.le_of_ble_eq_true rfl), (Nat.le_of_ble_eq_true rfl)⟩) 5 0 rfl rfl rfl rfl hl.1 rfl (Nat.le_of_ble_eq_true rfl) dX5_counted_100 ⟨(Nat.le_of_ble_eq_true rfl), (Nat.le_of_ble_eq_true rfl)⟩) (fun _ => rfl) (fun r_100 u_100 H locs hw_100 hP hD hS => ?_)
    have hP : va_P D vwCl (wMod cA h mm th dy co ti ro n nb B G T BA GA TA mo) H := hP
    have hD : va_D A (wMod cA h mm th dy co ti ro n nb B G T BA GA TA mo) := hD
    refine w_eqi (show r_100 = sumF (abd G) nb from hw_100) ?_
    exact enI () hx hb hr hlocks hS hP (rfl) dX5_counted_103
  · have hl : lv_has ls 2 [(0, .ref h), (1, .int 9)] := hl
    refine lv_iload_n hx hb dX5_counted_0 rfl (lv_at hl 1 rfl) ?_
    refine lv_tableOut (tgt := 104) hx hb dX5_counted_1 (by decide) (by decide) ?_
    refine lv_aload_n hx hb dX5_counted_104 rfl (lv_at hl 0 rfl) ?_
    refine lv_aload_n hx hb dX5_counted_105 rfl (lv_at hl 0 rfl) ?_
    refine va_get (D := D) (ci := 5) (v := .ref (mm 0)) (C := RX5) (T := TX5) (N := 14) hx hb hts hwX5 hown hE.K hP 0 rfl rfl 7 (by decide) (hts (.fieldLink RX5 16 "SedgeBargesModel" "b" "[I") (List.mem_of_getElem? (i := 5) rfl)) (fun _ h9 => h9) rfl dX5_counted_106 ?_
    refine lv_aload_n hx hb dX5_counted_109 rfl (lv_at hl 0 rfl) ?_
    refine va_get (D := D) (ci := 5) (v := .ref (mm 2)) (C := RX5) (T := TX5) (N := 14) hx hb hts hwX5 hown hE.K hP 0 rfl rfl 9 (by decide) (hts (.fieldLink RX5 23 "SedgeBargesModel" "store" "[I") (List.mem_of_getElem? (i := 7) rfl)) (fun _ h9 => h9) rfl dX5_counted_110 ?_
    refine lv_aload_n hx hb dX5_counted_113 rfl (lv_at hl 0 rfl) ?_
    refine va_get (D := D) (ci := 5) (v := .int ro) (C := RX5) (T := TX5) (N := 14) hx hb hts hwX5 hown hE.K hP 0 rfl rfl 4 (by decide) (hts (.fieldLink RX5 155 "SedgeBargesModel" "rotted" "I") (List.mem_of_getElem? (i := 8) rfl)) (fun _ h9 => h9) rfl dX5_counted_114 ?_
    refine lv_iload_n hx hb dX5_counted_117 rfl (lv_at hl 1 rfl) ?_
    have hPq : va_P D vwCl ([] ++ (([oMod h mm th dy co ti ro n nb, (mm 0, I_ cA 64 (pkB B)), (mm 2, I_ cA 3 T)]) ++ ([(mm 1, I_ cA 15 (pkG G)), (mm 3, I_ cA 64 (pkB BA)), (mm 4, I_ cA 15 (pkG GA)), (mm 5, I_ cA 3 TA), (mm 6, I_ cA 8 mo)]))) _ := hP.sub [0, 1, 3, 2, 4, 5, 6, 7] rfl
    have hDq : va_D A ([] ++ (([oMod h mm th dy co ti ro n nb, (mm 0, I_ cA 64 (pkB B)), (mm 2, I_ cA 3 T)]) ++ ([(mm 1, I_ cA 15 (pkG G)), (mm 3, I_ cA 64 (pkB BA)), (mm 4, I_ cA 15 (pkG GA)), (mm 5, I_ cA 3 TA), (mm 6, I_ cA 8 mo)]))) := hD.sub [0, 1, 3, 2, 4, 5, 6, 7] (by decide) rfl
    refine goI ([]) ([(mm 1, I_ cA 15 (pkG G)), (mm 3, I_ cA 64 (pkB BA)), (mm 4, I_ cA 15 (pkG GA)), (mm 5, I_ cA 3 TA), (mm 6, I_ cA 8 mo)]) hPq hDq hS hA (rnV (rest := []) (m_summed sa tb D cA cL l h mm th dy co ti ro n nb (mm 0) B (mm 2) T ro 9 (show n ≤ 8 from by first | omega | assumption | decide) (show BInv n B from hI.1) (show 9 = 4 ∨ 9 = 5 ∨ 9 = 9 ∨ 9 = 10 from by decide)) ([]) ([(mm 1, I_ cA 15 (pkG G)), (mm 3, I_ cA 64 (pkB BA)), (mm 4, I_ cA 15 (pkG GA)), (mm 5, I_ cA 3 TA), (mm 6, I_ cA 8 mo)]) hPq hDq hS hA hE ⟨hx, hb, hml, hown, hts⟩ (cwV 4 hts gX5_counted_X5_summed rfl rfl rfl (by decide +kernel) ⟨(Nat.le_of_ble_eq_true rfl), (Nat.le_of_ble_eq_true rfl)⟩) 5 0 rfl rfl rfl rfl hl.1 rfl (Nat.le_of_ble_eq_true rfl) dX5_counted_118 ⟨(Nat.le_of_ble_eq_true rfl), (Nat.le_of_ble_eq_true rfl)⟩) (fun _ => rfl) (fun r_118 u_118 H locs hw_118 hP hD hS => ?_)
    have hP : va_P D vwCl (wMod cA h mm th dy co ti ro n nb B G T BA GA TA mo) H := hP.sub [0, 1, 3, 2, 4, 5, 6, 7] rfl
    have hD : va_D A (wMod cA h mm th dy co ti ro n nb B G T BA GA TA mo) := hD.sub [0, 1, 3, 2, 4, 5, 6, 7] (by decide) rfl
    refine w_eqi (show r_118 = tellS B n T ro 9 from hw_118) ?_
    exact enI () hx hb hr hlocks hS hP (rfl) dX5_counted_121
  · have hl : lv_has ls 2 [(0, .ref h), (1, .int 10)] := hl
    refine lv_iload_n hx hb dX5_counted_0 rfl (lv_at hl 1 rfl) ?_
    refine lv_tableOut (tgt := 104) hx hb dX5_counted_1 (by decide) (by decide) ?_
    refine lv_aload_n hx hb dX5_counted_104 rfl (lv_at hl 0 rfl) ?_
    refine lv_aload_n hx hb dX5_counted_105 rfl (lv_at hl 0 rfl) ?_
    refine va_get (D := D) (ci := 5) (v := .ref (mm 0)) (C := RX5) (T := TX5) (N := 14) hx hb hts hwX5 hown hE.K hP 0 rfl rfl 7 (by decide) (hts (.fieldLink RX5 16 "SedgeBargesModel" "b" "[I") (List.mem_of_getElem? (i := 5) rfl)) (fun _ h9 => h9) rfl dX5_counted_106 ?_
    refine lv_aload_n hx hb dX5_counted_109 rfl (lv_at hl 0 rfl) ?_
    refine va_get (D := D) (ci := 5) (v := .ref (mm 2)) (C := RX5) (T := TX5) (N := 14) hx hb hts hwX5 hown hE.K hP 0 rfl rfl 9 (by decide) (hts (.fieldLink RX5 23 "SedgeBargesModel" "store" "[I") (List.mem_of_getElem? (i := 7) rfl)) (fun _ h9 => h9) rfl dX5_counted_110 ?_
    refine lv_aload_n hx hb dX5_counted_113 rfl (lv_at hl 0 rfl) ?_
    refine va_get (D := D) (ci := 5) (v := .int ro) (C := RX5) (T := TX5) (N := 14) hx hb hts hwX5 hown hE.K hP 0 rfl rfl 4 (by decide) (hts (.fieldLink RX5 155 "SedgeBargesModel" "rotted" "I") (List.mem_of_getElem? (i := 8) rfl)) (fun _ h9 => h9) rfl dX5_counted_114 ?_
    refine lv_iload_n hx hb dX5_counted_117 rfl (lv_at hl 1 rfl) ?_
    have hPq : va_P D vwCl ([] ++ (([oMod h mm th dy co ti ro n nb, (mm 0, I_ cA 64 (pkB B)), (mm 2, I_ cA 3 T)]) ++ ([(mm 1, I_ cA 15 (pkG G)), (mm 3, I_ cA 64 (pkB BA)), (mm 4, I_ cA 15 (pkG GA)), (mm 5, I_ cA 3 TA), (mm 6, I_ cA 8 mo)]))) _ := hP.sub [0, 1, 3, 2, 4, 5, 6, 7] rfl
    have hDq : va_D A ([] ++ (([oMod h mm th dy co ti ro n nb, (mm 0, I_ cA 64 (pkB B)), (mm 2, I_ cA 3 T)]) ++ ([(mm 1, I_ cA 15 (pkG G)), (mm 3, I_ cA 64 (pkB BA)), (mm 4, I_ cA 15 (pkG GA)), (mm 5, I_ cA 3 TA), (mm 6, I_ cA 8 mo)]))) := hD.sub [0, 1, 3, 2, 4, 5, 6, 7] (by decide) rfl
    refine goI ([]) ([(mm 1, I_ cA 15 (pkG G)), (mm 3, I_ cA 64 (pkB BA)), (mm 4, I_ cA 15 (pkG GA)), (mm 5, I_ cA 3 TA), (mm 6, I_ cA 8 mo)]) hPq hDq hS hA (rnV (rest := []) (m_summed sa tb D cA cL l h mm th dy co ti ro n nb (mm 0) B (mm 2) T ro 10 (show n ≤ 8 from by first | omega | assumption | decide) (show BInv n B from hI.1) (show 10 = 4 ∨ 10 = 5 ∨ 10 = 9 ∨ 10 = 10 from by decide)) ([]) ([(mm 1, I_ cA 15 (pkG G)), (mm 3, I_ cA 64 (pkB BA)), (mm 4, I_ cA 15 (pkG GA)), (mm 5, I_ cA 3 TA), (mm 6, I_ cA 8 mo)]) hPq hDq hS hA hE ⟨hx, hb, hml, hown, hts⟩ (cwV 4 hts gX5_counted_X5_summed rfl rfl rfl (by decide +kernel) ⟨(Nat.le_of_ble_eq_true rfl), (Nat.le_of_ble_eq_true rfl)⟩) 5 0 rfl rfl rfl rfl hl.1 rfl (Nat.le_of_ble_eq_true rfl) dX5_counted_118 ⟨(Nat.le_of_ble_eq_true rfl), (Nat.le_of_ble_eq_true rfl)⟩) (fun _ => rfl) (fun r_118 u_118 H locs hw_118 hP hD hS => ?_)
    have hP : va_P D vwCl (wMod cA h mm th dy co ti ro n nb B G T BA GA TA mo) H := hP.sub [0, 1, 3, 2, 4, 5, 6, 7] rfl
    have hD : va_D A (wMod cA h mm th dy co ti ro n nb B G T BA GA TA mo) := hD.sub [0, 1, 3, 2, 4, 5, 6, 7] (by decide) rfl
    refine w_eqi (show r_118 = tellS B n T ro 10 from hw_118) ?_
    exact enI () hx hb hr hlocks hS hP (rfl) dX5_counted_121
set_option maxRecDepth 100000 in
set_option maxHeartbeats 4000000 in
theorem m_count (sa tb : Nat → Nat) (D : va_G) (cA cL : ClassId) (l : Launch) (h : Nat) (mm : Nat → Nat) (th : Int32) (dy : Int32) (co : Int32) (ti : Int32) (ro : Int32) (n : Nat) (nb : Nat) (B : Nat → Nat → Int32) (G : Nat → Nat → Int32) (T : Nat → Int32) (BA : Nat → Nat → Int32) (GA : Nat → Nat → Int32) (TA : Nat → Int32) (mo : Nat → Int32) (qw : Nat) (hn : n ≤ 8) (hnb : nb ≤ 3) (hI : Inv n nb B G) (hw : qw < 11) : KM sa tb D cA cL l yX5_count wsX5_count ({ frames := 4, cells := 0, slots := 0, locals := 89 }) [.ref h, .int (nI qw)] (wMod cA h mm th dy co ti ro n nb B G T BA GA TA mo) (qI D (fun (r : Int32) (_ : Unit) => r = tellW dy co ti ro n B nb G T qw) (fun _ => wMod cA h mm 0 dy co ti ro n nb B G T BA GA TA mo)) := by
  refine KM.of (cc := cX5_count) (maxL := 2) (ret := some .int) (by decide) rfl (Nat.le_of_ble_eq_true rfl) ?_
  intro pg e s m args below meth c A hx hb hr hml hlocks hts hown hS hA hE hP hD ls hl
  have hown : s.vm.findClass RX5 = some m.cls := hown
  have hl : lv_has ls 2 [(0, .ref h), (1, .int (nI qw))] := hl
  have hwX5 : ∀ w ∈ wsX50, w ∈ wsX5_count := (fun _ h => List.mem_cons_of_mem _ (List.mem_append_right _ h))
  refine lv_aload_n hx hb dX5_count_0 rfl (lv_at hl 0 rfl) ?_
  refine lv_iconst (v := 0) hx hb dX5_count_1 (by decide) ?_
  refine va_put (D := D) (ci := 5) (v := .int 0) (ty := .int) (C := RX5) (T := TX5) (N := 14) hx hb hts hwX5 tyX5 tyX5_ok nmX5 hown hE.K hP hD hS 0 rfl rfl 0 (by decide) (hts (.fieldLink RX5 38 "SedgeBargesModel" "thrown" "I") (List.mem_of_getElem? (i := 1) rfl)) (fun _ h9 => h9) rfl (by decide +kernel) rfl rfl (Nat.le_of_ble_eq_true rfl) dX5_count_2 (fun H locs hP hD hS => ?_)
  have hP : va_P D vwCl (wMod cA h mm 0 dy co ti ro n nb B G T BA GA TA mo) H := hP
  have hD : va_D A (wMod cA h mm 0 dy co ti ro n nb B G T BA GA TA mo) := hD
  refine lv_iload_n hx hb dX5_count_5 rfl (lv_at hl 1 rfl) ?_
  refine lv_iconst (v := 0) hx hb dX5_count_6 (by decide) ?_
  refine lv_bipush (v := 10) hx hb dX5_count_7 (by decide) ?_
  refine goI ([]) (wMod cA h mm 0 dy co ti ro n nb B G T BA GA TA mo) hP hD hS hA (rnS (rest := []) (m_isIn sa tb D cA cL l (nI qw) 0 10 ) ([]) (wMod cA h mm 0 dy co ti ro n nb B G T BA GA TA mo) hP hD hS hA hE ⟨hx, hb, hml, hown, hts⟩ (va_cwS 3 hts gX5_count_X5_isIn rfl rfl rfl (by decide +kernel) ⟨(Nat.le_of_ble_eq_true rfl), (Nat.le_of_ble_eq_true rfl)⟩) rfl hl.1 rfl (Nat.le_of_ble_eq_true rfl) dX5_count_9 ⟨(Nat.le_of_ble_eq_true rfl), (Nat.le_of_ble_eq_true rfl)⟩) (fun _ => rfl) (fun r_9 u_9 H locs hw_9 hP hD hS => ?_)
  have hP : va_P D vwCl (wMod cA h mm 0 dy co ti ro n nb B G T BA GA TA mo) H := hP
  have hD : va_D A (wMod cA h mm 0 dy co ti ro n nb B G T BA GA TA mo) := hD
  obtain rfl : r_9 = bI (isInB (nI qw) 0 10) := hw_9
  refine lv_if_eq (tgt := 23) hx hb dX5_count_12 (by decide) (fun c_12 => False.elim (by exact absurd ((bI0 c_12).symm.trans (isIn_N (q := qw) (m := 10) (by omega) (by decide))) (by decide))) (fun c_12 => ?_)
  refine lv_aload_n hx hb dX5_count_15 rfl (lv_at hl 0 rfl) ?_
  refine lv_iload_n hx hb dX5_count_16 rfl (lv_at hl 1 rfl) ?_
  refine goI ([]) ([]) hP hD hS hA (rnV (rest := []) (m_counted sa tb D cA cL l h mm 0 dy co ti ro n nb B G T BA GA TA mo qw (show n ≤ 8 from by first | omega | assumption | decide) (show nb ≤ 3 from by first | omega | assumption | decide) (show Inv n nb B G from by first | omega | assumption | decide) (show qw < 11 from by first | omega | assumption | decide)) ([]) ([]) hP hD hS hA hE ⟨hx, hb, hml, hown, hts⟩ (cwV 1 hts gX5_count_X5_counted rfl rfl rfl (by decide +kernel) ⟨(Nat.le_of_ble_eq_true rfl), (Nat.le_of_ble_eq_true rfl)⟩) 5 0 rfl rfl rfl rfl hl.1 rfl (Nat.le_of_ble_eq_true rfl) dX5_count_17 ⟨(Nat.le_of_ble_eq_true rfl), (Nat.le_of_ble_eq_true rfl)⟩) (fun _ => rfl) (fun r_17 u_17 H locs hw_17 hP hD hS => ?_)
  have hP : va_P D vwCl (wMod cA h mm 0 dy co ti ro n nb B G T BA GA TA mo) H := hP
  have hD : va_D A (wMod cA h mm 0 dy co ti ro n nb B G T BA GA TA mo) := hD
  obtain rfl : r_17 = tellW dy co ti ro n B nb G T qw := hw_17
  refine lv_goto (tgt := 28) hx hb dX5_count_20 (by decide) ?_
  exact enI () hx hb hr hlocks hS hP (rfl) dX5_count_28
set_option maxRecDepth 100000 in
set_option maxHeartbeats 4000000 in
theorem m_count_1 (sa tb : Nat → Nat) (D : va_G) (cA cL : ClassId) (l : Launch) (h : Nat) (mm : Nat → Nat) (th : Int32) (dy : Int32) (co : Int32) (ti : Int32) (ro : Int32) (n : Nat) (nb : Nat) (B : Nat → Nat → Int32) (G : Nat → Nat → Int32) (T : Nat → Int32) (BA : Nat → Nat → Int32) (GA : Nat → Nat → Int32) (TA : Nat → Int32) (mo : Nat → Int32) (x : Int32) (hb1 : x < 0 ∨ ¬ x < 11) : KM sa tb D cA cL l yX5_count wsX5_count ({ frames := 1, cells := 0, slots := 0, locals := 22 }) [.ref h, .int x] (wMod cA h mm th dy co ti ro n nb B G T BA GA TA mo) (qI D (fun (r : Int32) (_ : Unit) => r = 0) (fun _ => wMod cA h mm 1 dy co ti ro n nb B G T BA GA TA mo)) := by
  refine KM.of (cc := cX5_count) (maxL := 2) (ret := some .int) (by decide) rfl (Nat.le_of_ble_eq_true rfl) ?_
  intro pg e s m args below meth c A hx hb hr hml hlocks hts hown hS hA hE hP hD ls hl
  have hown : s.vm.findClass RX5 = some m.cls := hown
  have hl : lv_has ls 2 [(0, .ref h), (1, .int x)] := hl
  have hwX5 : ∀ w ∈ wsX50, w ∈ wsX5_count := (fun _ h => List.mem_cons_of_mem _ (List.mem_append_right _ h))
  refine lv_aload_n hx hb dX5_count_0 rfl (lv_at hl 0 rfl) ?_
  refine lv_iconst (v := 0) hx hb dX5_count_1 (by decide) ?_
  refine va_put (D := D) (ci := 5) (v := .int 0) (ty := .int) (C := RX5) (T := TX5) (N := 14) hx hb hts hwX5 tyX5 tyX5_ok nmX5 hown hE.K hP hD hS 0 rfl rfl 0 (by decide) (hts (.fieldLink RX5 38 "SedgeBargesModel" "thrown" "I") (List.mem_of_getElem? (i := 1) rfl)) (fun _ h9 => h9) rfl (by decide +kernel) rfl rfl (Nat.le_of_ble_eq_true rfl) dX5_count_2 (fun H locs hP hD hS => ?_)
  have hP : va_P D vwCl (wMod cA h mm 0 dy co ti ro n nb B G T BA GA TA mo) H := hP
  have hD : va_D A (wMod cA h mm 0 dy co ti ro n nb B G T BA GA TA mo) := hD
  refine lv_iload_n hx hb dX5_count_5 rfl (lv_at hl 1 rfl) ?_
  refine lv_iconst (v := 0) hx hb dX5_count_6 (by decide) ?_
  refine lv_bipush (v := 10) hx hb dX5_count_7 (by decide) ?_
  refine goI ([]) (wMod cA h mm 0 dy co ti ro n nb B G T BA GA TA mo) hP hD hS hA (rnS (rest := []) (m_isIn sa tb D cA cL l x 0 10 ) ([]) (wMod cA h mm 0 dy co ti ro n nb B G T BA GA TA mo) hP hD hS hA hE ⟨hx, hb, hml, hown, hts⟩ (va_cwS 3 hts gX5_count_X5_isIn rfl rfl rfl (by decide +kernel) ⟨(Nat.le_of_ble_eq_true rfl), (Nat.le_of_ble_eq_true rfl)⟩) rfl hl.1 rfl (Nat.le_of_ble_eq_true rfl) dX5_count_9 ⟨(Nat.le_of_ble_eq_true rfl), (Nat.le_of_ble_eq_true rfl)⟩) (fun _ => rfl) (fun r_9 u_9 H locs hw_9 hP hD hS => ?_)
  have hP : va_P D vwCl (wMod cA h mm 0 dy co ti ro n nb B G T BA GA TA mo) H := hP
  have hD : va_D A (wMod cA h mm 0 dy co ti ro n nb B G T BA GA TA mo) := hD
  obtain rfl : r_9 = bI (isInB x 0 10) := hw_9
  refine lv_if_eq (tgt := 23) hx hb dX5_count_12 (by decide) (fun c_12 => ?_) (fun c_12 => False.elim (by exact c_12 (congrArg bI (isIn_no (lt_le (by decide) hb1)))))
  refine lv_aload_n hx hb dX5_count_23 rfl (lv_at hl 0 rfl) ?_
  refine lv_iconst (v := 1) hx hb dX5_count_24 (by decide) ?_
  refine goI ([]) ([(mm 0, I_ cA 64 (pkB B)), (mm 1, I_ cA 15 (pkG G)), (mm 2, I_ cA 3 T), (mm 3, I_ cA 64 (pkB BA)), (mm 4, I_ cA 15 (pkG GA)), (mm 5, I_ cA 3 TA), (mm 6, I_ cA 8 mo)]) hP hD hS hA (rnV (rest := []) (m_no sa tb D cA cL l h mm 0 dy co ti ro n nb 1 ) ([]) ([(mm 0, I_ cA 64 (pkB B)), (mm 1, I_ cA 15 (pkG G)), (mm 2, I_ cA 3 T), (mm 3, I_ cA 64 (pkB BA)), (mm 4, I_ cA 15 (pkG GA)), (mm 5, I_ cA 3 TA), (mm 6, I_ cA 8 mo)]) hP hD hS hA hE ⟨hx, hb, hml, hown, hts⟩ (cwV 1 hts gX5_count_X5_no rfl rfl rfl (by decide +kernel) ⟨(Nat.le_of_ble_eq_true rfl), (Nat.le_of_ble_eq_true rfl)⟩) 5 0 rfl rfl rfl rfl hl.1 rfl (Nat.le_of_ble_eq_true rfl) dX5_count_25 ⟨(Nat.le_of_ble_eq_true rfl), (Nat.le_of_ble_eq_true rfl)⟩) (fun _ => (show List.map Prod.fst _ = [h] from rfl).trans (show [h] = List.map Prod.fst _ from rfl)) (fun r_25 u_25 H locs hw_25 hP hD hS => ?_)
  have hP : va_P D vwCl (wMod cA h mm 1 dy co ti ro n nb B G T BA GA TA mo) H := hP
  have hD : va_D A (wMod cA h mm 1 dy co ti ro n nb B G T BA GA TA mo) := hD
  obtain rfl : r_25 = 0 := hw_25
  exact enI () hx hb hr hlocks hS hP (rfl) dX5_count_28
set_option maxRecDepth 100000 in
set_option maxHeartbeats 4000000 in
theorem m_foresee (sa tb : Nat → Nat) (D : va_G) (cA cL : ClassId) (l : Launch) (h : Nat) (mm : Nat → Nat) (th : Int32) (dy : Int32) (co : Int32) (ti : Int32) (ro : Int32) (n : Nat) (nb : Nat) (B : Nat → Nat → Int32) (G : Nat → Nat → Int32) (T : Nat → Int32) (BA : Nat → Nat → Int32) (GA : Nat → Nat → Int32) (TA : Nat → Int32) (mo : Nat → Int32) (d : Nat) (qw : Nat) (hn : n ≤ 8) (hnb : nb ≤ 3) (hI : Inv n nb B G) (h0 : 1 ≤ d) (h1 : d ≤ 200) (hw : qw = 4 ∨ qw = 5 ∨ qw = 9 ∨ qw = 10) : KM sa tb D cA cL l yX5_foresee wsX5_foresee ({ frames := 4, cells := 0, slots := 0, locals := 97 }) [.ref h, .int (nI d), .int (nI qw)] (wMod cA h mm th dy co ti ro n nb B G T BA GA TA mo) (qI D (fun (r : Int32) (uu : (Nat → Nat → Int32) × (Nat → Nat → Int32) × (Nat → Int32) × (Nat → Int32)) => r = tellW (daysS n nb d (dy, ro, cpN 8 B BA, cpN 3 G GA, cpT3 T TA)).1 co ti (daysS n nb d (dy, ro, cpN 8 B BA, cpN 3 G GA, cpT3 T TA)).2.1 n (daysS n nb d (dy, ro, cpN 8 B BA, cpN 3 G GA, cpT3 T TA)).2.2.1 nb (daysS n nb d (dy, ro, cpN 8 B BA, cpN 3 G GA, cpT3 T TA)).2.2.2.1 (daysS n nb d (dy, ro, cpN 8 B BA, cpN 3 G GA, cpT3 T TA)).2.2.2.2 qw) (fun uu => wMod cA h mm 0 dy co ti ro n nb B G T uu.1 uu.2.1 uu.2.2.1 uu.2.2.2)) := by
  refine KM.of (cc := cX5_foresee) (maxL := 5) (ret := some .int) (by decide) rfl (Nat.le_of_ble_eq_true rfl) ?_
  intro pg e s m args below meth c A hx hb hr hml hlocks hts hown hS hA hE hP hD ls hl
  have hown : s.vm.findClass RX5 = some m.cls := hown
  have hl : lv_has ls 5 [(0, .ref h), (1, .int (nI d)), (2, .int (nI qw))] := hl
  have hwX5 : ∀ w ∈ wsX50, w ∈ wsX5_foresee := (fun _ h => List.mem_cons_of_mem _ (List.mem_append_right _ h))
  rcases hw with rfl | rfl | rfl | rfl
  · have hl : lv_has ls 5 [(0, .ref h), (1, .int (nI d)), (2, .int 4)] := hl
    refine lv_aload_n hx hb dX5_foresee_0 rfl (lv_at hl 0 rfl) ?_
    refine lv_iconst (v := 0) hx hb dX5_foresee_1 (by decide) ?_
    refine va_put (D := D) (ci := 5) (v := .int 0) (ty := .int) (C := RX5) (T := TX5) (N := 14) hx hb hts hwX5 tyX5 tyX5_ok nmX5 hown hE.K hP hD hS 0 rfl rfl 0 (by decide) (hts (.fieldLink RX5 38 "SedgeBargesModel" "thrown" "I") (List.mem_of_getElem? (i := 1) rfl)) (fun _ h9 => h9) rfl (by decide +kernel) rfl rfl (Nat.le_of_ble_eq_true rfl) dX5_foresee_2 (fun H locs hP hD hS => ?_)
    have hP : va_P D vwCl (wMod cA h mm 0 dy co ti ro n nb B G T BA GA TA mo) H := hP
    have hD : va_D A (wMod cA h mm 0 dy co ti ro n nb B G T BA GA TA mo) := hD
    refine lv_iload_n hx hb dX5_foresee_5 rfl (lv_at hl 1 rfl) ?_
    refine lv_iconst (v := 1) hx hb dX5_foresee_6 (by decide) ?_
    refine lv_sipush (v := 200) hx hb dX5_foresee_7 (by decide) ?_
    refine goI ([]) (wMod cA h mm 0 dy co ti ro n nb B G T BA GA TA mo) hP hD hS hA (rnS (rest := []) (m_isIn sa tb D cA cL l (nI d) 1 200 ) ([]) (wMod cA h mm 0 dy co ti ro n nb B G T BA GA TA mo) hP hD hS hA hE ⟨hx, hb, hml, hown, hts⟩ (va_cwS 3 hts gX5_foresee_X5_isIn rfl rfl rfl (by decide +kernel) ⟨(Nat.le_of_ble_eq_true rfl), (Nat.le_of_ble_eq_true rfl)⟩) rfl hl.1 rfl (Nat.le_of_ble_eq_true rfl) dX5_foresee_10 ⟨(Nat.le_of_ble_eq_true rfl), (Nat.le_of_ble_eq_true rfl)⟩) (fun _ => rfl) (fun r_10 u_10 H locs hw_10 hP hD hS => ?_)
    have hP : va_P D vwCl (wMod cA h mm 0 dy co ti ro n nb B G T BA GA TA mo) H := hP
    have hD : va_D A (wMod cA h mm 0 dy co ti ro n nb B G T BA GA TA mo) := hD
    refine w_eqi (show r_10 = bI (isInB (nI d) 1 200) from hw_10) ?_
    refine lv_if_ne (tgt := 22) hx hb dX5_foresee_13 (by decide) (fun c_13 => ?_) (fun c_13 => False.elim (by exact absurd ((bI0 c_13).symm.trans (isIn_d h0 h1)) (by decide)))
    refine lv_iload_n hx hb dX5_foresee_22 rfl (lv_at hl 2 rfl) ?_
    refine lv_iconst (v := 4) hx hb dX5_foresee_23 (by decide) ?_
    refine lv_icmp_eq (tgt := 50) hx hb dX5_foresee_24 (by decide) (fun _ => ?_) (fun q => absurd (by decide) q)
    refine lv_aload_n hx hb dX5_foresee_50 rfl (lv_at hl 0 rfl) ?_
    refine goV ([]) ([]) hP hD hS hA (rnV (rest := []) (m_lookAhead sa tb D cA cL l h mm 0 dy co ti ro n nb B G T BA GA TA mo ) ([]) ([]) hP hD hS hA hE ⟨hx, hb, hml, hown, hts⟩ (cwV 0 hts gX5_foresee_X5_lookAhead rfl rfl rfl (by decide +kernel) ⟨(Nat.le_of_ble_eq_true rfl), (Nat.le_of_ble_eq_true rfl)⟩) 5 0 rfl rfl rfl rfl hl.1 rfl (Nat.le_of_ble_eq_true rfl) dX5_foresee_51 ⟨(Nat.le_of_ble_eq_true rfl), (Nat.le_of_ble_eq_true rfl)⟩) (fun _ => (show List.map Prod.fst _ = [h, mm 0, mm 1, mm 2, mm 3, mm 4, mm 5, mm 6] from rfl).trans (show [h, mm 0, mm 1, mm 2, mm 3, mm 4, mm 5, mm 6] = List.map Prod.fst _ from rfl)) (fun u_51 H locs hw_51 hP hD hS => ?_)
    have hP : va_P D vwCl (wMod cA h mm 0 dy co ti ro n nb B G T (cpN 8 B BA) (cpN 3 G GA) (cpT3 T TA) mo) H := hP
    have hD : va_D A (wMod cA h mm 0 dy co ti ro n nb B G T (cpN 8 B BA) (cpN 3 G GA) (cpT3 T TA) mo) := hD
    refine lv_aload_n hx hb dX5_foresee_54 rfl (lv_at hl 0 rfl) ?_
    refine va_get (D := D) (ci := 5) (v := .int ro) (C := RX5) (T := TX5) (N := 14) hx hb hts hwX5 hown hE.K hP 0 rfl rfl 4 (by decide) (hts (.fieldLink RX5 155 "SedgeBargesModel" "rotted" "I") (List.mem_of_getElem? (i := 2) rfl)) (fun _ h9 => h9) rfl dX5_foresee_55 ?_
    refine lv_istore_n (lv' := [(3, .int ro), (0, .ref h), (1, .int (nI d)), (2, .int 4)]) hx hb dX5_foresee_58 rfl hl (by decide) rfl (fun ls hl => ?_)
    refine lv_iconst (v := 0) hx hb dX5_foresee_59 (by decide) ?_
    refine lv_istore (lv' := [(4, .int 0), (3, .int ro), (0, .ref h), (1, .int (nI d)), (2, .int 4)]) hx hb dX5_foresee_60 hl (by decide) rfl (fun ls hl => ?_)
    have loop_62 : ∀ (f_62 : Nat) (i : Nat) (xs : DS) (rt : Int32) (cx : Nat → Int32), (d - i) < f_62 → (i ≤ d) → (xs = daysS n nb i (dy, ro, cpN 8 B BA, cpN 3 G GA, cpT3 T TA)) → (xs.1 = dy + nI i) → (rt = xs.2.1) → ∀ (H : Heap) (locs : List Loc), va_P D vwCl (wMod cA h mm 0 dy co ti ro n nb B G T xs.2.2.1 xs.2.2.2.1 xs.2.2.2.2 cx) H → va_D A (wMod cA h mm 0 dy co ti ro n nb B G T xs.2.2.1 xs.2.2.2.1 xs.2.2.2.2 cx) → va_S A s.heap H locs → ∀ ls : Array Slot, lv_has ls 5 [(0, .ref h), (1, .int (nI d)), (2, .int 4), (3, .int rt), (4, .int (nI i))] → W pg l e ({ frames := 4, cells := 0, slots := 0, locals := 97 }) s m args below meth c H locs 0 0 (MQ below (qI D (fun (r : Int32) (uu : (Nat → Nat → Int32) × (Nat → Nat → Int32) × (Nat → Int32) × (Nat → Int32)) => r = tellW (daysS n nb d (dy, ro, cpN 8 B BA, cpN 3 G GA, cpT3 T TA)).1 co ti (daysS n nb d (dy, ro, cpN 8 B BA, cpN 3 G GA, cpT3 T TA)).2.1 n (daysS n nb d (dy, ro, cpN 8 B BA, cpN 3 G GA, cpT3 T TA)).2.2.1 nb (daysS n nb d (dy, ro, cpN 8 B BA, cpN 3 G GA, cpT3 T TA)).2.2.2.1 (daysS n nb d (dy, ro, cpN 8 B BA, cpN 3 G GA, cpT3 T TA)).2.2.2.2 4) (fun uu => wMod cA h mm 0 dy co ti ro n nb B G T uu.1 uu.2.1 uu.2.2.1 uu.2.2.2) A) args s 0 0 A) (F0 m 62 ls []) := by
      intro f_62
      induction f_62 with
      | zero => intro i xs rt cx h_f; exact absurd h_f (Nat.not_lt_zero _)
      | succ f_62 ih_62 =>
        intro i xs rt cx h_f62 hi hxs hx1 hrt H locs hP hD hS ls hl
        refine lv_iload hx hb dX5_foresee_62 (lv_at hl 4 rfl) ?_
        refine lv_iload_n hx hb dX5_foresee_64 rfl (lv_at hl 1 rfl) ?_
        refine rc_ge (tgt := 100) (a := i) (b := d) hx hb (by omega) (by omega) dX5_foresee_65 (by decide) (fun c_65 => ?_) (fun c_65 => ?_)
        · refine lv_aload_n hx hb dX5_foresee_100 rfl (lv_at hl 0 rfl) ?_
          refine lv_aload_n hx hb dX5_foresee_101 rfl (lv_at hl 0 rfl) ?_
          refine va_get (D := D) (ci := 5) (v := .ref (mm 3)) (C := RX5) (T := TX5) (N := 14) hx hb hts hwX5 hown hE.K hP 0 rfl rfl 10 (by decide) (hts (.fieldLink RX5 26 "SedgeBargesModel" "bAhead" "[I") (List.mem_of_getElem? (i := 3) rfl)) (fun _ h9 => h9) rfl dX5_foresee_102 ?_
          refine lv_aload_n hx hb dX5_foresee_105 rfl (lv_at hl 0 rfl) ?_
          refine va_get (D := D) (ci := 5) (v := .ref (mm 5)) (C := RX5) (T := TX5) (N := 14) hx hb hts hwX5 hown hE.K hP 0 rfl rfl 12 (by decide) (hts (.fieldLink RX5 32 "SedgeBargesModel" "storeAhead" "[I") (List.mem_of_getElem? (i := 5) rfl)) (fun _ h9 => h9) rfl dX5_foresee_106 ?_
          refine lv_iload_n hx hb dX5_foresee_109 rfl (lv_at hl 3 rfl) ?_
          refine lv_iload_n hx hb dX5_foresee_110 rfl (lv_at hl 2 rfl) ?_
          have hPq : va_P D vwCl ([] ++ (([oMod h mm 0 dy co ti ro n nb, (mm 3, I_ cA 64 (pkB xs.2.2.1)), (mm 5, I_ cA 3 xs.2.2.2.2)]) ++ ([(mm 0, I_ cA 64 (pkB B)), (mm 1, I_ cA 15 (pkG G)), (mm 2, I_ cA 3 T), (mm 4, I_ cA 15 (pkG xs.2.2.2.1)), (mm 6, I_ cA 8 cx)]))) _ := hP.sub [0, 4, 6, 1, 2, 3, 5, 7] rfl
          have hDq : va_D A ([] ++ (([oMod h mm 0 dy co ti ro n nb, (mm 3, I_ cA 64 (pkB xs.2.2.1)), (mm 5, I_ cA 3 xs.2.2.2.2)]) ++ ([(mm 0, I_ cA 64 (pkB B)), (mm 1, I_ cA 15 (pkG G)), (mm 2, I_ cA 3 T), (mm 4, I_ cA 15 (pkG xs.2.2.2.1)), (mm 6, I_ cA 8 cx)]))) := hD.sub [0, 4, 6, 1, 2, 3, 5, 7] (by decide) rfl
          refine goI ([]) ([(mm 0, I_ cA 64 (pkB B)), (mm 1, I_ cA 15 (pkG G)), (mm 2, I_ cA 3 T), (mm 4, I_ cA 15 (pkG xs.2.2.2.1)), (mm 6, I_ cA 8 cx)]) hPq hDq hS hA (rnV (rest := []) (m_summed sa tb D cA cL l h mm 0 dy co ti ro n nb (mm 3) xs.2.2.1 (mm 5) xs.2.2.2.2 rt 4 (show n ≤ 8 from by first | omega | assumption | decide) (show BInv n xs.2.2.1 from by rw [hxs]; exact (days_inv (x := (dy, ro, cpN 8 B BA, cpN 3 G GA, cpT3 T TA)) (cpN_inv hn hI.1) (cpN_ginv hnb hI.2) i).1) (show 4 = 4 ∨ 4 = 5 ∨ 4 = 9 ∨ 4 = 10 from by decide)) ([]) ([(mm 0, I_ cA 64 (pkB B)), (mm 1, I_ cA 15 (pkG G)), (mm 2, I_ cA 3 T), (mm 4, I_ cA 15 (pkG xs.2.2.2.1)), (mm 6, I_ cA 8 cx)]) hPq hDq hS hA hE ⟨hx, hb, hml, hown, hts⟩ (cwV 4 hts gX5_foresee_X5_summed rfl rfl rfl (by decide +kernel) ⟨(Nat.le_of_ble_eq_true rfl), (Nat.le_of_ble_eq_true rfl)⟩) 5 0 rfl rfl rfl rfl hl.1 rfl (Nat.le_of_ble_eq_true rfl) dX5_foresee_111 ⟨(Nat.le_of_ble_eq_true rfl), (Nat.le_of_ble_eq_true rfl)⟩) (fun _ => rfl) (fun r_111 u_111 H locs hw_111 hP hD hS => ?_)
          have hP : va_P D vwCl (wMod cA h mm 0 dy co ti ro n nb B G T xs.2.2.1 xs.2.2.2.1 xs.2.2.2.2 cx) H := hP.sub [0, 3, 4, 5, 1, 6, 2, 7] rfl
          have hD : va_D A (wMod cA h mm 0 dy co ti ro n nb B G T xs.2.2.1 xs.2.2.2.1 xs.2.2.2.2 cx) := hD.sub [0, 3, 4, 5, 1, 6, 2, 7] (by decide) rfl
          refine w_eqi (show r_111 = tellS xs.2.2.1 n xs.2.2.2.2 rt 4 from hw_111) ?_
          rw [show i = d from by omega] at hxs
          subst hxs
          subst hrt
          exact enI ((daysS n nb d (dy, ro, cpN 8 B BA, cpN 3 G GA, cpT3 T TA)).2.2.1, (daysS n nb d (dy, ro, cpN 8 B BA, cpN 3 G GA, cpT3 T TA)).2.2.2.1, (daysS n nb d (dy, ro, cpN 8 B BA, cpN 3 G GA, cpT3 T TA)).2.2.2.2, cx) hx hb hr hlocks hS hP (rfl) dX5_foresee_114
        · refine lv_iload_n hx hb dX5_foresee_68 rfl (lv_at hl 3 rfl) ?_
          refine lv_aload_n hx hb dX5_foresee_69 rfl (lv_at hl 0 rfl) ?_
          refine lv_aload_n hx hb dX5_foresee_70 rfl (lv_at hl 0 rfl) ?_
          refine va_get (D := D) (ci := 5) (v := .ref (mm 3)) (C := RX5) (T := TX5) (N := 14) hx hb hts hwX5 hown hE.K hP 0 rfl rfl 10 (by decide) (hts (.fieldLink RX5 26 "SedgeBargesModel" "bAhead" "[I") (List.mem_of_getElem? (i := 3) rfl)) (fun _ h9 => h9) rfl dX5_foresee_71 ?_
          refine lv_aload_n hx hb dX5_foresee_74 rfl (lv_at hl 0 rfl) ?_
          refine va_get (D := D) (ci := 5) (v := .ref (mm 4)) (C := RX5) (T := TX5) (N := 14) hx hb hts hwX5 hown hE.K hP 0 rfl rfl 11 (by decide) (hts (.fieldLink RX5 29 "SedgeBargesModel" "gAhead" "[I") (List.mem_of_getElem? (i := 4) rfl)) (fun _ h9 => h9) rfl dX5_foresee_75 ?_
          refine lv_aload_n hx hb dX5_foresee_78 rfl (lv_at hl 0 rfl) ?_
          refine va_get (D := D) (ci := 5) (v := .ref (mm 5)) (C := RX5) (T := TX5) (N := 14) hx hb hts hwX5 hown hE.K hP 0 rfl rfl 12 (by decide) (hts (.fieldLink RX5 32 "SedgeBargesModel" "storeAhead" "[I") (List.mem_of_getElem? (i := 5) rfl)) (fun _ h9 => h9) rfl dX5_foresee_79 ?_
          refine lv_aload_n hx hb dX5_foresee_82 rfl (lv_at hl 0 rfl) ?_
          refine va_get (D := D) (ci := 5) (v := .int dy) (C := RX5) (T := TX5) (N := 14) hx hb hts hwX5 hown hE.K hP 0 rfl rfl 1 (by decide) (hts (.fieldLink RX5 148 "SedgeBargesModel" "day" "I") (List.mem_of_getElem? (i := 6) rfl)) (fun _ h9 => h9) rfl dX5_foresee_83 ?_
          refine lv_iload hx hb dX5_foresee_86 (lv_at hl 4 rfl) ?_
          refine lv_iadd hx hb dX5_foresee_88 ?_
          refine w_eqi (show dy + nI i = xs.1 from hx1.symm) ?_
          have hPq : va_P D vwCl ([] ++ (([oMod h mm 0 dy co ti ro n nb, (mm 3, I_ cA 64 (pkB xs.2.2.1)), (mm 4, I_ cA 15 (pkG xs.2.2.2.1)), (mm 5, I_ cA 3 xs.2.2.2.2), (mm 6, I_ cA 8 cx)]) ++ ([(mm 0, I_ cA 64 (pkB B)), (mm 1, I_ cA 15 (pkG G)), (mm 2, I_ cA 3 T)]))) _ := hP.sub [0, 4, 5, 6, 7, 1, 2, 3] rfl
          have hDq : va_D A ([] ++ (([oMod h mm 0 dy co ti ro n nb, (mm 3, I_ cA 64 (pkB xs.2.2.1)), (mm 4, I_ cA 15 (pkG xs.2.2.2.1)), (mm 5, I_ cA 3 xs.2.2.2.2), (mm 6, I_ cA 8 cx)]) ++ ([(mm 0, I_ cA 64 (pkB B)), (mm 1, I_ cA 15 (pkG G)), (mm 2, I_ cA 3 T)]))) := hD.sub [0, 4, 5, 6, 7, 1, 2, 3] (by decide) rfl
          refine goI ([]) ([(mm 0, I_ cA 64 (pkB B)), (mm 1, I_ cA 15 (pkG G)), (mm 2, I_ cA 3 T)]) hPq hDq hS hA (rnV (rest := [.int rt]) (m_pass sa tb D cA cL l h mm 0 dy co ti ro n nb (mm 3) xs.2.2.1 (mm 4) xs.2.2.2.1 (mm 5) xs.2.2.2.2 cx xs.1 (show n ≤ 8 from by first | omega | assumption | decide) (show nb ≤ 3 from by first | omega | assumption | decide) (show BInv n xs.2.2.1 from by rw [hxs]; exact (days_inv (x := (dy, ro, cpN 8 B BA, cpN 3 G GA, cpT3 T TA)) (cpN_inv hn hI.1) (cpN_ginv hnb hI.2) i).1) (show GInv nb xs.2.2.2.1 from by rw [hxs]; exact (days_inv (x := (dy, ro, cpN 8 B BA, cpN 3 G GA, cpT3 T TA)) (cpN_inv hn hI.1) (cpN_ginv hnb hI.2) i).2)) ([]) ([(mm 0, I_ cA 64 (pkB B)), (mm 1, I_ cA 15 (pkG G)), (mm 2, I_ cA 3 T)]) hPq hDq hS hA hE ⟨hx, hb, hml, hown, hts⟩ (cwV 4 hts gX5_foresee_X5_pass rfl rfl rfl (by decide +kernel) ⟨(Nat.le_of_ble_eq_true rfl), (Nat.le_of_ble_eq_true rfl)⟩) 5 0 rfl rfl rfl rfl hl.1 rfl (Nat.le_of_ble_eq_true rfl) dX5_foresee_89 ⟨(Nat.le_of_ble_eq_true rfl), (Nat.le_of_ble_eq_true rfl)⟩) (fun _ => (show List.map Prod.fst _ = [h, mm 3, mm 4, mm 5, mm 6] from rfl).trans (show [h, mm 3, mm 4, mm 5, mm 6] = List.map Prod.fst _ from rfl)) (fun r_89 u_89 H locs hw_89 hP hD hS => ?_)
          have hP : va_P D vwCl (wMod cA h mm 0 dy co ti ro n nb B G T (dayB n xs.1 xs.2.2.1) (sailG nb xs.2.2.2.1) (thT xs.2.2.2.2) u_89) H := hP.sub [0, 5, 6, 7, 1, 2, 3, 4] rfl
          have hD : va_D A (wMod cA h mm 0 dy co ti ro n nb B G T (dayB n xs.1 xs.2.2.1) (sailG nb xs.2.2.2.1) (thT xs.2.2.2.2) u_89) := hD.sub [0, 5, 6, 7, 1, 2, 3, 4] (by decide) rfl
          refine w_eqi (show r_89 = sumF (rotF xs.2.2.1) n from hw_89) ?_
          refine lv_iadd hx hb dX5_foresee_92 ?_
          refine lv_topi (fun z_1 hz_1 => ?_)
          refine lv_istore_n (lv' := [(3, .int z_1), (0, .ref h), (1, .int (nI d)), (2, .int 4), (4, .int (nI i))]) hx hb dX5_foresee_93 rfl hl (by decide) rfl (fun ls hl => ?_)
          refine lv_iinc (v := (nI (i + 1))) (lv' := [(4, .int (nI (i + 1))), (3, .int z_1), (0, .ref h), (1, .int (nI d)), (2, .int 4)]) (k := 4) hx hb dX5_foresee_94 hl rfl (iinc1 _) (by decide) rfl (fun ls hl => ?_)
          refine lv_goto (tgt := 62) hx hb dX5_foresee_97 (by decide) ?_
          subst hz_1
          exact ih_62  (i + 1) (dayS n nb xs) (rt + (sumF (rotF xs.2.2.1) n)) u_89 (show d - (i + 1) < f_62 from by omega) (show (i + 1) ≤ d from by omega) (show (dayS n nb xs) = daysS n nb (i + 1) (dy, ro, cpN 8 B BA, cpN 3 G GA, cpT3 T TA) from by rw [hxs]; rfl) (show (dayS n nb xs).1 = dy + nI (i + 1) from by show xs.1 + 1 = _; rw [hx1, i_thr1, nI_1]) (show (rt + (sumF (rotF xs.2.2.1) n)) = (dayS n nb xs).2.1 from by rw [hrt]; rfl) _ _ hP hD hS ls (lv_sub hl [2, 3, 4, 1, 0] rfl)
    exact loop_62 ((d - 0) + 1) 0 (dy, ro, cpN 8 B BA, cpN 3 G GA, cpT3 T TA) ro mo (Nat.lt_succ_self _) (show 0 ≤ d from by omega) (show (dy, ro, cpN 8 B BA, cpN 3 G GA, cpT3 T TA) = daysS n nb 0 (dy, ro, cpN 8 B BA, cpN 3 G GA, cpT3 T TA) from rfl) (show (dy, ro, cpN 8 B BA, cpN 3 G GA, cpT3 T TA).1 = dy + nI 0 from by show dy = dy + nI 0; rw [nI_0, Int32.add_zero]) (show ro = (dy, ro, cpN 8 B BA, cpN 3 G GA, cpT3 T TA).2.1 from rfl) _ _ hP hD hS ls (lv_sub hl [2, 3, 4, 1, 0] rfl)
  · have hl : lv_has ls 5 [(0, .ref h), (1, .int (nI d)), (2, .int 5)] := hl
    refine lv_aload_n hx hb dX5_foresee_0 rfl (lv_at hl 0 rfl) ?_
    refine lv_iconst (v := 0) hx hb dX5_foresee_1 (by decide) ?_
    refine va_put (D := D) (ci := 5) (v := .int 0) (ty := .int) (C := RX5) (T := TX5) (N := 14) hx hb hts hwX5 tyX5 tyX5_ok nmX5 hown hE.K hP hD hS 0 rfl rfl 0 (by decide) (hts (.fieldLink RX5 38 "SedgeBargesModel" "thrown" "I") (List.mem_of_getElem? (i := 1) rfl)) (fun _ h9 => h9) rfl (by decide +kernel) rfl rfl (Nat.le_of_ble_eq_true rfl) dX5_foresee_2 (fun H locs hP hD hS => ?_)
    have hP : va_P D vwCl (wMod cA h mm 0 dy co ti ro n nb B G T BA GA TA mo) H := hP
    have hD : va_D A (wMod cA h mm 0 dy co ti ro n nb B G T BA GA TA mo) := hD
    refine lv_iload_n hx hb dX5_foresee_5 rfl (lv_at hl 1 rfl) ?_
    refine lv_iconst (v := 1) hx hb dX5_foresee_6 (by decide) ?_
    refine lv_sipush (v := 200) hx hb dX5_foresee_7 (by decide) ?_
    refine goI ([]) (wMod cA h mm 0 dy co ti ro n nb B G T BA GA TA mo) hP hD hS hA (rnS (rest := []) (m_isIn sa tb D cA cL l (nI d) 1 200 ) ([]) (wMod cA h mm 0 dy co ti ro n nb B G T BA GA TA mo) hP hD hS hA hE ⟨hx, hb, hml, hown, hts⟩ (va_cwS 3 hts gX5_foresee_X5_isIn rfl rfl rfl (by decide +kernel) ⟨(Nat.le_of_ble_eq_true rfl), (Nat.le_of_ble_eq_true rfl)⟩) rfl hl.1 rfl (Nat.le_of_ble_eq_true rfl) dX5_foresee_10 ⟨(Nat.le_of_ble_eq_true rfl), (Nat.le_of_ble_eq_true rfl)⟩) (fun _ => rfl) (fun r_10 u_10 H locs hw_10 hP hD hS => ?_)
    have hP : va_P D vwCl (wMod cA h mm 0 dy co ti ro n nb B G T BA GA TA mo) H := hP
    have hD : va_D A (wMod cA h mm 0 dy co ti ro n nb B G T BA GA TA mo) := hD
    refine w_eqi (show r_10 = bI (isInB (nI d) 1 200) from hw_10) ?_
    refine lv_if_ne (tgt := 22) hx hb dX5_foresee_13 (by decide) (fun c_13 => ?_) (fun c_13 => False.elim (by exact absurd ((bI0 c_13).symm.trans (isIn_d h0 h1)) (by decide)))
    refine lv_iload_n hx hb dX5_foresee_22 rfl (lv_at hl 2 rfl) ?_
    refine lv_iconst (v := 4) hx hb dX5_foresee_23 (by decide) ?_
    refine lv_icmp_eq (tgt := 50) hx hb dX5_foresee_24 (by decide) (fun q => absurd q (by decide)) (fun _ => ?_)
    refine lv_iload_n hx hb dX5_foresee_27 rfl (lv_at hl 2 rfl) ?_
    refine lv_iconst (v := 5) hx hb dX5_foresee_28 (by decide) ?_
    refine lv_icmp_eq (tgt := 50) hx hb dX5_foresee_29 (by decide) (fun _ => ?_) (fun q => absurd (by decide) q)
    refine lv_aload_n hx hb dX5_foresee_50 rfl (lv_at hl 0 rfl) ?_
    refine goV ([]) ([]) hP hD hS hA (rnV (rest := []) (m_lookAhead sa tb D cA cL l h mm 0 dy co ti ro n nb B G T BA GA TA mo ) ([]) ([]) hP hD hS hA hE ⟨hx, hb, hml, hown, hts⟩ (cwV 0 hts gX5_foresee_X5_lookAhead rfl rfl rfl (by decide +kernel) ⟨(Nat.le_of_ble_eq_true rfl), (Nat.le_of_ble_eq_true rfl)⟩) 5 0 rfl rfl rfl rfl hl.1 rfl (Nat.le_of_ble_eq_true rfl) dX5_foresee_51 ⟨(Nat.le_of_ble_eq_true rfl), (Nat.le_of_ble_eq_true rfl)⟩) (fun _ => (show List.map Prod.fst _ = [h, mm 0, mm 1, mm 2, mm 3, mm 4, mm 5, mm 6] from rfl).trans (show [h, mm 0, mm 1, mm 2, mm 3, mm 4, mm 5, mm 6] = List.map Prod.fst _ from rfl)) (fun u_51 H locs hw_51 hP hD hS => ?_)
    have hP : va_P D vwCl (wMod cA h mm 0 dy co ti ro n nb B G T (cpN 8 B BA) (cpN 3 G GA) (cpT3 T TA) mo) H := hP
    have hD : va_D A (wMod cA h mm 0 dy co ti ro n nb B G T (cpN 8 B BA) (cpN 3 G GA) (cpT3 T TA) mo) := hD
    refine lv_aload_n hx hb dX5_foresee_54 rfl (lv_at hl 0 rfl) ?_
    refine va_get (D := D) (ci := 5) (v := .int ro) (C := RX5) (T := TX5) (N := 14) hx hb hts hwX5 hown hE.K hP 0 rfl rfl 4 (by decide) (hts (.fieldLink RX5 155 "SedgeBargesModel" "rotted" "I") (List.mem_of_getElem? (i := 2) rfl)) (fun _ h9 => h9) rfl dX5_foresee_55 ?_
    refine lv_istore_n (lv' := [(3, .int ro), (0, .ref h), (1, .int (nI d)), (2, .int 5)]) hx hb dX5_foresee_58 rfl hl (by decide) rfl (fun ls hl => ?_)
    refine lv_iconst (v := 0) hx hb dX5_foresee_59 (by decide) ?_
    refine lv_istore (lv' := [(4, .int 0), (3, .int ro), (0, .ref h), (1, .int (nI d)), (2, .int 5)]) hx hb dX5_foresee_60 hl (by decide) rfl (fun ls hl => ?_)
    have loop_62 : ∀ (f_62 : Nat) (i : Nat) (xs : DS) (rt : Int32) (cx : Nat → Int32), (d - i) < f_62 → (i ≤ d) → (xs = daysS n nb i (dy, ro, cpN 8 B BA, cpN 3 G GA, cpT3 T TA)) → (xs.1 = dy + nI i) → (rt = xs.2.1) → ∀ (H : Heap) (locs : List Loc), va_P D vwCl (wMod cA h mm 0 dy co ti ro n nb B G T xs.2.2.1 xs.2.2.2.1 xs.2.2.2.2 cx) H → va_D A (wMod cA h mm 0 dy co ti ro n nb B G T xs.2.2.1 xs.2.2.2.1 xs.2.2.2.2 cx) → va_S A s.heap H locs → ∀ ls : Array Slot, lv_has ls 5 [(0, .ref h), (1, .int (nI d)), (2, .int 5), (3, .int rt), (4, .int (nI i))] → W pg l e ({ frames := 4, cells := 0, slots := 0, locals := 97 }) s m args below meth c H locs 0 0 (MQ below (qI D (fun (r : Int32) (uu : (Nat → Nat → Int32) × (Nat → Nat → Int32) × (Nat → Int32) × (Nat → Int32)) => r = tellW (daysS n nb d (dy, ro, cpN 8 B BA, cpN 3 G GA, cpT3 T TA)).1 co ti (daysS n nb d (dy, ro, cpN 8 B BA, cpN 3 G GA, cpT3 T TA)).2.1 n (daysS n nb d (dy, ro, cpN 8 B BA, cpN 3 G GA, cpT3 T TA)).2.2.1 nb (daysS n nb d (dy, ro, cpN 8 B BA, cpN 3 G GA, cpT3 T TA)).2.2.2.1 (daysS n nb d (dy, ro, cpN 8 B BA, cpN 3 G GA, cpT3 T TA)).2.2.2.2 5) (fun uu => wMod cA h mm 0 dy co ti ro n nb B G T uu.1 uu.2.1 uu.2.2.1 uu.2.2.2) A) args s 0 0 A) (F0 m 62 ls []) := by
      intro f_62
      induction f_62 with
      | zero => intro i xs rt cx h_f; exact absurd h_f (Nat.not_lt_zero _)
      | succ f_62 ih_62 =>
        intro i xs rt cx h_f62 hi hxs hx1 hrt H locs hP hD hS ls hl
        refine lv_iload hx hb dX5_foresee_62 (lv_at hl 4 rfl) ?_
        refine lv_iload_n hx hb dX5_foresee_64 rfl (lv_at hl 1 rfl) ?_
        refine rc_ge (tgt := 100) (a := i) (b := d) hx hb (by omega) (by omega) dX5_foresee_65 (by decide) (fun c_65 => ?_) (fun c_65 => ?_)
        · refine lv_aload_n hx hb dX5_foresee_100 rfl (lv_at hl 0 rfl) ?_
          refine lv_aload_n hx hb dX5_foresee_101 rfl (lv_at hl 0 rfl) ?_
          refine va_get (D := D) (ci := 5) (v := .ref (mm 3)) (C := RX5) (T := TX5) (N := 14) hx hb hts hwX5 hown hE.K hP 0 rfl rfl 10 (by decide) (hts (.fieldLink RX5 26 "SedgeBargesModel" "bAhead" "[I") (List.mem_of_getElem? (i := 3) rfl)) (fun _ h9 => h9) rfl dX5_foresee_102 ?_
          refine lv_aload_n hx hb dX5_foresee_105 rfl (lv_at hl 0 rfl) ?_
          refine va_get (D := D) (ci := 5) (v := .ref (mm 5)) (C := RX5) (T := TX5) (N := 14) hx hb hts hwX5 hown hE.K hP 0 rfl rfl 12 (by decide) (hts (.fieldLink RX5 32 "SedgeBargesModel" "storeAhead" "[I") (List.mem_of_getElem? (i := 5) rfl)) (fun _ h9 => h9) rfl dX5_foresee_106 ?_
          refine lv_iload_n hx hb dX5_foresee_109 rfl (lv_at hl 3 rfl) ?_
          refine lv_iload_n hx hb dX5_foresee_110 rfl (lv_at hl 2 rfl) ?_
          have hPq : va_P D vwCl ([] ++ (([oMod h mm 0 dy co ti ro n nb, (mm 3, I_ cA 64 (pkB xs.2.2.1)), (mm 5, I_ cA 3 xs.2.2.2.2)]) ++ ([(mm 0, I_ cA 64 (pkB B)), (mm 1, I_ cA 15 (pkG G)), (mm 2, I_ cA 3 T), (mm 4, I_ cA 15 (pkG xs.2.2.2.1)), (mm 6, I_ cA 8 cx)]))) _ := hP.sub [0, 4, 6, 1, 2, 3, 5, 7] rfl
          have hDq : va_D A ([] ++ (([oMod h mm 0 dy co ti ro n nb, (mm 3, I_ cA 64 (pkB xs.2.2.1)), (mm 5, I_ cA 3 xs.2.2.2.2)]) ++ ([(mm 0, I_ cA 64 (pkB B)), (mm 1, I_ cA 15 (pkG G)), (mm 2, I_ cA 3 T), (mm 4, I_ cA 15 (pkG xs.2.2.2.1)), (mm 6, I_ cA 8 cx)]))) := hD.sub [0, 4, 6, 1, 2, 3, 5, 7] (by decide) rfl
          refine goI ([]) ([(mm 0, I_ cA 64 (pkB B)), (mm 1, I_ cA 15 (pkG G)), (mm 2, I_ cA 3 T), (mm 4, I_ cA 15 (pkG xs.2.2.2.1)), (mm 6, I_ cA 8 cx)]) hPq hDq hS hA (rnV (rest := []) (m_summed sa tb D cA cL l h mm 0 dy co ti ro n nb (mm 3) xs.2.2.1 (mm 5) xs.2.2.2.2 rt 5 (show n ≤ 8 from by first | omega | assumption | decide) (show BInv n xs.2.2.1 from by rw [hxs]; exact (days_inv (x := (dy, ro, cpN 8 B BA, cpN 3 G GA, cpT3 T TA)) (cpN_inv hn hI.1) (cpN_ginv hnb hI.2) i).1) (show 5 = 4 ∨ 5 = 5 ∨ 5 = 9 ∨ 5 = 10 from by decide)) ([]) ([(mm 0, I_ cA 64 (pkB B)), (mm 1, I_ cA 15 (pkG G)), (mm 2, I_ cA 3 T), (mm 4, I_ cA 15 (pkG xs.2.2.2.1)), (mm 6, I_ cA 8 cx)]) hPq hDq hS hA hE ⟨hx, hb, hml, hown, hts⟩ (cwV 4 hts gX5_foresee_X5_summed rfl rfl rfl (by decide +kernel) ⟨(Nat.le_of_ble_eq_true rfl), (Nat.le_of_ble_eq_true rfl)⟩) 5 0 rfl rfl rfl rfl hl.1 rfl (Nat.le_of_ble_eq_true rfl) dX5_foresee_111 ⟨(Nat.le_of_ble_eq_true rfl), (Nat.le_of_ble_eq_true rfl)⟩) (fun _ => rfl) (fun r_111 u_111 H locs hw_111 hP hD hS => ?_)
          have hP : va_P D vwCl (wMod cA h mm 0 dy co ti ro n nb B G T xs.2.2.1 xs.2.2.2.1 xs.2.2.2.2 cx) H := hP.sub [0, 3, 4, 5, 1, 6, 2, 7] rfl
          have hD : va_D A (wMod cA h mm 0 dy co ti ro n nb B G T xs.2.2.1 xs.2.2.2.1 xs.2.2.2.2 cx) := hD.sub [0, 3, 4, 5, 1, 6, 2, 7] (by decide) rfl
          refine w_eqi (show r_111 = tellS xs.2.2.1 n xs.2.2.2.2 rt 5 from hw_111) ?_
          rw [show i = d from by omega] at hxs
          subst hxs
          subst hrt
          exact enI ((daysS n nb d (dy, ro, cpN 8 B BA, cpN 3 G GA, cpT3 T TA)).2.2.1, (daysS n nb d (dy, ro, cpN 8 B BA, cpN 3 G GA, cpT3 T TA)).2.2.2.1, (daysS n nb d (dy, ro, cpN 8 B BA, cpN 3 G GA, cpT3 T TA)).2.2.2.2, cx) hx hb hr hlocks hS hP (rfl) dX5_foresee_114
        · refine lv_iload_n hx hb dX5_foresee_68 rfl (lv_at hl 3 rfl) ?_
          refine lv_aload_n hx hb dX5_foresee_69 rfl (lv_at hl 0 rfl) ?_
          refine lv_aload_n hx hb dX5_foresee_70 rfl (lv_at hl 0 rfl) ?_
          refine va_get (D := D) (ci := 5) (v := .ref (mm 3)) (C := RX5) (T := TX5) (N := 14) hx hb hts hwX5 hown hE.K hP 0 rfl rfl 10 (by decide) (hts (.fieldLink RX5 26 "SedgeBargesModel" "bAhead" "[I") (List.mem_of_getElem? (i := 3) rfl)) (fun _ h9 => h9) rfl dX5_foresee_71 ?_
          refine lv_aload_n hx hb dX5_foresee_74 rfl (lv_at hl 0 rfl) ?_
          refine va_get (D := D) (ci := 5) (v := .ref (mm 4)) (C := RX5) (T := TX5) (N := 14) hx hb hts hwX5 hown hE.K hP 0 rfl rfl 11 (by decide) (hts (.fieldLink RX5 29 "SedgeBargesModel" "gAhead" "[I") (List.mem_of_getElem? (i := 4) rfl)) (fun _ h9 => h9) rfl dX5_foresee_75 ?_
          refine lv_aload_n hx hb dX5_foresee_78 rfl (lv_at hl 0 rfl) ?_
          refine va_get (D := D) (ci := 5) (v := .ref (mm 5)) (C := RX5) (T := TX5) (N := 14) hx hb hts hwX5 hown hE.K hP 0 rfl rfl 12 (by decide) (hts (.fieldLink RX5 32 "SedgeBargesModel" "storeAhead" "[I") (List.mem_of_getElem? (i := 5) rfl)) (fun _ h9 => h9) rfl dX5_foresee_79 ?_
          refine lv_aload_n hx hb dX5_foresee_82 rfl (lv_at hl 0 rfl) ?_
          refine va_get (D := D) (ci := 5) (v := .int dy) (C := RX5) (T := TX5) (N := 14) hx hb hts hwX5 hown hE.K hP 0 rfl rfl 1 (by decide) (hts (.fieldLink RX5 148 "SedgeBargesModel" "day" "I") (List.mem_of_getElem? (i := 6) rfl)) (fun _ h9 => h9) rfl dX5_foresee_83 ?_
          refine lv_iload hx hb dX5_foresee_86 (lv_at hl 4 rfl) ?_
          refine lv_iadd hx hb dX5_foresee_88 ?_
          refine w_eqi (show dy + nI i = xs.1 from hx1.symm) ?_
          have hPq : va_P D vwCl ([] ++ (([oMod h mm 0 dy co ti ro n nb, (mm 3, I_ cA 64 (pkB xs.2.2.1)), (mm 4, I_ cA 15 (pkG xs.2.2.2.1)), (mm 5, I_ cA 3 xs.2.2.2.2), (mm 6, I_ cA 8 cx)]) ++ ([(mm 0, I_ cA 64 (pkB B)), (mm 1, I_ cA 15 (pkG G)), (mm 2, I_ cA 3 T)]))) _ := hP.sub [0, 4, 5, 6, 7, 1, 2, 3] rfl
          have hDq : va_D A ([] ++ (([oMod h mm 0 dy co ti ro n nb, (mm 3, I_ cA 64 (pkB xs.2.2.1)), (mm 4, I_ cA 15 (pkG xs.2.2.2.1)), (mm 5, I_ cA 3 xs.2.2.2.2), (mm 6, I_ cA 8 cx)]) ++ ([(mm 0, I_ cA 64 (pkB B)), (mm 1, I_ cA 15 (pkG G)), (mm 2, I_ cA 3 T)]))) := hD.sub [0, 4, 5, 6, 7, 1, 2, 3] (by decide) rfl
          refine goI ([]) ([(mm 0, I_ cA 64 (pkB B)), (mm 1, I_ cA 15 (pkG G)), (mm 2, I_ cA 3 T)]) hPq hDq hS hA (rnV (rest := [.int rt]) (m_pass sa tb D cA cL l h mm 0 dy co ti ro n nb (mm 3) xs.2.2.1 (mm 4) xs.2.2.2.1 (mm 5) xs.2.2.2.2 cx xs.1 (show n ≤ 8 from by first | omega | assumption | decide) (show nb ≤ 3 from by first | omega | assumption | decide) (show BInv n xs.2.2.1 from by rw [hxs]; exact (days_inv (x := (dy, ro, cpN 8 B BA, cpN 3 G GA, cpT3 T TA)) (cpN_inv hn hI.1) (cpN_ginv hnb hI.2) i).1) (show GInv nb xs.2.2.2.1 from by rw [hxs]; exact (days_inv (x := (dy, ro, cpN 8 B BA, cpN 3 G GA, cpT3 T TA)) (cpN_inv hn hI.1) (cpN_ginv hnb hI.2) i).2)) ([]) ([(mm 0, I_ cA 64 (pkB B)), (mm 1, I_ cA 15 (pkG G)), (mm 2, I_ cA 3 T)]) hPq hDq hS hA hE ⟨hx, hb, hml, hown, hts⟩ (cwV 4 hts gX5_foresee_X5_pass rfl rfl rfl (by decide +kernel) ⟨(Nat.le_of_ble_eq_true rfl), (Nat.le_of_ble_eq_true rfl)⟩) 5 0 rfl rfl rfl rfl hl.1 rfl (Nat.le_of_ble_eq_true rfl) dX5_foresee_89 ⟨(Nat.le_of_ble_eq_true rfl), (Nat.le_of_ble_eq_true rfl)⟩) (fun _ => (show List.map Prod.fst _ = [h, mm 3, mm 4, mm 5, mm 6] from rfl).trans (show [h, mm 3, mm 4, mm 5, mm 6] = List.map Prod.fst _ from rfl)) (fun r_89 u_89 H locs hw_89 hP hD hS => ?_)
          have hP : va_P D vwCl (wMod cA h mm 0 dy co ti ro n nb B G T (dayB n xs.1 xs.2.2.1) (sailG nb xs.2.2.2.1) (thT xs.2.2.2.2) u_89) H := hP.sub [0, 5, 6, 7, 1, 2, 3, 4] rfl
          have hD : va_D A (wMod cA h mm 0 dy co ti ro n nb B G T (dayB n xs.1 xs.2.2.1) (sailG nb xs.2.2.2.1) (thT xs.2.2.2.2) u_89) := hD.sub [0, 5, 6, 7, 1, 2, 3, 4] (by decide) rfl
          refine w_eqi (show r_89 = sumF (rotF xs.2.2.1) n from hw_89) ?_
          refine lv_iadd hx hb dX5_foresee_92 ?_
          refine lv_topi (fun z_2 hz_2 => ?_)
          refine lv_istore_n (lv' := [(3, .int z_2), (0, .ref h), (1, .int (nI d)), (2, .int 5), (4, .int (nI i))]) hx hb dX5_foresee_93 rfl hl (by decide) rfl (fun ls hl => ?_)
          refine lv_iinc (v := (nI (i + 1))) (lv' := [(4, .int (nI (i + 1))), (3, .int z_2), (0, .ref h), (1, .int (nI d)), (2, .int 5)]) (k := 4) hx hb dX5_foresee_94 hl rfl (iinc1 _) (by decide) rfl (fun ls hl => ?_)
          refine lv_goto (tgt := 62) hx hb dX5_foresee_97 (by decide) ?_
          subst hz_2
          exact ih_62  (i + 1) (dayS n nb xs) (rt + (sumF (rotF xs.2.2.1) n)) u_89 (show d - (i + 1) < f_62 from by omega) (show (i + 1) ≤ d from by omega) (show (dayS n nb xs) = daysS n nb (i + 1) (dy, ro, cpN 8 B BA, cpN 3 G GA, cpT3 T TA) from by rw [hxs]; rfl) (show (dayS n nb xs).1 = dy + nI (i + 1) from by show xs.1 + 1 = _; rw [hx1, i_thr1, nI_1]) (show (rt + (sumF (rotF xs.2.2.1) n)) = (dayS n nb xs).2.1 from by rw [hrt]; rfl) _ _ hP hD hS ls (lv_sub hl [2, 3, 4, 1, 0] rfl)
    exact loop_62 ((d - 0) + 1) 0 (dy, ro, cpN 8 B BA, cpN 3 G GA, cpT3 T TA) ro mo (Nat.lt_succ_self _) (show 0 ≤ d from by omega) (show (dy, ro, cpN 8 B BA, cpN 3 G GA, cpT3 T TA) = daysS n nb 0 (dy, ro, cpN 8 B BA, cpN 3 G GA, cpT3 T TA) from rfl) (show (dy, ro, cpN 8 B BA, cpN 3 G GA, cpT3 T TA).1 = dy + nI 0 from by show dy = dy + nI 0; rw [nI_0, Int32.add_zero]) (show ro = (dy, ro, cpN 8 B BA, cpN 3 G GA, cpT3 T TA).2.1 from rfl) _ _ hP hD hS ls (lv_sub hl [2, 3, 4, 1, 0] rfl)
  · have hl : lv_has ls 5 [(0, .ref h), (1, .int (nI d)), (2, .int 9)] := hl
    refine lv_aload_n hx hb dX5_foresee_0 rfl (lv_at hl 0 rfl) ?_
    refine lv_iconst (v := 0) hx hb dX5_foresee_1 (by decide) ?_
    refine va_put (D := D) (ci := 5) (v := .int 0) (ty := .int) (C := RX5) (T := TX5) (N := 14) hx hb hts hwX5 tyX5 tyX5_ok nmX5 hown hE.K hP hD hS 0 rfl rfl 0 (by decide) (hts (.fieldLink RX5 38 "SedgeBargesModel" "thrown" "I") (List.mem_of_getElem? (i := 1) rfl)) (fun _ h9 => h9) rfl (by decide +kernel) rfl rfl (Nat.le_of_ble_eq_true rfl) dX5_foresee_2 (fun H locs hP hD hS => ?_)
    have hP : va_P D vwCl (wMod cA h mm 0 dy co ti ro n nb B G T BA GA TA mo) H := hP
    have hD : va_D A (wMod cA h mm 0 dy co ti ro n nb B G T BA GA TA mo) := hD
    refine lv_iload_n hx hb dX5_foresee_5 rfl (lv_at hl 1 rfl) ?_
    refine lv_iconst (v := 1) hx hb dX5_foresee_6 (by decide) ?_
    refine lv_sipush (v := 200) hx hb dX5_foresee_7 (by decide) ?_
    refine goI ([]) (wMod cA h mm 0 dy co ti ro n nb B G T BA GA TA mo) hP hD hS hA (rnS (rest := []) (m_isIn sa tb D cA cL l (nI d) 1 200 ) ([]) (wMod cA h mm 0 dy co ti ro n nb B G T BA GA TA mo) hP hD hS hA hE ⟨hx, hb, hml, hown, hts⟩ (va_cwS 3 hts gX5_foresee_X5_isIn rfl rfl rfl (by decide +kernel) ⟨(Nat.le_of_ble_eq_true rfl), (Nat.le_of_ble_eq_true rfl)⟩) rfl hl.1 rfl (Nat.le_of_ble_eq_true rfl) dX5_foresee_10 ⟨(Nat.le_of_ble_eq_true rfl), (Nat.le_of_ble_eq_true rfl)⟩) (fun _ => rfl) (fun r_10 u_10 H locs hw_10 hP hD hS => ?_)
    have hP : va_P D vwCl (wMod cA h mm 0 dy co ti ro n nb B G T BA GA TA mo) H := hP
    have hD : va_D A (wMod cA h mm 0 dy co ti ro n nb B G T BA GA TA mo) := hD
    refine w_eqi (show r_10 = bI (isInB (nI d) 1 200) from hw_10) ?_
    refine lv_if_ne (tgt := 22) hx hb dX5_foresee_13 (by decide) (fun c_13 => ?_) (fun c_13 => False.elim (by exact absurd ((bI0 c_13).symm.trans (isIn_d h0 h1)) (by decide)))
    refine lv_iload_n hx hb dX5_foresee_22 rfl (lv_at hl 2 rfl) ?_
    refine lv_iconst (v := 4) hx hb dX5_foresee_23 (by decide) ?_
    refine lv_icmp_eq (tgt := 50) hx hb dX5_foresee_24 (by decide) (fun q => absurd q (by decide)) (fun _ => ?_)
    refine lv_iload_n hx hb dX5_foresee_27 rfl (lv_at hl 2 rfl) ?_
    refine lv_iconst (v := 5) hx hb dX5_foresee_28 (by decide) ?_
    refine lv_icmp_eq (tgt := 50) hx hb dX5_foresee_29 (by decide) (fun q => absurd q (by decide)) (fun _ => ?_)
    refine lv_iload_n hx hb dX5_foresee_32 rfl (lv_at hl 2 rfl) ?_
    refine lv_bipush (v := 9) hx hb dX5_foresee_33 (by decide) ?_
    refine lv_icmp_eq (tgt := 50) hx hb dX5_foresee_35 (by decide) (fun _ => ?_) (fun q => absurd (by decide) q)
    refine lv_aload_n hx hb dX5_foresee_50 rfl (lv_at hl 0 rfl) ?_
    refine goV ([]) ([]) hP hD hS hA (rnV (rest := []) (m_lookAhead sa tb D cA cL l h mm 0 dy co ti ro n nb B G T BA GA TA mo ) ([]) ([]) hP hD hS hA hE ⟨hx, hb, hml, hown, hts⟩ (cwV 0 hts gX5_foresee_X5_lookAhead rfl rfl rfl (by decide +kernel) ⟨(Nat.le_of_ble_eq_true rfl), (Nat.le_of_ble_eq_true rfl)⟩) 5 0 rfl rfl rfl rfl hl.1 rfl (Nat.le_of_ble_eq_true rfl) dX5_foresee_51 ⟨(Nat.le_of_ble_eq_true rfl), (Nat.le_of_ble_eq_true rfl)⟩) (fun _ => (show List.map Prod.fst _ = [h, mm 0, mm 1, mm 2, mm 3, mm 4, mm 5, mm 6] from rfl).trans (show [h, mm 0, mm 1, mm 2, mm 3, mm 4, mm 5, mm 6] = List.map Prod.fst _ from rfl)) (fun u_51 H locs hw_51 hP hD hS => ?_)
    have hP : va_P D vwCl (wMod cA h mm 0 dy co ti ro n nb B G T (cpN 8 B BA) (cpN 3 G GA) (cpT3 T TA) mo) H := hP
    have hD : va_D A (wMod cA h mm 0 dy co ti ro n nb B G T (cpN 8 B BA) (cpN 3 G GA) (cpT3 T TA) mo) := hD
    refine lv_aload_n hx hb dX5_foresee_54 rfl (lv_at hl 0 rfl) ?_
    refine va_get (D := D) (ci := 5) (v := .int ro) (C := RX5) (T := TX5) (N := 14) hx hb hts hwX5 hown hE.K hP 0 rfl rfl 4 (by decide) (hts (.fieldLink RX5 155 "SedgeBargesModel" "rotted" "I") (List.mem_of_getElem? (i := 2) rfl)) (fun _ h9 => h9) rfl dX5_foresee_55 ?_
    refine lv_istore_n (lv' := [(3, .int ro), (0, .ref h), (1, .int (nI d)), (2, .int 9)]) hx hb dX5_foresee_58 rfl hl (by decide) rfl (fun ls hl => ?_)
    refine lv_iconst (v := 0) hx hb dX5_foresee_59 (by decide) ?_
    refine lv_istore (lv' := [(4, .int 0), (3, .int ro), (0, .ref h), (1, .int (nI d)), (2, .int 9)]) hx hb dX5_foresee_60 hl (by decide) rfl (fun ls hl => ?_)
    have loop_62 : ∀ (f_62 : Nat) (i : Nat) (xs : DS) (rt : Int32) (cx : Nat → Int32), (d - i) < f_62 → (i ≤ d) → (xs = daysS n nb i (dy, ro, cpN 8 B BA, cpN 3 G GA, cpT3 T TA)) → (xs.1 = dy + nI i) → (rt = xs.2.1) → ∀ (H : Heap) (locs : List Loc), va_P D vwCl (wMod cA h mm 0 dy co ti ro n nb B G T xs.2.2.1 xs.2.2.2.1 xs.2.2.2.2 cx) H → va_D A (wMod cA h mm 0 dy co ti ro n nb B G T xs.2.2.1 xs.2.2.2.1 xs.2.2.2.2 cx) → va_S A s.heap H locs → ∀ ls : Array Slot, lv_has ls 5 [(0, .ref h), (1, .int (nI d)), (2, .int 9), (3, .int rt), (4, .int (nI i))] → W pg l e ({ frames := 4, cells := 0, slots := 0, locals := 97 }) s m args below meth c H locs 0 0 (MQ below (qI D (fun (r : Int32) (uu : (Nat → Nat → Int32) × (Nat → Nat → Int32) × (Nat → Int32) × (Nat → Int32)) => r = tellW (daysS n nb d (dy, ro, cpN 8 B BA, cpN 3 G GA, cpT3 T TA)).1 co ti (daysS n nb d (dy, ro, cpN 8 B BA, cpN 3 G GA, cpT3 T TA)).2.1 n (daysS n nb d (dy, ro, cpN 8 B BA, cpN 3 G GA, cpT3 T TA)).2.2.1 nb (daysS n nb d (dy, ro, cpN 8 B BA, cpN 3 G GA, cpT3 T TA)).2.2.2.1 (daysS n nb d (dy, ro, cpN 8 B BA, cpN 3 G GA, cpT3 T TA)).2.2.2.2 9) (fun uu => wMod cA h mm 0 dy co ti ro n nb B G T uu.1 uu.2.1 uu.2.2.1 uu.2.2.2) A) args s 0 0 A) (F0 m 62 ls []) := by
      intro f_62
      induction f_62 with
      | zero => intro i xs rt cx h_f; exact absurd h_f (Nat.not_lt_zero _)
      | succ f_62 ih_62 =>
        intro i xs rt cx h_f62 hi hxs hx1 hrt H locs hP hD hS ls hl
        refine lv_iload hx hb dX5_foresee_62 (lv_at hl 4 rfl) ?_
        refine lv_iload_n hx hb dX5_foresee_64 rfl (lv_at hl 1 rfl) ?_
        refine rc_ge (tgt := 100) (a := i) (b := d) hx hb (by omega) (by omega) dX5_foresee_65 (by decide) (fun c_65 => ?_) (fun c_65 => ?_)
        · refine lv_aload_n hx hb dX5_foresee_100 rfl (lv_at hl 0 rfl) ?_
          refine lv_aload_n hx hb dX5_foresee_101 rfl (lv_at hl 0 rfl) ?_
          refine va_get (D := D) (ci := 5) (v := .ref (mm 3)) (C := RX5) (T := TX5) (N := 14) hx hb hts hwX5 hown hE.K hP 0 rfl rfl 10 (by decide) (hts (.fieldLink RX5 26 "SedgeBargesModel" "bAhead" "[I") (List.mem_of_getElem? (i := 3) rfl)) (fun _ h9 => h9) rfl dX5_foresee_102 ?_
          refine lv_aload_n hx hb dX5_foresee_105 rfl (lv_at hl 0 rfl) ?_
          refine va_get (D := D) (ci := 5) (v := .ref (mm 5)) (C := RX5) (T := TX5) (N := 14) hx hb hts hwX5 hown hE.K hP 0 rfl rfl 12 (by decide) (hts (.fieldLink RX5 32 "SedgeBargesModel" "storeAhead" "[I") (List.mem_of_getElem? (i := 5) rfl)) (fun _ h9 => h9) rfl dX5_foresee_106 ?_
          refine lv_iload_n hx hb dX5_foresee_109 rfl (lv_at hl 3 rfl) ?_
          refine lv_iload_n hx hb dX5_foresee_110 rfl (lv_at hl 2 rfl) ?_
          have hPq : va_P D vwCl ([] ++ (([oMod h mm 0 dy co ti ro n nb, (mm 3, I_ cA 64 (pkB xs.2.2.1)), (mm 5, I_ cA 3 xs.2.2.2.2)]) ++ ([(mm 0, I_ cA 64 (pkB B)), (mm 1, I_ cA 15 (pkG G)), (mm 2, I_ cA 3 T), (mm 4, I_ cA 15 (pkG xs.2.2.2.1)), (mm 6, I_ cA 8 cx)]))) _ := hP.sub [0, 4, 6, 1, 2, 3, 5, 7] rfl
          have hDq : va_D A ([] ++ (([oMod h mm 0 dy co ti ro n nb, (mm 3, I_ cA 64 (pkB xs.2.2.1)), (mm 5, I_ cA 3 xs.2.2.2.2)]) ++ ([(mm 0, I_ cA 64 (pkB B)), (mm 1, I_ cA 15 (pkG G)), (mm 2, I_ cA 3 T), (mm 4, I_ cA 15 (pkG xs.2.2.2.1)), (mm 6, I_ cA 8 cx)]))) := hD.sub [0, 4, 6, 1, 2, 3, 5, 7] (by decide) rfl
          refine goI ([]) ([(mm 0, I_ cA 64 (pkB B)), (mm 1, I_ cA 15 (pkG G)), (mm 2, I_ cA 3 T), (mm 4, I_ cA 15 (pkG xs.2.2.2.1)), (mm 6, I_ cA 8 cx)]) hPq hDq hS hA (rnV (rest := []) (m_summed sa tb D cA cL l h mm 0 dy co ti ro n nb (mm 3) xs.2.2.1 (mm 5) xs.2.2.2.2 rt 9 (show n ≤ 8 from by first | omega | assumption | decide) (show BInv n xs.2.2.1 from by rw [hxs]; exact (days_inv (x := (dy, ro, cpN 8 B BA, cpN 3 G GA, cpT3 T TA)) (cpN_inv hn hI.1) (cpN_ginv hnb hI.2) i).1) (show 9 = 4 ∨ 9 = 5 ∨ 9 = 9 ∨ 9 = 10 from by decide)) ([]) ([(mm 0, I_ cA 64 (pkB B)), (mm 1, I_ cA 15 (pkG G)), (mm 2, I_ cA 3 T), (mm 4, I_ cA 15 (pkG xs.2.2.2.1)), (mm 6, I_ cA 8 cx)]) hPq hDq hS hA hE ⟨hx, hb, hml, hown, hts⟩ (cwV 4 hts gX5_foresee_X5_summed rfl rfl rfl (by decide +kernel) ⟨(Nat.le_of_ble_eq_true rfl), (Nat.le_of_ble_eq_true rfl)⟩) 5 0 rfl rfl rfl rfl hl.1 rfl (Nat.le_of_ble_eq_true rfl) dX5_foresee_111 ⟨(Nat.le_of_ble_eq_true rfl), (Nat.le_of_ble_eq_true rfl)⟩) (fun _ => rfl) (fun r_111 u_111 H locs hw_111 hP hD hS => ?_)
          have hP : va_P D vwCl (wMod cA h mm 0 dy co ti ro n nb B G T xs.2.2.1 xs.2.2.2.1 xs.2.2.2.2 cx) H := hP.sub [0, 3, 4, 5, 1, 6, 2, 7] rfl
          have hD : va_D A (wMod cA h mm 0 dy co ti ro n nb B G T xs.2.2.1 xs.2.2.2.1 xs.2.2.2.2 cx) := hD.sub [0, 3, 4, 5, 1, 6, 2, 7] (by decide) rfl
          refine w_eqi (show r_111 = tellS xs.2.2.1 n xs.2.2.2.2 rt 9 from hw_111) ?_
          rw [show i = d from by omega] at hxs
          subst hxs
          subst hrt
          exact enI ((daysS n nb d (dy, ro, cpN 8 B BA, cpN 3 G GA, cpT3 T TA)).2.2.1, (daysS n nb d (dy, ro, cpN 8 B BA, cpN 3 G GA, cpT3 T TA)).2.2.2.1, (daysS n nb d (dy, ro, cpN 8 B BA, cpN 3 G GA, cpT3 T TA)).2.2.2.2, cx) hx hb hr hlocks hS hP (rfl) dX5_foresee_114
        · refine lv_iload_n hx hb dX5_foresee_68 rfl (lv_at hl 3 rfl) ?_
          refine lv_aload_n hx hb dX5_foresee_69 rfl (lv_at hl 0 rfl) ?_
          refine lv_aload_n hx hb dX5_foresee_70 rfl (lv_at hl 0 rfl) ?_
          refine va_get (D := D) (ci := 5) (v := .ref (mm 3)) (C := RX5) (T := TX5) (N := 14) hx hb hts hwX5 hown hE.K hP 0 rfl rfl 10 (by decide) (hts (.fieldLink RX5 26 "SedgeBargesModel" "bAhead" "[I") (List.mem_of_getElem? (i := 3) rfl)) (fun _ h9 => h9) rfl dX5_foresee_71 ?_
          refine lv_aload_n hx hb dX5_foresee_74 rfl (lv_at hl 0 rfl) ?_
          refine va_get (D := D) (ci := 5) (v := .ref (mm 4)) (C := RX5) (T := TX5) (N := 14) hx hb hts hwX5 hown hE.K hP 0 rfl rfl 11 (by decide) (hts (.fieldLink RX5 29 "SedgeBargesModel" "gAhead" "[I") (List.mem_of_getElem? (i := 4) rfl)) (fun _ h9 => h9) rfl dX5_foresee_75 ?_
          refine lv_aload_n hx hb dX5_foresee_78 rfl (lv_at hl 0 rfl) ?_
          refine va_get (D := D) (ci := 5) (v := .ref (mm 5)) (C := RX5) (T := TX5) (N := 14) hx hb hts hwX5 hown hE.K hP 0 rfl rfl 12 (by decide) (hts (.fieldLink RX5 32 "SedgeBargesModel" "storeAhead" "[I") (List.mem_of_getElem? (i := 5) rfl)) (fun _ h9 => h9) rfl dX5_foresee_79 ?_
          refine lv_aload_n hx hb dX5_foresee_82 rfl (lv_at hl 0 rfl) ?_
          refine va_get (D := D) (ci := 5) (v := .int dy) (C := RX5) (T := TX5) (N := 14) hx hb hts hwX5 hown hE.K hP 0 rfl rfl 1 (by decide) (hts (.fieldLink RX5 148 "SedgeBargesModel" "day" "I") (List.mem_of_getElem? (i := 6) rfl)) (fun _ h9 => h9) rfl dX5_foresee_83 ?_
          refine lv_iload hx hb dX5_foresee_86 (lv_at hl 4 rfl) ?_
          refine lv_iadd hx hb dX5_foresee_88 ?_
          refine w_eqi (show dy + nI i = xs.1 from hx1.symm) ?_
          have hPq : va_P D vwCl ([] ++ (([oMod h mm 0 dy co ti ro n nb, (mm 3, I_ cA 64 (pkB xs.2.2.1)), (mm 4, I_ cA 15 (pkG xs.2.2.2.1)), (mm 5, I_ cA 3 xs.2.2.2.2), (mm 6, I_ cA 8 cx)]) ++ ([(mm 0, I_ cA 64 (pkB B)), (mm 1, I_ cA 15 (pkG G)), (mm 2, I_ cA 3 T)]))) _ := hP.sub [0, 4, 5, 6, 7, 1, 2, 3] rfl
          have hDq : va_D A ([] ++ (([oMod h mm 0 dy co ti ro n nb, (mm 3, I_ cA 64 (pkB xs.2.2.1)), (mm 4, I_ cA 15 (pkG xs.2.2.2.1)), (mm 5, I_ cA 3 xs.2.2.2.2), (mm 6, I_ cA 8 cx)]) ++ ([(mm 0, I_ cA 64 (pkB B)), (mm 1, I_ cA 15 (pkG G)), (mm 2, I_ cA 3 T)]))) := hD.sub [0, 4, 5, 6, 7, 1, 2, 3] (by decide) rfl
          refine goI ([]) ([(mm 0, I_ cA 64 (pkB B)), (mm 1, I_ cA 15 (pkG G)), (mm 2, I_ cA 3 T)]) hPq hDq hS hA (rnV (rest := [.int rt]) (m_pass sa tb D cA cL l h mm 0 dy co ti ro n nb (mm 3) xs.2.2.1 (mm 4) xs.2.2.2.1 (mm 5) xs.2.2.2.2 cx xs.1 (show n ≤ 8 from by first | omega | assumption | decide) (show nb ≤ 3 from by first | omega | assumption | decide) (show BInv n xs.2.2.1 from by rw [hxs]; exact (days_inv (x := (dy, ro, cpN 8 B BA, cpN 3 G GA, cpT3 T TA)) (cpN_inv hn hI.1) (cpN_ginv hnb hI.2) i).1) (show GInv nb xs.2.2.2.1 from by rw [hxs]; exact (days_inv (x := (dy, ro, cpN 8 B BA, cpN 3 G GA, cpT3 T TA)) (cpN_inv hn hI.1) (cpN_ginv hnb hI.2) i).2)) ([]) ([(mm 0, I_ cA 64 (pkB B)), (mm 1, I_ cA 15 (pkG G)), (mm 2, I_ cA 3 T)]) hPq hDq hS hA hE ⟨hx, hb, hml, hown, hts⟩ (cwV 4 hts gX5_foresee_X5_pass rfl rfl rfl (by decide +kernel) ⟨(Nat.le_of_ble_eq_true rfl), (Nat.le_of_ble_eq_true rfl)⟩) 5 0 rfl rfl rfl rfl hl.1 rfl (Nat.le_of_ble_eq_true rfl) dX5_foresee_89 ⟨(Nat.le_of_ble_eq_true rfl), (Nat.le_of_ble_eq_true rfl)⟩) (fun _ => (show List.map Prod.fst _ = [h, mm 3, mm 4, mm 5, mm 6] from rfl).trans (show [h, mm 3, mm 4, mm 5, mm 6] = List.map Prod.fst _ from rfl)) (fun r_89 u_89 H locs hw_89 hP hD hS => ?_)
          have hP : va_P D vwCl (wMod cA h mm 0 dy co ti ro n nb B G T (dayB n xs.1 xs.2.2.1) (sailG nb xs.2.2.2.1) (thT xs.2.2.2.2) u_89) H := hP.sub [0, 5, 6, 7, 1, 2, 3, 4] rfl
          have hD : va_D A (wMod cA h mm 0 dy co ti ro n nb B G T (dayB n xs.1 xs.2.2.1) (sailG nb xs.2.2.2.1) (thT xs.2.2.2.2) u_89) := hD.sub [0, 5, 6, 7, 1, 2, 3, 4] (by decide) rfl
          refine w_eqi (show r_89 = sumF (rotF xs.2.2.1) n from hw_89) ?_
          refine lv_iadd hx hb dX5_foresee_92 ?_
          refine lv_topi (fun z_3 hz_3 => ?_)
          refine lv_istore_n (lv' := [(3, .int z_3), (0, .ref h), (1, .int (nI d)), (2, .int 9), (4, .int (nI i))]) hx hb dX5_foresee_93 rfl hl (by decide) rfl (fun ls hl => ?_)
          refine lv_iinc (v := (nI (i + 1))) (lv' := [(4, .int (nI (i + 1))), (3, .int z_3), (0, .ref h), (1, .int (nI d)), (2, .int 9)]) (k := 4) hx hb dX5_foresee_94 hl rfl (iinc1 _) (by decide) rfl (fun ls hl => ?_)
          refine lv_goto (tgt := 62) hx hb dX5_foresee_97 (by decide) ?_
          subst hz_3
          exact ih_62  (i + 1) (dayS n nb xs) (rt + (sumF (rotF xs.2.2.1) n)) u_89 (show d - (i + 1) < f_62 from by omega) (show (i + 1) ≤ d from by omega) (show (dayS n nb xs) = daysS n nb (i + 1) (dy, ro, cpN 8 B BA, cpN 3 G GA, cpT3 T TA) from by rw [hxs]; rfl) (show (dayS n nb xs).1 = dy + nI (i + 1) from by show xs.1 + 1 = _; rw [hx1, i_thr1, nI_1]) (show (rt + (sumF (rotF xs.2.2.1) n)) = (dayS n nb xs).2.1 from by rw [hrt]; rfl) _ _ hP hD hS ls (lv_sub hl [2, 3, 4, 1, 0] rfl)
    exact loop_62 ((d - 0) + 1) 0 (dy, ro, cpN 8 B BA, cpN 3 G GA, cpT3 T TA) ro mo (Nat.lt_succ_self _) (show 0 ≤ d from by omega) (show (dy, ro, cpN 8 B BA, cpN 3 G GA, cpT3 T TA) = daysS n nb 0 (dy, ro, cpN 8 B BA, cpN 3 G GA, cpT3 T TA) from rfl) (show (dy, ro, cpN 8 B BA, cpN 3 G GA, cpT3 T TA).1 = dy + nI 0 from by show dy = dy + nI 0; rw [nI_0, Int32.add_zero]) (show ro = (dy, ro, cpN 8 B BA, cpN 3 G GA, cpT3 T TA).2.1 from rfl) _ _ hP hD hS ls (lv_sub hl [2, 3, 4, 1, 0] rfl)
  · have hl : lv_has ls 5 [(0, .ref h), (1, .int (nI d)), (2, .int 10)] := hl
    refine lv_aload_n hx hb dX5_foresee_0 rfl (lv_at hl 0 rfl) ?_
    refine lv_iconst (v := 0) hx hb dX5_foresee_1 (by decide) ?_
    refine va_put (D := D) (ci := 5) (v := .int 0) (ty := .int) (C := RX5) (T := TX5) (N := 14) hx hb hts hwX5 tyX5 tyX5_ok nmX5 hown hE.K hP hD hS 0 rfl rfl 0 (by decide) (hts (.fieldLink RX5 38 "SedgeBargesModel" "thrown" "I") (List.mem_of_getElem? (i := 1) rfl)) (fun _ h9 => h9) rfl (by decide +kernel) rfl rfl (Nat.le_of_ble_eq_true rfl) dX5_foresee_2 (fun H locs hP hD hS => ?_)
    have hP : va_P D vwCl (wMod cA h mm 0 dy co ti ro n nb B G T BA GA TA mo) H := hP
    have hD : va_D A (wMod cA h mm 0 dy co ti ro n nb B G T BA GA TA mo) := hD
    refine lv_iload_n hx hb dX5_foresee_5 rfl (lv_at hl 1 rfl) ?_
    refine lv_iconst (v := 1) hx hb dX5_foresee_6 (by decide) ?_
    refine lv_sipush (v := 200) hx hb dX5_foresee_7 (by decide) ?_
    refine goI ([]) (wMod cA h mm 0 dy co ti ro n nb B G T BA GA TA mo) hP hD hS hA (rnS (rest := []) (m_isIn sa tb D cA cL l (nI d) 1 200 ) ([]) (wMod cA h mm 0 dy co ti ro n nb B G T BA GA TA mo) hP hD hS hA hE ⟨hx, hb, hml, hown, hts⟩ (va_cwS 3 hts gX5_foresee_X5_isIn rfl rfl rfl (by decide +kernel) ⟨(Nat.le_of_ble_eq_true rfl), (Nat.le_of_ble_eq_true rfl)⟩) rfl hl.1 rfl (Nat.le_of_ble_eq_true rfl) dX5_foresee_10 ⟨(Nat.le_of_ble_eq_true rfl), (Nat.le_of_ble_eq_true rfl)⟩) (fun _ => rfl) (fun r_10 u_10 H locs hw_10 hP hD hS => ?_)
    have hP : va_P D vwCl (wMod cA h mm 0 dy co ti ro n nb B G T BA GA TA mo) H := hP
    have hD : va_D A (wMod cA h mm 0 dy co ti ro n nb B G T BA GA TA mo) := hD
    refine w_eqi (show r_10 = bI (isInB (nI d) 1 200) from hw_10) ?_
    refine lv_if_ne (tgt := 22) hx hb dX5_foresee_13 (by decide) (fun c_13 => ?_) (fun c_13 => False.elim (by exact absurd ((bI0 c_13).symm.trans (isIn_d h0 h1)) (by decide)))
    refine lv_iload_n hx hb dX5_foresee_22 rfl (lv_at hl 2 rfl) ?_
    refine lv_iconst (v := 4) hx hb dX5_foresee_23 (by decide) ?_
    refine lv_icmp_eq (tgt := 50) hx hb dX5_foresee_24 (by decide) (fun q => absurd q (by decide)) (fun _ => ?_)
    refine lv_iload_n hx hb dX5_foresee_27 rfl (lv_at hl 2 rfl) ?_
    refine lv_iconst (v := 5) hx hb dX5_foresee_28 (by decide) ?_
    refine lv_icmp_eq (tgt := 50) hx hb dX5_foresee_29 (by decide) (fun q => absurd q (by decide)) (fun _ => ?_)
    refine lv_iload_n hx hb dX5_foresee_32 rfl (lv_at hl 2 rfl) ?_
    refine lv_bipush (v := 9) hx hb dX5_foresee_33 (by decide) ?_
    refine lv_icmp_eq (tgt := 50) hx hb dX5_foresee_35 (by decide) (fun q => absurd q (by decide)) (fun _ => ?_)
    refine lv_iload_n hx hb dX5_foresee_38 rfl (lv_at hl 2 rfl) ?_
    refine lv_bipush (v := 10) hx hb dX5_foresee_39 (by decide) ?_
    refine lv_icmp_eq (tgt := 50) hx hb dX5_foresee_41 (by decide) (fun _ => ?_) (fun q => absurd (by decide) q)
    refine lv_aload_n hx hb dX5_foresee_50 rfl (lv_at hl 0 rfl) ?_
    refine goV ([]) ([]) hP hD hS hA (rnV (rest := []) (m_lookAhead sa tb D cA cL l h mm 0 dy co ti ro n nb B G T BA GA TA mo ) ([]) ([]) hP hD hS hA hE ⟨hx, hb, hml, hown, hts⟩ (cwV 0 hts gX5_foresee_X5_lookAhead rfl rfl rfl (by decide +kernel) ⟨(Nat.le_of_ble_eq_true rfl), (Nat.le_of_ble_eq_true rfl)⟩) 5 0 rfl rfl rfl rfl hl.1 rfl (Nat.le_of_ble_eq_true rfl) dX5_foresee_51 ⟨(Nat.le_of_ble_eq_true rfl), (Nat.le_of_ble_eq_true rfl)⟩) (fun _ => (show List.map Prod.fst _ = [h, mm 0, mm 1, mm 2, mm 3, mm 4, mm 5, mm 6] from rfl).trans (show [h, mm 0, mm 1, mm 2, mm 3, mm 4, mm 5, mm 6] = List.map Prod.fst _ from rfl)) (fun u_51 H locs hw_51 hP hD hS => ?_)
    have hP : va_P D vwCl (wMod cA h mm 0 dy co ti ro n nb B G T (cpN 8 B BA) (cpN 3 G GA) (cpT3 T TA) mo) H := hP
    have hD : va_D A (wMod cA h mm 0 dy co ti ro n nb B G T (cpN 8 B BA) (cpN 3 G GA) (cpT3 T TA) mo) := hD
    refine lv_aload_n hx hb dX5_foresee_54 rfl (lv_at hl 0 rfl) ?_
    refine va_get (D := D) (ci := 5) (v := .int ro) (C := RX5) (T := TX5) (N := 14) hx hb hts hwX5 hown hE.K hP 0 rfl rfl 4 (by decide) (hts (.fieldLink RX5 155 "SedgeBargesModel" "rotted" "I") (List.mem_of_getElem? (i := 2) rfl)) (fun _ h9 => h9) rfl dX5_foresee_55 ?_
    refine lv_istore_n (lv' := [(3, .int ro), (0, .ref h), (1, .int (nI d)), (2, .int 10)]) hx hb dX5_foresee_58 rfl hl (by decide) rfl (fun ls hl => ?_)
    refine lv_iconst (v := 0) hx hb dX5_foresee_59 (by decide) ?_
    refine lv_istore (lv' := [(4, .int 0), (3, .int ro), (0, .ref h), (1, .int (nI d)), (2, .int 10)]) hx hb dX5_foresee_60 hl (by decide) rfl (fun ls hl => ?_)
    have loop_62 : ∀ (f_62 : Nat) (i : Nat) (xs : DS) (rt : Int32) (cx : Nat → Int32), (d - i) < f_62 → (i ≤ d) → (xs = daysS n nb i (dy, ro, cpN 8 B BA, cpN 3 G GA, cpT3 T TA)) → (xs.1 = dy + nI i) → (rt = xs.2.1) → ∀ (H : Heap) (locs : List Loc), va_P D vwCl (wMod cA h mm 0 dy co ti ro n nb B G T xs.2.2.1 xs.2.2.2.1 xs.2.2.2.2 cx) H → va_D A (wMod cA h mm 0 dy co ti ro n nb B G T xs.2.2.1 xs.2.2.2.1 xs.2.2.2.2 cx) → va_S A s.heap H locs → ∀ ls : Array Slot, lv_has ls 5 [(0, .ref h), (1, .int (nI d)), (2, .int 10), (3, .int rt), (4, .int (nI i))] → W pg l e ({ frames := 4, cells := 0, slots := 0, locals := 97 }) s m args below meth c H locs 0 0 (MQ below (qI D (fun (r : Int32) (uu : (Nat → Nat → Int32) × (Nat → Nat → Int32) × (Nat → Int32) × (Nat → Int32)) => r = tellW (daysS n nb d (dy, ro, cpN 8 B BA, cpN 3 G GA, cpT3 T TA)).1 co ti (daysS n nb d (dy, ro, cpN 8 B BA, cpN 3 G GA, cpT3 T TA)).2.1 n (daysS n nb d (dy, ro, cpN 8 B BA, cpN 3 G GA, cpT3 T TA)).2.2.1 nb (daysS n nb d (dy, ro, cpN 8 B BA, cpN 3 G GA, cpT3 T TA)).2.2.2.1 (daysS n nb d (dy, ro, cpN 8 B BA, cpN 3 G GA, cpT3 T TA)).2.2.2.2 10) (fun uu => wMod cA h mm 0 dy co ti ro n nb B G T uu.1 uu.2.1 uu.2.2.1 uu.2.2.2) A) args s 0 0 A) (F0 m 62 ls []) := by
      intro f_62
      induction f_62 with
      | zero => intro i xs rt cx h_f; exact absurd h_f (Nat.not_lt_zero _)
      | succ f_62 ih_62 =>
        intro i xs rt cx h_f62 hi hxs hx1 hrt H locs hP hD hS ls hl
        refine lv_iload hx hb dX5_foresee_62 (lv_at hl 4 rfl) ?_
        refine lv_iload_n hx hb dX5_foresee_64 rfl (lv_at hl 1 rfl) ?_
        refine rc_ge (tgt := 100) (a := i) (b := d) hx hb (by omega) (by omega) dX5_foresee_65 (by decide) (fun c_65 => ?_) (fun c_65 => ?_)
        · refine lv_aload_n hx hb dX5_foresee_100 rfl (lv_at hl 0 rfl) ?_
          refine lv_aload_n hx hb dX5_foresee_101 rfl (lv_at hl 0 rfl) ?_
          refine va_get (D := D) (ci := 5) (v := .ref (mm 3)) (C := RX5) (T := TX5) (N := 14) hx hb hts hwX5 hown hE.K hP 0 rfl rfl 10 (by decide) (hts (.fieldLink RX5 26 "SedgeBargesModel" "bAhead" "[I") (List.mem_of_getElem? (i := 3) rfl)) (fun _ h9 => h9) rfl dX5_foresee_102 ?_
          refine lv_aload_n hx hb dX5_foresee_105 rfl (lv_at hl 0 rfl) ?_
          refine va_get (D := D) (ci := 5) (v := .ref (mm 5)) (C := RX5) (T := TX5) (N := 14) hx hb hts hwX5 hown hE.K hP 0 rfl rfl 12 (by decide) (hts (.fieldLink RX5 32 "SedgeBargesModel" "storeAhead" "[I") (List.mem_of_getElem? (i := 5) rfl)) (fun _ h9 => h9) rfl dX5_foresee_106 ?_
          refine lv_iload_n hx hb dX5_foresee_109 rfl (lv_at hl 3 rfl) ?_
          refine lv_iload_n hx hb dX5_foresee_110 rfl (lv_at hl 2 rfl) ?_
          have hPq : va_P D vwCl ([] ++ (([oMod h mm 0 dy co ti ro n nb, (mm 3, I_ cA 64 (pkB xs.2.2.1)), (mm 5, I_ cA 3 xs.2.2.2.2)]) ++ ([(mm 0, I_ cA 64 (pkB B)), (mm 1, I_ cA 15 (pkG G)), (mm 2, I_ cA 3 T), (mm 4, I_ cA 15 (pkG xs.2.2.2.1)), (mm 6, I_ cA 8 cx)]))) _ := hP.sub [0, 4, 6, 1, 2, 3, 5, 7] rfl
          have hDq : va_D A ([] ++ (([oMod h mm 0 dy co ti ro n nb, (mm 3, I_ cA 64 (pkB xs.2.2.1)), (mm 5, I_ cA 3 xs.2.2.2.2)]) ++ ([(mm 0, I_ cA 64 (pkB B)), (mm 1, I_ cA 15 (pkG G)), (mm 2, I_ cA 3 T), (mm 4, I_ cA 15 (pkG xs.2.2.2.1)), (mm 6, I_ cA 8 cx)]))) := hD.sub [0, 4, 6, 1, 2, 3, 5, 7] (by decide) rfl
          refine goI ([]) ([(mm 0, I_ cA 64 (pkB B)), (mm 1, I_ cA 15 (pkG G)), (mm 2, I_ cA 3 T), (mm 4, I_ cA 15 (pkG xs.2.2.2.1)), (mm 6, I_ cA 8 cx)]) hPq hDq hS hA (rnV (rest := []) (m_summed sa tb D cA cL l h mm 0 dy co ti ro n nb (mm 3) xs.2.2.1 (mm 5) xs.2.2.2.2 rt 10 (show n ≤ 8 from by first | omega | assumption | decide) (show BInv n xs.2.2.1 from by rw [hxs]; exact (days_inv (x := (dy, ro, cpN 8 B BA, cpN 3 G GA, cpT3 T TA)) (cpN_inv hn hI.1) (cpN_ginv hnb hI.2) i).1) (show 10 = 4 ∨ 10 = 5 ∨ 10 = 9 ∨ 10 = 10 from by decide)) ([]) ([(mm 0, I_ cA 64 (pkB B)), (mm 1, I_ cA 15 (pkG G)), (mm 2, I_ cA 3 T), (mm 4, I_ cA 15 (pkG xs.2.2.2.1)), (mm 6, I_ cA 8 cx)]) hPq hDq hS hA hE ⟨hx, hb, hml, hown, hts⟩ (cwV 4 hts gX5_foresee_X5_summed rfl rfl rfl (by decide +kernel) ⟨(Nat.le_of_ble_eq_true rfl), (Nat.le_of_ble_eq_true rfl)⟩) 5 0 rfl rfl rfl rfl hl.1 rfl (Nat.le_of_ble_eq_true rfl) dX5_foresee_111 ⟨(Nat.le_of_ble_eq_true rfl), (Nat.le_of_ble_eq_true rfl)⟩) (fun _ => rfl) (fun r_111 u_111 H locs hw_111 hP hD hS => ?_)
          have hP : va_P D vwCl (wMod cA h mm 0 dy co ti ro n nb B G T xs.2.2.1 xs.2.2.2.1 xs.2.2.2.2 cx) H := hP.sub [0, 3, 4, 5, 1, 6, 2, 7] rfl
          have hD : va_D A (wMod cA h mm 0 dy co ti ro n nb B G T xs.2.2.1 xs.2.2.2.1 xs.2.2.2.2 cx) := hD.sub [0, 3, 4, 5, 1, 6, 2, 7] (by decide) rfl
          refine w_eqi (show r_111 = tellS xs.2.2.1 n xs.2.2.2.2 rt 10 from hw_111) ?_
          rw [show i = d from by omega] at hxs
          subst hxs
          subst hrt
          exact enI ((daysS n nb d (dy, ro, cpN 8 B BA, cpN 3 G GA, cpT3 T TA)).2.2.1, (daysS n nb d (dy, ro, cpN 8 B BA, cpN 3 G GA, cpT3 T TA)).2.2.2.1, (daysS n nb d (dy, ro, cpN 8 B BA, cpN 3 G GA, cpT3 T TA)).2.2.2.2, cx) hx hb hr hlocks hS hP (rfl) dX5_foresee_114
        · refine lv_iload_n hx hb dX5_foresee_68 rfl (lv_at hl 3 rfl) ?_
          refine lv_aload_n hx hb dX5_foresee_69 rfl (lv_at hl 0 rfl) ?_
          refine lv_aload_n hx hb dX5_foresee_70 rfl (lv_at hl 0 rfl) ?_
          refine va_get (D := D) (ci := 5) (v := .ref (mm 3)) (C := RX5) (T := TX5) (N := 14) hx hb hts hwX5 hown hE.K hP 0 rfl rfl 10 (by decide) (hts (.fieldLink RX5 26 "SedgeBargesModel" "bAhead" "[I") (List.mem_of_getElem? (i := 3) rfl)) (fun _ h9 => h9) rfl dX5_foresee_71 ?_
          refine lv_aload_n hx hb dX5_foresee_74 rfl (lv_at hl 0 rfl) ?_
          refine va_get (D := D) (ci := 5) (v := .ref (mm 4)) (C := RX5) (T := TX5) (N := 14) hx hb hts hwX5 hown hE.K hP 0 rfl rfl 11 (by decide) (hts (.fieldLink RX5 29 "SedgeBargesModel" "gAhead" "[I") (List.mem_of_getElem? (i := 4) rfl)) (fun _ h9 => h9) rfl dX5_foresee_75 ?_
          refine lv_aload_n hx hb dX5_foresee_78 rfl (lv_at hl 0 rfl) ?_
          refine va_get (D := D) (ci := 5) (v := .ref (mm 5)) (C := RX5) (T := TX5) (N := 14) hx hb hts hwX5 hown hE.K hP 0 rfl rfl 12 (by decide) (hts (.fieldLink RX5 32 "SedgeBargesModel" "storeAhead" "[I") (List.mem_of_getElem? (i := 5) rfl)) (fun _ h9 => h9) rfl dX5_foresee_79 ?_
          refine lv_aload_n hx hb dX5_foresee_82 rfl (lv_at hl 0 rfl) ?_
          refine va_get (D := D) (ci := 5) (v := .int dy) (C := RX5) (T := TX5) (N := 14) hx hb hts hwX5 hown hE.K hP 0 rfl rfl 1 (by decide) (hts (.fieldLink RX5 148 "SedgeBargesModel" "day" "I") (List.mem_of_getElem? (i := 6) rfl)) (fun _ h9 => h9) rfl dX5_foresee_83 ?_
          refine lv_iload hx hb dX5_foresee_86 (lv_at hl 4 rfl) ?_
          refine lv_iadd hx hb dX5_foresee_88 ?_
          refine w_eqi (show dy + nI i = xs.1 from hx1.symm) ?_
          have hPq : va_P D vwCl ([] ++ (([oMod h mm 0 dy co ti ro n nb, (mm 3, I_ cA 64 (pkB xs.2.2.1)), (mm 4, I_ cA 15 (pkG xs.2.2.2.1)), (mm 5, I_ cA 3 xs.2.2.2.2), (mm 6, I_ cA 8 cx)]) ++ ([(mm 0, I_ cA 64 (pkB B)), (mm 1, I_ cA 15 (pkG G)), (mm 2, I_ cA 3 T)]))) _ := hP.sub [0, 4, 5, 6, 7, 1, 2, 3] rfl
          have hDq : va_D A ([] ++ (([oMod h mm 0 dy co ti ro n nb, (mm 3, I_ cA 64 (pkB xs.2.2.1)), (mm 4, I_ cA 15 (pkG xs.2.2.2.1)), (mm 5, I_ cA 3 xs.2.2.2.2), (mm 6, I_ cA 8 cx)]) ++ ([(mm 0, I_ cA 64 (pkB B)), (mm 1, I_ cA 15 (pkG G)), (mm 2, I_ cA 3 T)]))) := hD.sub [0, 4, 5, 6, 7, 1, 2, 3] (by decide) rfl
          refine goI ([]) ([(mm 0, I_ cA 64 (pkB B)), (mm 1, I_ cA 15 (pkG G)), (mm 2, I_ cA 3 T)]) hPq hDq hS hA (rnV (rest := [.int rt]) (m_pass sa tb D cA cL l h mm 0 dy co ti ro n nb (mm 3) xs.2.2.1 (mm 4) xs.2.2.2.1 (mm 5) xs.2.2.2.2 cx xs.1 (show n ≤ 8 from by first | omega | assumption | decide) (show nb ≤ 3 from by first | omega | assumption | decide) (show BInv n xs.2.2.1 from by rw [hxs]; exact (days_inv (x := (dy, ro, cpN 8 B BA, cpN 3 G GA, cpT3 T TA)) (cpN_inv hn hI.1) (cpN_ginv hnb hI.2) i).1) (show GInv nb xs.2.2.2.1 from by rw [hxs]; exact (days_inv (x := (dy, ro, cpN 8 B BA, cpN 3 G GA, cpT3 T TA)) (cpN_inv hn hI.1) (cpN_ginv hnb hI.2) i).2)) ([]) ([(mm 0, I_ cA 64 (pkB B)), (mm 1, I_ cA 15 (pkG G)), (mm 2, I_ cA 3 T)]) hPq hDq hS hA hE ⟨hx, hb, hml, hown, hts⟩ (cwV 4 hts gX5_foresee_X5_pass rfl rfl rfl (by decide +kernel) ⟨(Nat.le_of_ble_eq_true rfl), (Nat.le_of_ble_eq_true rfl)⟩) 5 0 rfl rfl rfl rfl hl.1 rfl (Nat.le_of_ble_eq_true rfl) dX5_foresee_89 ⟨(Nat.le_of_ble_eq_true rfl), (Nat.le_of_ble_eq_true rfl)⟩) (fun _ => (show List.map Prod.fst _ = [h, mm 3, mm 4, mm 5, mm 6] from rfl).trans (show [h, mm 3, mm 4, mm 5, mm 6] = List.map Prod.fst _ from rfl)) (fun r_89 u_89 H locs hw_89 hP hD hS => ?_)
          have hP : va_P D vwCl (wMod cA h mm 0 dy co ti ro n nb B G T (dayB n xs.1 xs.2.2.1) (sailG nb xs.2.2.2.1) (thT xs.2.2.2.2) u_89) H := hP.sub [0, 5, 6, 7, 1, 2, 3, 4] rfl
          have hD : va_D A (wMod cA h mm 0 dy co ti ro n nb B G T (dayB n xs.1 xs.2.2.1) (sailG nb xs.2.2.2.1) (thT xs.2.2.2.2) u_89) := hD.sub [0, 5, 6, 7, 1, 2, 3, 4] (by decide) rfl
          refine w_eqi (show r_89 = sumF (rotF xs.2.2.1) n from hw_89) ?_
          refine lv_iadd hx hb dX5_foresee_92 ?_
          refine lv_topi (fun z_4 hz_4 => ?_)
          refine lv_istore_n (lv' := [(3, .int z_4), (0, .ref h), (1, .int (nI d)), (2, .int 10), (4, .int (nI i))]) hx hb dX5_foresee_93 rfl hl (by decide) rfl (fun ls hl => ?_)
          refine lv_iinc (v := (nI (i + 1))) (lv' := [(4, .int (nI (i + 1))), (3, .int z_4), (0, .ref h), (1, .int (nI d)), (2, .int 10)]) (k := 4) hx hb dX5_foresee_94 hl rfl (iinc1 _) (by decide) rfl (fun ls hl => ?_)
          refine lv_goto (tgt := 62) hx hb dX5_foresee_97 (by decide) ?_
          subst hz_4
          exact ih_62  (i + 1) (dayS n nb xs) (rt + (sumF (rotF xs.2.2.1) n)) u_89 (show d - (i + 1) < f_62 from by omega) (show (i + 1) ≤ d from by omega) (show (dayS n nb xs) = daysS n nb (i + 1) (dy, ro, cpN 8 B BA, cpN 3 G GA, cpT3 T TA) from by rw [hxs]; rfl) (show (dayS n nb xs).1 = dy + nI (i + 1) from by show xs.1 + 1 = _; rw [hx1, i_thr1, nI_1]) (show (rt + (sumF (rotF xs.2.2.1) n)) = (dayS n nb xs).2.1 from by rw [hrt]; rfl) _ _ hP hD hS ls (lv_sub hl [2, 3, 4, 1, 0] rfl)
    exact loop_62 ((d - 0) + 1) 0 (dy, ro, cpN 8 B BA, cpN 3 G GA, cpT3 T TA) ro mo (Nat.lt_succ_self _) (show 0 ≤ d from by omega) (show (dy, ro, cpN 8 B BA, cpN 3 G GA, cpT3 T TA) = daysS n nb 0 (dy, ro, cpN 8 B BA, cpN 3 G GA, cpT3 T TA) from rfl) (show (dy, ro, cpN 8 B BA, cpN 3 G GA, cpT3 T TA).1 = dy + nI 0 from by show dy = dy + nI 0; rw [nI_0, Int32.add_zero]) (show ro = (dy, ro, cpN 8 B BA, cpN 3 G GA, cpT3 T TA).2.1 from rfl) _ _ hP hD hS ls (lv_sub hl [2, 3, 4, 1, 0] rfl)
set_option maxRecDepth 100000 in
set_option maxHeartbeats 4000000 in
theorem m_foresee_1 (sa tb : Nat → Nat) (D : va_G) (cA cL : ClassId) (l : Launch) (h : Nat) (mm : Nat → Nat) (th : Int32) (dy : Int32) (co : Int32) (ti : Int32) (ro : Int32) (n : Nat) (nb : Nat) (B : Nat → Nat → Int32) (G : Nat → Nat → Int32) (T : Nat → Int32) (BA : Nat → Nat → Int32) (GA : Nat → Nat → Int32) (TA : Nat → Int32) (mo : Nat → Int32) (x : Int32) (y : Int32) (hb0 : x < 1 ∨ ¬ x ≤ 200) : KM sa tb D cA cL l yX5_foresee wsX5_foresee ({ frames := 1, cells := 0, slots := 0, locals := 22 }) [.ref h, .int x, .int y] (wMod cA h mm th dy co ti ro n nb B G T BA GA TA mo) (qI D (fun (r : Int32) (_ : Unit) => r = 0) (fun _ => wMod cA h mm 1 dy co ti ro n nb B G T BA GA TA mo)) := by
  refine KM.of (cc := cX5_foresee) (maxL := 5) (ret := some .int) (by decide) rfl (Nat.le_of_ble_eq_true rfl) ?_
  intro pg e s m args below meth c A hx hb hr hml hlocks hts hown hS hA hE hP hD ls hl
  have hown : s.vm.findClass RX5 = some m.cls := hown
  have hl : lv_has ls 5 [(0, .ref h), (1, .int x), (2, .int y)] := hl
  have hwX5 : ∀ w ∈ wsX50, w ∈ wsX5_foresee := (fun _ h => List.mem_cons_of_mem _ (List.mem_append_right _ h))
  refine lv_aload_n hx hb dX5_foresee_0 rfl (lv_at hl 0 rfl) ?_
  refine lv_iconst (v := 0) hx hb dX5_foresee_1 (by decide) ?_
  refine va_put (D := D) (ci := 5) (v := .int 0) (ty := .int) (C := RX5) (T := TX5) (N := 14) hx hb hts hwX5 tyX5 tyX5_ok nmX5 hown hE.K hP hD hS 0 rfl rfl 0 (by decide) (hts (.fieldLink RX5 38 "SedgeBargesModel" "thrown" "I") (List.mem_of_getElem? (i := 1) rfl)) (fun _ h9 => h9) rfl (by decide +kernel) rfl rfl (Nat.le_of_ble_eq_true rfl) dX5_foresee_2 (fun H locs hP hD hS => ?_)
  have hP : va_P D vwCl (wMod cA h mm 0 dy co ti ro n nb B G T BA GA TA mo) H := hP
  have hD : va_D A (wMod cA h mm 0 dy co ti ro n nb B G T BA GA TA mo) := hD
  refine lv_iload_n hx hb dX5_foresee_5 rfl (lv_at hl 1 rfl) ?_
  refine lv_iconst (v := 1) hx hb dX5_foresee_6 (by decide) ?_
  refine lv_sipush (v := 200) hx hb dX5_foresee_7 (by decide) ?_
  refine goI ([]) (wMod cA h mm 0 dy co ti ro n nb B G T BA GA TA mo) hP hD hS hA (rnS (rest := []) (m_isIn sa tb D cA cL l x 1 200 ) ([]) (wMod cA h mm 0 dy co ti ro n nb B G T BA GA TA mo) hP hD hS hA hE ⟨hx, hb, hml, hown, hts⟩ (va_cwS 3 hts gX5_foresee_X5_isIn rfl rfl rfl (by decide +kernel) ⟨(Nat.le_of_ble_eq_true rfl), (Nat.le_of_ble_eq_true rfl)⟩) rfl hl.1 rfl (Nat.le_of_ble_eq_true rfl) dX5_foresee_10 ⟨(Nat.le_of_ble_eq_true rfl), (Nat.le_of_ble_eq_true rfl)⟩) (fun _ => rfl) (fun r_10 u_10 H locs hw_10 hP hD hS => ?_)
  have hP : va_P D vwCl (wMod cA h mm 0 dy co ti ro n nb B G T BA GA TA mo) H := hP
  have hD : va_D A (wMod cA h mm 0 dy co ti ro n nb B G T BA GA TA mo) := hD
  obtain rfl : r_10 = bI (isInB x 1 200) := hw_10
  refine lv_if_ne (tgt := 22) hx hb dX5_foresee_13 (by decide) (fun c_13 => False.elim (by exact c_13 (congrArg bI (isIn_no hb0)))) (fun c_13 => ?_)
  refine lv_aload_n hx hb dX5_foresee_16 rfl (lv_at hl 0 rfl) ?_
  refine lv_iconst (v := 1) hx hb dX5_foresee_17 (by decide) ?_
  refine goI ([]) ([(mm 0, I_ cA 64 (pkB B)), (mm 1, I_ cA 15 (pkG G)), (mm 2, I_ cA 3 T), (mm 3, I_ cA 64 (pkB BA)), (mm 4, I_ cA 15 (pkG GA)), (mm 5, I_ cA 3 TA), (mm 6, I_ cA 8 mo)]) hP hD hS hA (rnV (rest := []) (m_no sa tb D cA cL l h mm 0 dy co ti ro n nb 1 ) ([]) ([(mm 0, I_ cA 64 (pkB B)), (mm 1, I_ cA 15 (pkG G)), (mm 2, I_ cA 3 T), (mm 3, I_ cA 64 (pkB BA)), (mm 4, I_ cA 15 (pkG GA)), (mm 5, I_ cA 3 TA), (mm 6, I_ cA 8 mo)]) hP hD hS hA hE ⟨hx, hb, hml, hown, hts⟩ (cwV 1 hts gX5_foresee_X5_no rfl rfl rfl (by decide +kernel) ⟨(Nat.le_of_ble_eq_true rfl), (Nat.le_of_ble_eq_true rfl)⟩) 5 0 rfl rfl rfl rfl hl.1 rfl (Nat.le_of_ble_eq_true rfl) dX5_foresee_18 ⟨(Nat.le_of_ble_eq_true rfl), (Nat.le_of_ble_eq_true rfl)⟩) (fun _ => (show List.map Prod.fst _ = [h] from rfl).trans (show [h] = List.map Prod.fst _ from rfl)) (fun r_18 u_18 H locs hw_18 hP hD hS => ?_)
  have hP : va_P D vwCl (wMod cA h mm 1 dy co ti ro n nb B G T BA GA TA mo) H := hP
  have hD : va_D A (wMod cA h mm 1 dy co ti ro n nb B G T BA GA TA mo) := hD
  obtain rfl : r_18 = 0 := hw_18
  exact enI () hx hb hr hlocks hS hP (rfl) dX5_foresee_21
set_option maxRecDepth 100000 in
set_option maxHeartbeats 4000000 in
theorem m_foresee_2 (sa tb : Nat → Nat) (D : va_G) (cA cL : ClassId) (l : Launch) (h : Nat) (mm : Nat → Nat) (th : Int32) (dy : Int32) (co : Int32) (ti : Int32) (ro : Int32) (n : Nat) (nb : Nat) (B : Nat → Nat → Int32) (G : Nat → Nat → Int32) (T : Nat → Int32) (BA : Nat → Nat → Int32) (GA : Nat → Nat → Int32) (TA : Nat → Int32) (mo : Nat → Int32) (d : Nat) (y : Int32) (h0 : 1 ≤ d) (h1 : d ≤ 200) (hb1 : ¬ y = 4 ∧ ¬ y = 5 ∧ ¬ y = 9 ∧ ¬ y = 10) : KM sa tb D cA cL l yX5_foresee wsX5_foresee ({ frames := 1, cells := 0, slots := 0, locals := 22 }) [.ref h, .int (nI d), .int y] (wMod cA h mm th dy co ti ro n nb B G T BA GA TA mo) (qI D (fun (r : Int32) (_ : Unit) => r = 0) (fun _ => wMod cA h mm 2 dy co ti ro n nb B G T BA GA TA mo)) := by
  refine KM.of (cc := cX5_foresee) (maxL := 5) (ret := some .int) (by decide) rfl (Nat.le_of_ble_eq_true rfl) ?_
  intro pg e s m args below meth c A hx hb hr hml hlocks hts hown hS hA hE hP hD ls hl
  have hown : s.vm.findClass RX5 = some m.cls := hown
  have hl : lv_has ls 5 [(0, .ref h), (1, .int (nI d)), (2, .int y)] := hl
  have hwX5 : ∀ w ∈ wsX50, w ∈ wsX5_foresee := (fun _ h => List.mem_cons_of_mem _ (List.mem_append_right _ h))
  refine lv_aload_n hx hb dX5_foresee_0 rfl (lv_at hl 0 rfl) ?_
  refine lv_iconst (v := 0) hx hb dX5_foresee_1 (by decide) ?_
  refine va_put (D := D) (ci := 5) (v := .int 0) (ty := .int) (C := RX5) (T := TX5) (N := 14) hx hb hts hwX5 tyX5 tyX5_ok nmX5 hown hE.K hP hD hS 0 rfl rfl 0 (by decide) (hts (.fieldLink RX5 38 "SedgeBargesModel" "thrown" "I") (List.mem_of_getElem? (i := 1) rfl)) (fun _ h9 => h9) rfl (by decide +kernel) rfl rfl (Nat.le_of_ble_eq_true rfl) dX5_foresee_2 (fun H locs hP hD hS => ?_)
  have hP : va_P D vwCl (wMod cA h mm 0 dy co ti ro n nb B G T BA GA TA mo) H := hP
  have hD : va_D A (wMod cA h mm 0 dy co ti ro n nb B G T BA GA TA mo) := hD
  refine lv_iload_n hx hb dX5_foresee_5 rfl (lv_at hl 1 rfl) ?_
  refine lv_iconst (v := 1) hx hb dX5_foresee_6 (by decide) ?_
  refine lv_sipush (v := 200) hx hb dX5_foresee_7 (by decide) ?_
  refine goI ([]) (wMod cA h mm 0 dy co ti ro n nb B G T BA GA TA mo) hP hD hS hA (rnS (rest := []) (m_isIn sa tb D cA cL l (nI d) 1 200 ) ([]) (wMod cA h mm 0 dy co ti ro n nb B G T BA GA TA mo) hP hD hS hA hE ⟨hx, hb, hml, hown, hts⟩ (va_cwS 3 hts gX5_foresee_X5_isIn rfl rfl rfl (by decide +kernel) ⟨(Nat.le_of_ble_eq_true rfl), (Nat.le_of_ble_eq_true rfl)⟩) rfl hl.1 rfl (Nat.le_of_ble_eq_true rfl) dX5_foresee_10 ⟨(Nat.le_of_ble_eq_true rfl), (Nat.le_of_ble_eq_true rfl)⟩) (fun _ => rfl) (fun r_10 u_10 H locs hw_10 hP hD hS => ?_)
  have hP : va_P D vwCl (wMod cA h mm 0 dy co ti ro n nb B G T BA GA TA mo) H := hP
  have hD : va_D A (wMod cA h mm 0 dy co ti ro n nb B G T BA GA TA mo) := hD
  obtain rfl : r_10 = bI (isInB (nI d) 1 200) := hw_10
  refine lv_if_ne (tgt := 22) hx hb dX5_foresee_13 (by decide) (fun c_13 => ?_) (fun c_13 => False.elim (by exact absurd ((bI0 c_13).symm.trans (isIn_d h0 h1)) (by decide)))
  refine lv_iload_n hx hb dX5_foresee_22 rfl (lv_at hl 2 rfl) ?_
  refine lv_iconst (v := 4) hx hb dX5_foresee_23 (by decide) ?_
  refine lv_icmp_eq (tgt := 50) hx hb dX5_foresee_24 (by decide) (fun c_24 => False.elim (by exact hb1.1 c_24)) (fun c_24 => ?_)
  refine lv_iload_n hx hb dX5_foresee_27 rfl (lv_at hl 2 rfl) ?_
  refine lv_iconst (v := 5) hx hb dX5_foresee_28 (by decide) ?_
  refine lv_icmp_eq (tgt := 50) hx hb dX5_foresee_29 (by decide) (fun c_29 => False.elim (by exact hb1.2.1 c_29)) (fun c_29 => ?_)
  refine lv_iload_n hx hb dX5_foresee_32 rfl (lv_at hl 2 rfl) ?_
  refine lv_bipush (v := 9) hx hb dX5_foresee_33 (by decide) ?_
  refine lv_icmp_eq (tgt := 50) hx hb dX5_foresee_35 (by decide) (fun c_35 => False.elim (by exact hb1.2.2.1 c_35)) (fun c_35 => ?_)
  refine lv_iload_n hx hb dX5_foresee_38 rfl (lv_at hl 2 rfl) ?_
  refine lv_bipush (v := 10) hx hb dX5_foresee_39 (by decide) ?_
  refine lv_icmp_eq (tgt := 50) hx hb dX5_foresee_41 (by decide) (fun c_41 => False.elim (by exact hb1.2.2.2 c_41)) (fun c_41 => ?_)
  refine lv_aload_n hx hb dX5_foresee_44 rfl (lv_at hl 0 rfl) ?_
  refine lv_iconst (v := 2) hx hb dX5_foresee_45 (by decide) ?_
  refine goI ([]) ([(mm 0, I_ cA 64 (pkB B)), (mm 1, I_ cA 15 (pkG G)), (mm 2, I_ cA 3 T), (mm 3, I_ cA 64 (pkB BA)), (mm 4, I_ cA 15 (pkG GA)), (mm 5, I_ cA 3 TA), (mm 6, I_ cA 8 mo)]) hP hD hS hA (rnV (rest := []) (m_no sa tb D cA cL l h mm 0 dy co ti ro n nb 2 ) ([]) ([(mm 0, I_ cA 64 (pkB B)), (mm 1, I_ cA 15 (pkG G)), (mm 2, I_ cA 3 T), (mm 3, I_ cA 64 (pkB BA)), (mm 4, I_ cA 15 (pkG GA)), (mm 5, I_ cA 3 TA), (mm 6, I_ cA 8 mo)]) hP hD hS hA hE ⟨hx, hb, hml, hown, hts⟩ (cwV 1 hts gX5_foresee_X5_no rfl rfl rfl (by decide +kernel) ⟨(Nat.le_of_ble_eq_true rfl), (Nat.le_of_ble_eq_true rfl)⟩) 5 0 rfl rfl rfl rfl hl.1 rfl (Nat.le_of_ble_eq_true rfl) dX5_foresee_46 ⟨(Nat.le_of_ble_eq_true rfl), (Nat.le_of_ble_eq_true rfl)⟩) (fun _ => (show List.map Prod.fst _ = [h] from rfl).trans (show [h] = List.map Prod.fst _ from rfl)) (fun r_46 u_46 H locs hw_46 hP hD hS => ?_)
  have hP : va_P D vwCl (wMod cA h mm 2 dy co ti ro n nb B G T BA GA TA mo) H := hP
  have hD : va_D A (wMod cA h mm 2 dy co ti ro n nb B G T BA GA TA mo) := hD
  obtain rfl : r_46 = 0 := hw_46
  exact enI () hx hb hr hlocks hS hP (rfl) dX5_foresee_49
set_option maxRecDepth 100000 in
set_option maxHeartbeats 4000000 in
theorem m_mean (sa tb : Nat → Nat) (D : va_G) (cA cL : ClassId) (l : Launch) (h : Nat) (mm : Nat → Nat) (th : Int32) (dy : Int32) (co : Int32) (ti : Int32) (ro : Int32) (n : Nat) (nb : Nat) (B : Nat → Nat → Int32) (G : Nat → Nat → Int32) (T : Nat → Int32) (BA : Nat → Nat → Int32) (GA : Nat → Nat → Int32) (TA : Nat → Int32) (mo : Nat → Int32) (hn : n ≤ 8) (hnan : n ≠ 0 → vf_n64 (FP.ddiv (FP.i2d (sumF (B 3) n)) (FP.i2d (nI n)))) : KM sa tb D cA cL l yX5_mean wsX5_mean ({ frames := 1, cells := 0, slots := 0, locals := 24 }) [.ref h] (wMod cA h mm th dy co ti ro n nb B G T BA GA TA mo) (qD D (fun (r : UInt64) (_ : Unit) => r = meanF n B) (fun _ => wMod cA h mm 0 dy co ti ro n nb B G T BA GA TA mo)) := by
  refine KM.of (cc := cX5_mean) (maxL := 1) (ret := some .double) (by decide) rfl (Nat.le_of_ble_eq_true rfl) ?_
  intro pg e s m args below meth c A hx hb hr hml hlocks hts hown hS hA hE hP hD ls hl
  have hown : s.vm.findClass RX5 = some m.cls := hown
  have hl : lv_has ls 1 [(0, .ref h)] := hl
  have hwX5 : ∀ w ∈ wsX50, w ∈ wsX5_mean := (fun _ h => List.mem_cons_of_mem _ (List.mem_append_right _ h))
  refine lv_aload_n hx hb dX5_mean_0 rfl (lv_at hl 0 rfl) ?_
  refine lv_iconst (v := 0) hx hb dX5_mean_1 (by decide) ?_
  refine va_put (D := D) (ci := 5) (v := .int 0) (ty := .int) (C := RX5) (T := TX5) (N := 14) hx hb hts hwX5 tyX5 tyX5_ok nmX5 hown hE.K hP hD hS 0 rfl rfl 0 (by decide) (hts (.fieldLink RX5 38 "SedgeBargesModel" "thrown" "I") (List.mem_of_getElem? (i := 1) rfl)) (fun _ h9 => h9) rfl (by decide +kernel) rfl rfl (Nat.le_of_ble_eq_true rfl) dX5_mean_2 (fun H locs hP hD hS => ?_)
  have hP : va_P D vwCl (wMod cA h mm 0 dy co ti ro n nb B G T BA GA TA mo) H := hP
  have hD : va_D A (wMod cA h mm 0 dy co ti ro n nb B G T BA GA TA mo) := hD
  refine lv_aload_n hx hb dX5_mean_5 rfl (lv_at hl 0 rfl) ?_
  refine va_get (D := D) (ci := 5) (v := .int (nI n)) (C := RX5) (T := TX5) (N := 14) hx hb hts hwX5 hown hE.K hP 0 rfl rfl 5 (by decide) (hts (.fieldLink RX5 41 "SedgeBargesModel" "beds" "I") (List.mem_of_getElem? (i := 2) rfl)) (fun _ h9 => h9) rfl dX5_mean_6 ?_
  refine rz_ne (tgt := 16) (a := n) hx hb (by omega) dX5_mean_9 (by decide) (fun c_9 => ?_) (fun c_9 => ?_)
  · refine lv_aload_n hx hb dX5_mean_16 rfl (lv_at hl 0 rfl) ?_
    refine lv_aload_n hx hb dX5_mean_17 rfl (lv_at hl 0 rfl) ?_
    refine va_get (D := D) (ci := 5) (v := .ref (mm 0)) (C := RX5) (T := TX5) (N := 14) hx hb hts hwX5 hown hE.K hP 0 rfl rfl 7 (by decide) (hts (.fieldLink RX5 16 "SedgeBargesModel" "b" "[I") (List.mem_of_getElem? (i := 3) rfl)) (fun _ h9 => h9) rfl dX5_mean_18 ?_
    refine lv_iconst (v := 3) hx hb dX5_mean_21 (by decide) ?_
    refine goI ([]) ([(mm 1, I_ cA 15 (pkG G)), (mm 2, I_ cA 3 T), (mm 3, I_ cA 64 (pkB BA)), (mm 4, I_ cA 15 (pkG GA)), (mm 5, I_ cA 3 TA), (mm 6, I_ cA 8 mo)]) hP hD hS hA (rnV (rest := []) (m_sum3 sa tb D cA cL l h mm 0 dy co ti ro n nb (mm 0) B (show n ≤ 8 from by first | omega | assumption | decide)) ([]) ([(mm 1, I_ cA 15 (pkG G)), (mm 2, I_ cA 3 T), (mm 3, I_ cA 64 (pkB BA)), (mm 4, I_ cA 15 (pkG GA)), (mm 5, I_ cA 3 TA), (mm 6, I_ cA 8 mo)]) hP hD hS hA hE ⟨hx, hb, hml, hown, hts⟩ (cwV 2 hts gX5_mean_X5_sum rfl rfl rfl (by decide +kernel) ⟨(Nat.le_of_ble_eq_true rfl), (Nat.le_of_ble_eq_true rfl)⟩) 5 0 rfl rfl rfl rfl hl.1 rfl (Nat.le_of_ble_eq_true rfl) dX5_mean_22 ⟨(Nat.le_of_ble_eq_true rfl), (Nat.le_of_ble_eq_true rfl)⟩) (fun _ => rfl) (fun r_22 u_22 H locs hw_22 hP hD hS => ?_)
    have hP : va_P D vwCl (wMod cA h mm 0 dy co ti ro n nb B G T BA GA TA mo) H := hP
    have hD : va_D A (wMod cA h mm 0 dy co ti ro n nb B G T BA GA TA mo) := hD
    obtain rfl : r_22 = sumF (B 3) n := hw_22
    refine lv_i2d hx hb dX5_mean_25 ?_
    refine lv_aload_n hx hb dX5_mean_26 rfl (lv_at hl 0 rfl) ?_
    refine va_get (D := D) (ci := 5) (v := .int (nI n)) (C := RX5) (T := TX5) (N := 14) hx hb hts hwX5 hown hE.K hP 0 rfl rfl 5 (by decide) (hts (.fieldLink RX5 41 "SedgeBargesModel" "beds" "I") (List.mem_of_getElem? (i := 2) rfl)) (fun _ h9 => h9) rfl dX5_mean_27 ?_
    refine lv_i2d hx hb dX5_mean_30 ?_
    refine lv_ddiv hx hb dX5_mean_31 (hnan c_9) ?_
    exact enD () hx hb hr hlocks hS hP (by first | exact (if_pos c_9).symm | exact (if_neg c_9).symm) dX5_mean_32
  · refine lv_dconst0 hx hb dX5_mean_12 ?_
    refine lv_goto (tgt := 32) hx hb dX5_mean_13 (by decide) ?_
    exact enD () hx hb hr hlocks hS hP (by first | exact (if_pos c_9).symm | exact (if_neg c_9).symm) dX5_mean_32
set_option maxRecDepth 100000 in
set_option maxHeartbeats 4000000 in
theorem m_digest (sa tb : Nat → Nat) (D : va_G) (cA cL : ClassId) (l : Launch) (h : Nat) (mm : Nat → Nat) (th : Int32) (dy : Int32) (co : Int32) (ti : Int32) (ro : Int32) (n : Nat) (nb : Nat) (B : Nat → Nat → Int32) (G : Nat → Nat → Int32) (T : Nat → Int32) (BA : Nat → Nat → Int32) (GA : Nat → Nat → Int32) (TA : Nat → Int32) (mo : Nat → Int32) (hn : n ≤ 8) (hnb : nb ≤ 3) (hI : Inv n nb B G) : KM sa tb D cA cL l yX5_digest wsX5_digest ({ frames := 4, cells := 0, slots := 0, locals := 89 }) [.ref h] (wMod cA h mm th dy co ti ro n nb B G T BA GA TA mo) (qL D (fun (r : Int64) (_ : Unit) => r = digF dy co ti ro n B nb G T) (fun _ => wMod cA h mm 0 dy co ti ro n nb B G T BA GA TA mo)) := by
  refine KM.of (cc := cX5_digest) (maxL := 4) (ret := some .long) (by decide) rfl (Nat.le_of_ble_eq_true rfl) ?_
  intro pg e s m args below meth c A hx hb hr hml hlocks hts hown hS hA hE hP hD ls hl
  have hown : s.vm.findClass RX5 = some m.cls := hown
  have hl : lv_has ls 4 [(0, .ref h)] := hl
  have hwX5 : ∀ w ∈ wsX50, w ∈ wsX5_digest := (fun _ h => List.mem_cons_of_mem _ (List.mem_append_right _ h))
  refine lv_aload_n hx hb dX5_digest_0 rfl (lv_at hl 0 rfl) ?_
  refine lv_iconst (v := 0) hx hb dX5_digest_1 (by decide) ?_
  refine va_put (D := D) (ci := 5) (v := .int 0) (ty := .int) (C := RX5) (T := TX5) (N := 14) hx hb hts hwX5 tyX5 tyX5_ok nmX5 hown hE.K hP hD hS 0 rfl rfl 0 (by decide) (hts (.fieldLink RX5 38 "SedgeBargesModel" "thrown" "I") (List.mem_of_getElem? (i := 1) rfl)) (fun _ h9 => h9) rfl (by decide +kernel) rfl rfl (Nat.le_of_ble_eq_true rfl) dX5_digest_2 (fun H locs hP hD hS => ?_)
  have hP : va_P D vwCl (wMod cA h mm 0 dy co ti ro n nb B G T BA GA TA mo) H := hP
  have hD : va_D A (wMod cA h mm 0 dy co ti ro n nb B G T BA GA TA mo) := hD
  refine lv_ldc2 (v := 1277) hx hb hown (hts (.constantLong RX5 182 1277) (List.mem_of_getElem? (i := 2) rfl)) dX5_digest_5 ?_
  refine lv_lstore_n (lv' := [(1, .long 1277), (0, .ref h)]) hx hb dX5_digest_8 rfl hl (by decide) rfl (fun ls hl => ?_)
  refine lv_iconst (v := 0) hx hb dX5_digest_9 (by decide) ?_
  refine lv_istore_n (lv' := [(3, .int 0), (1, .long 1277), (0, .ref h)]) hx hb dX5_digest_10 rfl hl (by decide) rfl (fun ls hl => ?_)
  refine lv_iload_n hx hb dX5_digest_11 rfl (lv_at hl 0 rfl) ?_
  refine lv_bipush (v := 11) hx hb dX5_digest_12 (by decide) ?_
  refine lv_icmp_ge (tgt := 36) hx hb dX5_digest_14 (by decide) (fun q => absurd q (by decide)) (fun _ => ?_)
  refine lv_lload_n hx hb dX5_digest_17 rfl (lv_at hl 1 rfl) ?_
  refine lv_ldc2 (v := 31) hx hb hown (hts (.constantLong RX5 184 31) (List.mem_of_getElem? (i := 3) rfl)) dX5_digest_18 ?_
  refine lv_lmul hx hb dX5_digest_21 ?_
  refine lv_aload_n hx hb dX5_digest_22 rfl (lv_at hl 2 rfl) ?_
  refine lv_iload_n hx hb dX5_digest_23 rfl (lv_at hl 0 rfl) ?_
  refine goI ([]) ([]) hP hD hS hA (rnV (rest := [.long (1277 * 31)]) (m_counted sa tb D cA cL l h mm 0 dy co ti ro n nb B G T BA GA TA mo 0 (show n ≤ 8 from by first | omega | assumption | decide) (show nb ≤ 3 from by first | omega | assumption | decide) (show Inv n nb B G from by first | omega | assumption | decide) (show 0 < 11 from by decide)) ([]) ([]) hP hD hS hA hE ⟨hx, hb, hml, hown, hts⟩ (cwV 1 hts gX5_digest_X5_counted rfl rfl rfl (by decide +kernel) ⟨(Nat.le_of_ble_eq_true rfl), (Nat.le_of_ble_eq_true rfl)⟩) 5 0 rfl rfl rfl rfl hl.1 rfl (Nat.le_of_ble_eq_true rfl) dX5_digest_24 ⟨(Nat.le_of_ble_eq_true rfl), (Nat.le_of_ble_eq_true rfl)⟩) (fun _ => rfl) (fun r_24 u_24 H locs hw_24 hP hD hS => ?_)
  have hP : va_P D vwCl (wMod cA h mm 0 dy co ti ro n nb B G T BA GA TA mo) H := hP
  have hD : va_D A (wMod cA h mm 0 dy co ti ro n nb B G T BA GA TA mo) := hD
  refine w_eqi (show r_24 = tellW dy co ti ro n B nb G T 0 from hw_24) ?_
  refine lv_i2l (v := (tellW dy co ti ro n B nb G T 0 : Int32).toInt64) hx hb dX5_digest_27 rfl ?_
  refine lv_ladd hx hb dX5_digest_28 ?_
  refine lv_lstore_n (lv' := [(1, .long ((1277 * 31) + (Int32.toInt64 (tellW dy co ti ro n B nb G T 0)))), (3, .int 0), (0, .ref h)]) hx hb dX5_digest_29 rfl hl (by decide) rfl (fun ls hl => ?_)
  refine lv_iinc (v := 1) (lv' := [(3, .int 1), (1, .long ((1277 * 31) + (Int32.toInt64 (tellW dy co ti ro n B nb G T 0)))), (0, .ref h)]) (k := 1) hx hb dX5_digest_30 hl rfl (by decide) (by decide) rfl (fun ls hl => ?_)
  refine lv_goto (tgt := 11) hx hb dX5_digest_33 (by decide) ?_
  refine lv_iload_n hx hb dX5_digest_11 rfl (lv_at hl 0 rfl) ?_
  refine lv_bipush (v := 11) hx hb dX5_digest_12 (by decide) ?_
  refine lv_icmp_ge (tgt := 36) hx hb dX5_digest_14 (by decide) (fun q => absurd q (by decide)) (fun _ => ?_)
  refine lv_lload_n hx hb dX5_digest_17 rfl (lv_at hl 1 rfl) ?_
  refine lv_ldc2 (v := 31) hx hb hown (hts (.constantLong RX5 184 31) (List.mem_of_getElem? (i := 3) rfl)) dX5_digest_18 ?_
  refine lv_lmul hx hb dX5_digest_21 ?_
  refine lv_aload_n hx hb dX5_digest_22 rfl (lv_at hl 2 rfl) ?_
  refine lv_iload_n hx hb dX5_digest_23 rfl (lv_at hl 0 rfl) ?_
  refine goI ([]) ([]) hP hD hS hA (rnV (rest := [.long (((1277 * 31) + (Int32.toInt64 (tellW dy co ti ro n B nb G T 0))) * 31)]) (m_counted sa tb D cA cL l h mm 0 dy co ti ro n nb B G T BA GA TA mo 1 (show n ≤ 8 from by first | omega | assumption | decide) (show nb ≤ 3 from by first | omega | assumption | decide) (show Inv n nb B G from by first | omega | assumption | decide) (show 1 < 11 from by decide)) ([]) ([]) hP hD hS hA hE ⟨hx, hb, hml, hown, hts⟩ (cwV 1 hts gX5_digest_X5_counted rfl rfl rfl (by decide +kernel) ⟨(Nat.le_of_ble_eq_true rfl), (Nat.le_of_ble_eq_true rfl)⟩) 5 0 rfl rfl rfl rfl hl.1 rfl (Nat.le_of_ble_eq_true rfl) dX5_digest_24 ⟨(Nat.le_of_ble_eq_true rfl), (Nat.le_of_ble_eq_true rfl)⟩) (fun _ => rfl) (fun r_24 u_24 H locs hw_24 hP hD hS => ?_)
  have hP : va_P D vwCl (wMod cA h mm 0 dy co ti ro n nb B G T BA GA TA mo) H := hP
  have hD : va_D A (wMod cA h mm 0 dy co ti ro n nb B G T BA GA TA mo) := hD
  refine w_eqi (show r_24 = tellW dy co ti ro n B nb G T 1 from hw_24) ?_
  refine lv_i2l (v := (tellW dy co ti ro n B nb G T 1 : Int32).toInt64) hx hb dX5_digest_27 rfl ?_
  refine lv_ladd hx hb dX5_digest_28 ?_
  refine lv_lstore_n (lv' := [(1, .long ((((1277 * 31) + (Int32.toInt64 (tellW dy co ti ro n B nb G T 0))) * 31) + (Int32.toInt64 (tellW dy co ti ro n B nb G T 1)))), (3, .int 1), (0, .ref h)]) hx hb dX5_digest_29 rfl hl (by decide) rfl (fun ls hl => ?_)
  refine lv_iinc (v := 2) (lv' := [(3, .int 2), (1, .long ((((1277 * 31) + (Int32.toInt64 (tellW dy co ti ro n B nb G T 0))) * 31) + (Int32.toInt64 (tellW dy co ti ro n B nb G T 1)))), (0, .ref h)]) (k := 1) hx hb dX5_digest_30 hl rfl (by decide) (by decide) rfl (fun ls hl => ?_)
  refine lv_goto (tgt := 11) hx hb dX5_digest_33 (by decide) ?_
  refine lv_iload_n hx hb dX5_digest_11 rfl (lv_at hl 0 rfl) ?_
  refine lv_bipush (v := 11) hx hb dX5_digest_12 (by decide) ?_
  refine lv_icmp_ge (tgt := 36) hx hb dX5_digest_14 (by decide) (fun q => absurd q (by decide)) (fun _ => ?_)
  refine lv_lload_n hx hb dX5_digest_17 rfl (lv_at hl 1 rfl) ?_
  refine lv_ldc2 (v := 31) hx hb hown (hts (.constantLong RX5 184 31) (List.mem_of_getElem? (i := 3) rfl)) dX5_digest_18 ?_
  refine lv_lmul hx hb dX5_digest_21 ?_
  refine lv_aload_n hx hb dX5_digest_22 rfl (lv_at hl 2 rfl) ?_
  refine lv_iload_n hx hb dX5_digest_23 rfl (lv_at hl 0 rfl) ?_
  refine goI ([]) ([]) hP hD hS hA (rnV (rest := [.long (((((1277 * 31) + (Int32.toInt64 (tellW dy co ti ro n B nb G T 0))) * 31) + (Int32.toInt64 (tellW dy co ti ro n B nb G T 1))) * 31)]) (m_counted sa tb D cA cL l h mm 0 dy co ti ro n nb B G T BA GA TA mo 2 (show n ≤ 8 from by first | omega | assumption | decide) (show nb ≤ 3 from by first | omega | assumption | decide) (show Inv n nb B G from by first | omega | assumption | decide) (show 2 < 11 from by decide)) ([]) ([]) hP hD hS hA hE ⟨hx, hb, hml, hown, hts⟩ (cwV 1 hts gX5_digest_X5_counted rfl rfl rfl (by decide +kernel) ⟨(Nat.le_of_ble_eq_true rfl), (Nat.le_of_ble_eq_true rfl)⟩) 5 0 rfl rfl rfl rfl hl.1 rfl (Nat.le_of_ble_eq_true rfl) dX5_digest_24 ⟨(Nat.le_of_ble_eq_true rfl), (Nat.le_of_ble_eq_true rfl)⟩) (fun _ => rfl) (fun r_24 u_24 H locs hw_24 hP hD hS => ?_)
  have hP : va_P D vwCl (wMod cA h mm 0 dy co ti ro n nb B G T BA GA TA mo) H := hP
  have hD : va_D A (wMod cA h mm 0 dy co ti ro n nb B G T BA GA TA mo) := hD
  refine w_eqi (show r_24 = tellW dy co ti ro n B nb G T 2 from hw_24) ?_
  refine lv_i2l (v := (tellW dy co ti ro n B nb G T 2 : Int32).toInt64) hx hb dX5_digest_27 rfl ?_
  refine lv_ladd hx hb dX5_digest_28 ?_
  refine lv_lstore_n (lv' := [(1, .long ((((((1277 * 31) + (Int32.toInt64 (tellW dy co ti ro n B nb G T 0))) * 31) + (Int32.toInt64 (tellW dy co ti ro n B nb G T 1))) * 31) + (Int32.toInt64 (tellW dy co ti ro n B nb G T 2)))), (3, .int 2), (0, .ref h)]) hx hb dX5_digest_29 rfl hl (by decide) rfl (fun ls hl => ?_)
  refine lv_iinc (v := 3) (lv' := [(3, .int 3), (1, .long ((((((1277 * 31) + (Int32.toInt64 (tellW dy co ti ro n B nb G T 0))) * 31) + (Int32.toInt64 (tellW dy co ti ro n B nb G T 1))) * 31) + (Int32.toInt64 (tellW dy co ti ro n B nb G T 2)))), (0, .ref h)]) (k := 1) hx hb dX5_digest_30 hl rfl (by decide) (by decide) rfl (fun ls hl => ?_)
  refine lv_goto (tgt := 11) hx hb dX5_digest_33 (by decide) ?_
  refine lv_iload_n hx hb dX5_digest_11 rfl (lv_at hl 0 rfl) ?_
  refine lv_bipush (v := 11) hx hb dX5_digest_12 (by decide) ?_
  refine lv_icmp_ge (tgt := 36) hx hb dX5_digest_14 (by decide) (fun q => absurd q (by decide)) (fun _ => ?_)
  refine lv_lload_n hx hb dX5_digest_17 rfl (lv_at hl 1 rfl) ?_
  refine lv_ldc2 (v := 31) hx hb hown (hts (.constantLong RX5 184 31) (List.mem_of_getElem? (i := 3) rfl)) dX5_digest_18 ?_
  refine lv_lmul hx hb dX5_digest_21 ?_
  refine lv_aload_n hx hb dX5_digest_22 rfl (lv_at hl 2 rfl) ?_
  refine lv_iload_n hx hb dX5_digest_23 rfl (lv_at hl 0 rfl) ?_
  refine goI ([]) ([]) hP hD hS hA (rnV (rest := [.long (((((((1277 * 31) + (Int32.toInt64 (tellW dy co ti ro n B nb G T 0))) * 31) + (Int32.toInt64 (tellW dy co ti ro n B nb G T 1))) * 31) + (Int32.toInt64 (tellW dy co ti ro n B nb G T 2))) * 31)]) (m_counted sa tb D cA cL l h mm 0 dy co ti ro n nb B G T BA GA TA mo 3 (show n ≤ 8 from by first | omega | assumption | decide) (show nb ≤ 3 from by first | omega | assumption | decide) (show Inv n nb B G from by first | omega | assumption | decide) (show 3 < 11 from by decide)) ([]) ([]) hP hD hS hA hE ⟨hx, hb, hml, hown, hts⟩ (cwV 1 hts gX5_digest_X5_counted rfl rfl rfl (by decide +kernel) ⟨(Nat.le_of_ble_eq_true rfl), (Nat.le_of_ble_eq_true rfl)⟩) 5 0 rfl rfl rfl rfl hl.1 rfl (Nat.le_of_ble_eq_true rfl) dX5_digest_24 ⟨(Nat.le_of_ble_eq_true rfl), (Nat.le_of_ble_eq_true rfl)⟩) (fun _ => rfl) (fun r_24 u_24 H locs hw_24 hP hD hS => ?_)
  have hP : va_P D vwCl (wMod cA h mm 0 dy co ti ro n nb B G T BA GA TA mo) H := hP
  have hD : va_D A (wMod cA h mm 0 dy co ti ro n nb B G T BA GA TA mo) := hD
  refine w_eqi (show r_24 = tellW dy co ti ro n B nb G T 3 from hw_24) ?_
  refine lv_i2l (v := (tellW dy co ti ro n B nb G T 3 : Int32).toInt64) hx hb dX5_digest_27 rfl ?_
  refine lv_ladd hx hb dX5_digest_28 ?_
  refine lv_lstore_n (lv' := [(1, .long ((((((((1277 * 31) + (Int32.toInt64 (tellW dy co ti ro n B nb G T 0))) * 31) + (Int32.toInt64 (tellW dy co ti ro n B nb G T 1))) * 31) + (Int32.toInt64 (tellW dy co ti ro n B nb G T 2))) * 31) + (Int32.toInt64 (tellW dy co ti ro n B nb G T 3)))), (3, .int 3), (0, .ref h)]) hx hb dX5_digest_29 rfl hl (by decide) rfl (fun ls hl => ?_)
  refine lv_iinc (v := 4) (lv' := [(3, .int 4), (1, .long ((((((((1277 * 31) + (Int32.toInt64 (tellW dy co ti ro n B nb G T 0))) * 31) + (Int32.toInt64 (tellW dy co ti ro n B nb G T 1))) * 31) + (Int32.toInt64 (tellW dy co ti ro n B nb G T 2))) * 31) + (Int32.toInt64 (tellW dy co ti ro n B nb G T 3)))), (0, .ref h)]) (k := 1) hx hb dX5_digest_30 hl rfl (by decide) (by decide) rfl (fun ls hl => ?_)
  refine lv_goto (tgt := 11) hx hb dX5_digest_33 (by decide) ?_
  refine lv_iload_n hx hb dX5_digest_11 rfl (lv_at hl 0 rfl) ?_
  refine lv_bipush (v := 11) hx hb dX5_digest_12 (by decide) ?_
  refine lv_icmp_ge (tgt := 36) hx hb dX5_digest_14 (by decide) (fun q => absurd q (by decide)) (fun _ => ?_)
  refine lv_lload_n hx hb dX5_digest_17 rfl (lv_at hl 1 rfl) ?_
  refine lv_ldc2 (v := 31) hx hb hown (hts (.constantLong RX5 184 31) (List.mem_of_getElem? (i := 3) rfl)) dX5_digest_18 ?_
  refine lv_lmul hx hb dX5_digest_21 ?_
  refine lv_aload_n hx hb dX5_digest_22 rfl (lv_at hl 2 rfl) ?_
  refine lv_iload_n hx hb dX5_digest_23 rfl (lv_at hl 0 rfl) ?_
  refine goI ([]) ([]) hP hD hS hA (rnV (rest := [.long (((((((((1277 * 31) + (Int32.toInt64 (tellW dy co ti ro n B nb G T 0))) * 31) + (Int32.toInt64 (tellW dy co ti ro n B nb G T 1))) * 31) + (Int32.toInt64 (tellW dy co ti ro n B nb G T 2))) * 31) + (Int32.toInt64 (tellW dy co ti ro n B nb G T 3))) * 31)]) (m_counted sa tb D cA cL l h mm 0 dy co ti ro n nb B G T BA GA TA mo 4 (show n ≤ 8 from by first | omega | assumption | decide) (show nb ≤ 3 from by first | omega | assumption | decide) (show Inv n nb B G from by first | omega | assumption | decide) (show 4 < 11 from by decide)) ([]) ([]) hP hD hS hA hE ⟨hx, hb, hml, hown, hts⟩ (cwV 1 hts gX5_digest_X5_counted rfl rfl rfl (by decide +kernel) ⟨(Nat.le_of_ble_eq_true rfl), (Nat.le_of_ble_eq_true rfl)⟩) 5 0 rfl rfl rfl rfl hl.1 rfl (Nat.le_of_ble_eq_true rfl) dX5_digest_24 ⟨(Nat.le_of_ble_eq_true rfl), (Nat.le_of_ble_eq_true rfl)⟩) (fun _ => rfl) (fun r_24 u_24 H locs hw_24 hP hD hS => ?_)
  have hP : va_P D vwCl (wMod cA h mm 0 dy co ti ro n nb B G T BA GA TA mo) H := hP
  have hD : va_D A (wMod cA h mm 0 dy co ti ro n nb B G T BA GA TA mo) := hD
  refine w_eqi (show r_24 = tellW dy co ti ro n B nb G T 4 from hw_24) ?_
  refine lv_i2l (v := (tellW dy co ti ro n B nb G T 4 : Int32).toInt64) hx hb dX5_digest_27 rfl ?_
  refine lv_ladd hx hb dX5_digest_28 ?_
  refine lv_lstore_n (lv' := [(1, .long ((((((((((1277 * 31) + (Int32.toInt64 (tellW dy co ti ro n B nb G T 0))) * 31) + (Int32.toInt64 (tellW dy co ti ro n B nb G T 1))) * 31) + (Int32.toInt64 (tellW dy co ti ro n B nb G T 2))) * 31) + (Int32.toInt64 (tellW dy co ti ro n B nb G T 3))) * 31) + (Int32.toInt64 (tellW dy co ti ro n B nb G T 4)))), (3, .int 4), (0, .ref h)]) hx hb dX5_digest_29 rfl hl (by decide) rfl (fun ls hl => ?_)
  refine lv_iinc (v := 5) (lv' := [(3, .int 5), (1, .long ((((((((((1277 * 31) + (Int32.toInt64 (tellW dy co ti ro n B nb G T 0))) * 31) + (Int32.toInt64 (tellW dy co ti ro n B nb G T 1))) * 31) + (Int32.toInt64 (tellW dy co ti ro n B nb G T 2))) * 31) + (Int32.toInt64 (tellW dy co ti ro n B nb G T 3))) * 31) + (Int32.toInt64 (tellW dy co ti ro n B nb G T 4)))), (0, .ref h)]) (k := 1) hx hb dX5_digest_30 hl rfl (by decide) (by decide) rfl (fun ls hl => ?_)
  refine lv_goto (tgt := 11) hx hb dX5_digest_33 (by decide) ?_
  refine lv_iload_n hx hb dX5_digest_11 rfl (lv_at hl 0 rfl) ?_
  refine lv_bipush (v := 11) hx hb dX5_digest_12 (by decide) ?_
  refine lv_icmp_ge (tgt := 36) hx hb dX5_digest_14 (by decide) (fun q => absurd q (by decide)) (fun _ => ?_)
  refine lv_lload_n hx hb dX5_digest_17 rfl (lv_at hl 1 rfl) ?_
  refine lv_ldc2 (v := 31) hx hb hown (hts (.constantLong RX5 184 31) (List.mem_of_getElem? (i := 3) rfl)) dX5_digest_18 ?_
  refine lv_lmul hx hb dX5_digest_21 ?_
  refine lv_aload_n hx hb dX5_digest_22 rfl (lv_at hl 2 rfl) ?_
  refine lv_iload_n hx hb dX5_digest_23 rfl (lv_at hl 0 rfl) ?_
  refine goI ([]) ([]) hP hD hS hA (rnV (rest := [.long (((((((((((1277 * 31) + (Int32.toInt64 (tellW dy co ti ro n B nb G T 0))) * 31) + (Int32.toInt64 (tellW dy co ti ro n B nb G T 1))) * 31) + (Int32.toInt64 (tellW dy co ti ro n B nb G T 2))) * 31) + (Int32.toInt64 (tellW dy co ti ro n B nb G T 3))) * 31) + (Int32.toInt64 (tellW dy co ti ro n B nb G T 4))) * 31)]) (m_counted sa tb D cA cL l h mm 0 dy co ti ro n nb B G T BA GA TA mo 5 (show n ≤ 8 from by first | omega | assumption | decide) (show nb ≤ 3 from by first | omega | assumption | decide) (show Inv n nb B G from by first | omega | assumption | decide) (show 5 < 11 from by decide)) ([]) ([]) hP hD hS hA hE ⟨hx, hb, hml, hown, hts⟩ (cwV 1 hts gX5_digest_X5_counted rfl rfl rfl (by decide +kernel) ⟨(Nat.le_of_ble_eq_true rfl), (Nat.le_of_ble_eq_true rfl)⟩) 5 0 rfl rfl rfl rfl hl.1 rfl (Nat.le_of_ble_eq_true rfl) dX5_digest_24 ⟨(Nat.le_of_ble_eq_true rfl), (Nat.le_of_ble_eq_true rfl)⟩) (fun _ => rfl) (fun r_24 u_24 H locs hw_24 hP hD hS => ?_)
  have hP : va_P D vwCl (wMod cA h mm 0 dy co ti ro n nb B G T BA GA TA mo) H := hP
  have hD : va_D A (wMod cA h mm 0 dy co ti ro n nb B G T BA GA TA mo) := hD
  refine w_eqi (show r_24 = tellW dy co ti ro n B nb G T 5 from hw_24) ?_
  refine lv_i2l (v := (tellW dy co ti ro n B nb G T 5 : Int32).toInt64) hx hb dX5_digest_27 rfl ?_
  refine lv_ladd hx hb dX5_digest_28 ?_
  refine lv_lstore_n (lv' := [(1, .long ((((((((((((1277 * 31) + (Int32.toInt64 (tellW dy co ti ro n B nb G T 0))) * 31) + (Int32.toInt64 (tellW dy co ti ro n B nb G T 1))) * 31) + (Int32.toInt64 (tellW dy co ti ro n B nb G T 2))) * 31) + (Int32.toInt64 (tellW dy co ti ro n B nb G T 3))) * 31) + (Int32.toInt64 (tellW dy co ti ro n B nb G T 4))) * 31) + (Int32.toInt64 (tellW dy co ti ro n B nb G T 5)))), (3, .int 5), (0, .ref h)]) hx hb dX5_digest_29 rfl hl (by decide) rfl (fun ls hl => ?_)
  refine lv_iinc (v := 6) (lv' := [(3, .int 6), (1, .long ((((((((((((1277 * 31) + (Int32.toInt64 (tellW dy co ti ro n B nb G T 0))) * 31) + (Int32.toInt64 (tellW dy co ti ro n B nb G T 1))) * 31) + (Int32.toInt64 (tellW dy co ti ro n B nb G T 2))) * 31) + (Int32.toInt64 (tellW dy co ti ro n B nb G T 3))) * 31) + (Int32.toInt64 (tellW dy co ti ro n B nb G T 4))) * 31) + (Int32.toInt64 (tellW dy co ti ro n B nb G T 5)))), (0, .ref h)]) (k := 1) hx hb dX5_digest_30 hl rfl (by decide) (by decide) rfl (fun ls hl => ?_)
  refine lv_goto (tgt := 11) hx hb dX5_digest_33 (by decide) ?_
  refine lv_iload_n hx hb dX5_digest_11 rfl (lv_at hl 0 rfl) ?_
  refine lv_bipush (v := 11) hx hb dX5_digest_12 (by decide) ?_
  refine lv_icmp_ge (tgt := 36) hx hb dX5_digest_14 (by decide) (fun q => absurd q (by decide)) (fun _ => ?_)
  refine lv_lload_n hx hb dX5_digest_17 rfl (lv_at hl 1 rfl) ?_
  refine lv_ldc2 (v := 31) hx hb hown (hts (.constantLong RX5 184 31) (List.mem_of_getElem? (i := 3) rfl)) dX5_digest_18 ?_
  refine lv_lmul hx hb dX5_digest_21 ?_
  refine lv_aload_n hx hb dX5_digest_22 rfl (lv_at hl 2 rfl) ?_
  refine lv_iload_n hx hb dX5_digest_23 rfl (lv_at hl 0 rfl) ?_
  refine goI ([]) ([]) hP hD hS hA (rnV (rest := [.long (((((((((((((1277 * 31) + (Int32.toInt64 (tellW dy co ti ro n B nb G T 0))) * 31) + (Int32.toInt64 (tellW dy co ti ro n B nb G T 1))) * 31) + (Int32.toInt64 (tellW dy co ti ro n B nb G T 2))) * 31) + (Int32.toInt64 (tellW dy co ti ro n B nb G T 3))) * 31) + (Int32.toInt64 (tellW dy co ti ro n B nb G T 4))) * 31) + (Int32.toInt64 (tellW dy co ti ro n B nb G T 5))) * 31)]) (m_counted sa tb D cA cL l h mm 0 dy co ti ro n nb B G T BA GA TA mo 6 (show n ≤ 8 from by first | omega | assumption | decide) (show nb ≤ 3 from by first | omega | assumption | decide) (show Inv n nb B G from by first | omega | assumption | decide) (show 6 < 11 from by decide)) ([]) ([]) hP hD hS hA hE ⟨hx, hb, hml, hown, hts⟩ (cwV 1 hts gX5_digest_X5_counted rfl rfl rfl (by decide +kernel) ⟨(Nat.le_of_ble_eq_true rfl), (Nat.le_of_ble_eq_true rfl)⟩) 5 0 rfl rfl rfl rfl hl.1 rfl (Nat.le_of_ble_eq_true rfl) dX5_digest_24 ⟨(Nat.le_of_ble_eq_true rfl), (Nat.le_of_ble_eq_true rfl)⟩) (fun _ => rfl) (fun r_24 u_24 H locs hw_24 hP hD hS => ?_)
  have hP : va_P D vwCl (wMod cA h mm 0 dy co ti ro n nb B G T BA GA TA mo) H := hP
  have hD : va_D A (wMod cA h mm 0 dy co ti ro n nb B G T BA GA TA mo) := hD
  refine w_eqi (show r_24 = tellW dy co ti ro n B nb G T 6 from hw_24) ?_
  refine lv_i2l (v := (tellW dy co ti ro n B nb G T 6 : Int32).toInt64) hx hb dX5_digest_27 rfl ?_
  refine lv_ladd hx hb dX5_digest_28 ?_
  refine lv_lstore_n (lv' := [(1, .long ((((((((((((((1277 * 31) + (Int32.toInt64 (tellW dy co ti ro n B nb G T 0))) * 31) + (Int32.toInt64 (tellW dy co ti ro n B nb G T 1))) * 31) + (Int32.toInt64 (tellW dy co ti ro n B nb G T 2))) * 31) + (Int32.toInt64 (tellW dy co ti ro n B nb G T 3))) * 31) + (Int32.toInt64 (tellW dy co ti ro n B nb G T 4))) * 31) + (Int32.toInt64 (tellW dy co ti ro n B nb G T 5))) * 31) + (Int32.toInt64 (tellW dy co ti ro n B nb G T 6)))), (3, .int 6), (0, .ref h)]) hx hb dX5_digest_29 rfl hl (by decide) rfl (fun ls hl => ?_)
  refine lv_iinc (v := 7) (lv' := [(3, .int 7), (1, .long ((((((((((((((1277 * 31) + (Int32.toInt64 (tellW dy co ti ro n B nb G T 0))) * 31) + (Int32.toInt64 (tellW dy co ti ro n B nb G T 1))) * 31) + (Int32.toInt64 (tellW dy co ti ro n B nb G T 2))) * 31) + (Int32.toInt64 (tellW dy co ti ro n B nb G T 3))) * 31) + (Int32.toInt64 (tellW dy co ti ro n B nb G T 4))) * 31) + (Int32.toInt64 (tellW dy co ti ro n B nb G T 5))) * 31) + (Int32.toInt64 (tellW dy co ti ro n B nb G T 6)))), (0, .ref h)]) (k := 1) hx hb dX5_digest_30 hl rfl (by decide) (by decide) rfl (fun ls hl => ?_)
  refine lv_goto (tgt := 11) hx hb dX5_digest_33 (by decide) ?_
  refine lv_iload_n hx hb dX5_digest_11 rfl (lv_at hl 0 rfl) ?_
  refine lv_bipush (v := 11) hx hb dX5_digest_12 (by decide) ?_
  refine lv_icmp_ge (tgt := 36) hx hb dX5_digest_14 (by decide) (fun q => absurd q (by decide)) (fun _ => ?_)
  refine lv_lload_n hx hb dX5_digest_17 rfl (lv_at hl 1 rfl) ?_
  refine lv_ldc2 (v := 31) hx hb hown (hts (.constantLong RX5 184 31) (List.mem_of_getElem? (i := 3) rfl)) dX5_digest_18 ?_
  refine lv_lmul hx hb dX5_digest_21 ?_
  refine lv_aload_n hx hb dX5_digest_22 rfl (lv_at hl 2 rfl) ?_
  refine lv_iload_n hx hb dX5_digest_23 rfl (lv_at hl 0 rfl) ?_
  refine goI ([]) ([]) hP hD hS hA (rnV (rest := [.long (((((((((((((((1277 * 31) + (Int32.toInt64 (tellW dy co ti ro n B nb G T 0))) * 31) + (Int32.toInt64 (tellW dy co ti ro n B nb G T 1))) * 31) + (Int32.toInt64 (tellW dy co ti ro n B nb G T 2))) * 31) + (Int32.toInt64 (tellW dy co ti ro n B nb G T 3))) * 31) + (Int32.toInt64 (tellW dy co ti ro n B nb G T 4))) * 31) + (Int32.toInt64 (tellW dy co ti ro n B nb G T 5))) * 31) + (Int32.toInt64 (tellW dy co ti ro n B nb G T 6))) * 31)]) (m_counted sa tb D cA cL l h mm 0 dy co ti ro n nb B G T BA GA TA mo 7 (show n ≤ 8 from by first | omega | assumption | decide) (show nb ≤ 3 from by first | omega | assumption | decide) (show Inv n nb B G from by first | omega | assumption | decide) (show 7 < 11 from by decide)) ([]) ([]) hP hD hS hA hE ⟨hx, hb, hml, hown, hts⟩ (cwV 1 hts gX5_digest_X5_counted rfl rfl rfl (by decide +kernel) ⟨(Nat.le_of_ble_eq_true rfl), (Nat.le_of_ble_eq_true rfl)⟩) 5 0 rfl rfl rfl rfl hl.1 rfl (Nat.le_of_ble_eq_true rfl) dX5_digest_24 ⟨(Nat.le_of_ble_eq_true rfl), (Nat.le_of_ble_eq_true rfl)⟩) (fun _ => rfl) (fun r_24 u_24 H locs hw_24 hP hD hS => ?_)
  have hP : va_P D vwCl (wMod cA h mm 0 dy co ti ro n nb B G T BA GA TA mo) H := hP
  have hD : va_D A (wMod cA h mm 0 dy co ti ro n nb B G T BA GA TA mo) := hD
  refine w_eqi (show r_24 = tellW dy co ti ro n B nb G T 7 from hw_24) ?_
  refine lv_i2l (v := (tellW dy co ti ro n B nb G T 7 : Int32).toInt64) hx hb dX5_digest_27 rfl ?_
  refine lv_ladd hx hb dX5_digest_28 ?_
  refine lv_lstore_n (lv' := [(1, .long ((((((((((((((((1277 * 31) + (Int32.toInt64 (tellW dy co ti ro n B nb G T 0))) * 31) + (Int32.toInt64 (tellW dy co ti ro n B nb G T 1))) * 31) + (Int32.toInt64 (tellW dy co ti ro n B nb G T 2))) * 31) + (Int32.toInt64 (tellW dy co ti ro n B nb G T 3))) * 31) + (Int32.toInt64 (tellW dy co ti ro n B nb G T 4))) * 31) + (Int32.toInt64 (tellW dy co ti ro n B nb G T 5))) * 31) + (Int32.toInt64 (tellW dy co ti ro n B nb G T 6))) * 31) + (Int32.toInt64 (tellW dy co ti ro n B nb G T 7)))), (3, .int 7), (0, .ref h)]) hx hb dX5_digest_29 rfl hl (by decide) rfl (fun ls hl => ?_)
  refine lv_iinc (v := 8) (lv' := [(3, .int 8), (1, .long ((((((((((((((((1277 * 31) + (Int32.toInt64 (tellW dy co ti ro n B nb G T 0))) * 31) + (Int32.toInt64 (tellW dy co ti ro n B nb G T 1))) * 31) + (Int32.toInt64 (tellW dy co ti ro n B nb G T 2))) * 31) + (Int32.toInt64 (tellW dy co ti ro n B nb G T 3))) * 31) + (Int32.toInt64 (tellW dy co ti ro n B nb G T 4))) * 31) + (Int32.toInt64 (tellW dy co ti ro n B nb G T 5))) * 31) + (Int32.toInt64 (tellW dy co ti ro n B nb G T 6))) * 31) + (Int32.toInt64 (tellW dy co ti ro n B nb G T 7)))), (0, .ref h)]) (k := 1) hx hb dX5_digest_30 hl rfl (by decide) (by decide) rfl (fun ls hl => ?_)
  refine lv_goto (tgt := 11) hx hb dX5_digest_33 (by decide) ?_
  refine lv_iload_n hx hb dX5_digest_11 rfl (lv_at hl 0 rfl) ?_
  refine lv_bipush (v := 11) hx hb dX5_digest_12 (by decide) ?_
  refine lv_icmp_ge (tgt := 36) hx hb dX5_digest_14 (by decide) (fun q => absurd q (by decide)) (fun _ => ?_)
  refine lv_lload_n hx hb dX5_digest_17 rfl (lv_at hl 1 rfl) ?_
  refine lv_ldc2 (v := 31) hx hb hown (hts (.constantLong RX5 184 31) (List.mem_of_getElem? (i := 3) rfl)) dX5_digest_18 ?_
  refine lv_lmul hx hb dX5_digest_21 ?_
  refine lv_aload_n hx hb dX5_digest_22 rfl (lv_at hl 2 rfl) ?_
  refine lv_iload_n hx hb dX5_digest_23 rfl (lv_at hl 0 rfl) ?_
  refine goI ([]) ([]) hP hD hS hA (rnV (rest := [.long (((((((((((((((((1277 * 31) + (Int32.toInt64 (tellW dy co ti ro n B nb G T 0))) * 31) + (Int32.toInt64 (tellW dy co ti ro n B nb G T 1))) * 31) + (Int32.toInt64 (tellW dy co ti ro n B nb G T 2))) * 31) + (Int32.toInt64 (tellW dy co ti ro n B nb G T 3))) * 31) + (Int32.toInt64 (tellW dy co ti ro n B nb G T 4))) * 31) + (Int32.toInt64 (tellW dy co ti ro n B nb G T 5))) * 31) + (Int32.toInt64 (tellW dy co ti ro n B nb G T 6))) * 31) + (Int32.toInt64 (tellW dy co ti ro n B nb G T 7))) * 31)]) (m_counted sa tb D cA cL l h mm 0 dy co ti ro n nb B G T BA GA TA mo 8 (show n ≤ 8 from by first | omega | assumption | decide) (show nb ≤ 3 from by first | omega | assumption | decide) (show Inv n nb B G from by first | omega | assumption | decide) (show 8 < 11 from by decide)) ([]) ([]) hP hD hS hA hE ⟨hx, hb, hml, hown, hts⟩ (cwV 1 hts gX5_digest_X5_counted rfl rfl rfl (by decide +kernel) ⟨(Nat.le_of_ble_eq_true rfl), (Nat.le_of_ble_eq_true rfl)⟩) 5 0 rfl rfl rfl rfl hl.1 rfl (Nat.le_of_ble_eq_true rfl) dX5_digest_24 ⟨(Nat.le_of_ble_eq_true rfl), (Nat.le_of_ble_eq_true rfl)⟩) (fun _ => rfl) (fun r_24 u_24 H locs hw_24 hP hD hS => ?_)
  have hP : va_P D vwCl (wMod cA h mm 0 dy co ti ro n nb B G T BA GA TA mo) H := hP
  have hD : va_D A (wMod cA h mm 0 dy co ti ro n nb B G T BA GA TA mo) := hD
  refine w_eqi (show r_24 = tellW dy co ti ro n B nb G T 8 from hw_24) ?_
  refine lv_i2l (v := (tellW dy co ti ro n B nb G T 8 : Int32).toInt64) hx hb dX5_digest_27 rfl ?_
  refine lv_ladd hx hb dX5_digest_28 ?_
  refine lv_lstore_n (lv' := [(1, .long ((((((((((((((((((1277 * 31) + (Int32.toInt64 (tellW dy co ti ro n B nb G T 0))) * 31) + (Int32.toInt64 (tellW dy co ti ro n B nb G T 1))) * 31) + (Int32.toInt64 (tellW dy co ti ro n B nb G T 2))) * 31) + (Int32.toInt64 (tellW dy co ti ro n B nb G T 3))) * 31) + (Int32.toInt64 (tellW dy co ti ro n B nb G T 4))) * 31) + (Int32.toInt64 (tellW dy co ti ro n B nb G T 5))) * 31) + (Int32.toInt64 (tellW dy co ti ro n B nb G T 6))) * 31) + (Int32.toInt64 (tellW dy co ti ro n B nb G T 7))) * 31) + (Int32.toInt64 (tellW dy co ti ro n B nb G T 8)))), (3, .int 8), (0, .ref h)]) hx hb dX5_digest_29 rfl hl (by decide) rfl (fun ls hl => ?_)
  refine lv_iinc (v := 9) (lv' := [(3, .int 9), (1, .long ((((((((((((((((((1277 * 31) + (Int32.toInt64 (tellW dy co ti ro n B nb G T 0))) * 31) + (Int32.toInt64 (tellW dy co ti ro n B nb G T 1))) * 31) + (Int32.toInt64 (tellW dy co ti ro n B nb G T 2))) * 31) + (Int32.toInt64 (tellW dy co ti ro n B nb G T 3))) * 31) + (Int32.toInt64 (tellW dy co ti ro n B nb G T 4))) * 31) + (Int32.toInt64 (tellW dy co ti ro n B nb G T 5))) * 31) + (Int32.toInt64 (tellW dy co ti ro n B nb G T 6))) * 31) + (Int32.toInt64 (tellW dy co ti ro n B nb G T 7))) * 31) + (Int32.toInt64 (tellW dy co ti ro n B nb G T 8)))), (0, .ref h)]) (k := 1) hx hb dX5_digest_30 hl rfl (by decide) (by decide) rfl (fun ls hl => ?_)
  refine lv_goto (tgt := 11) hx hb dX5_digest_33 (by decide) ?_
  refine lv_iload_n hx hb dX5_digest_11 rfl (lv_at hl 0 rfl) ?_
  refine lv_bipush (v := 11) hx hb dX5_digest_12 (by decide) ?_
  refine lv_icmp_ge (tgt := 36) hx hb dX5_digest_14 (by decide) (fun q => absurd q (by decide)) (fun _ => ?_)
  refine lv_lload_n hx hb dX5_digest_17 rfl (lv_at hl 1 rfl) ?_
  refine lv_ldc2 (v := 31) hx hb hown (hts (.constantLong RX5 184 31) (List.mem_of_getElem? (i := 3) rfl)) dX5_digest_18 ?_
  refine lv_lmul hx hb dX5_digest_21 ?_
  refine lv_aload_n hx hb dX5_digest_22 rfl (lv_at hl 2 rfl) ?_
  refine lv_iload_n hx hb dX5_digest_23 rfl (lv_at hl 0 rfl) ?_
  refine goI ([]) ([]) hP hD hS hA (rnV (rest := [.long (((((((((((((((((((1277 * 31) + (Int32.toInt64 (tellW dy co ti ro n B nb G T 0))) * 31) + (Int32.toInt64 (tellW dy co ti ro n B nb G T 1))) * 31) + (Int32.toInt64 (tellW dy co ti ro n B nb G T 2))) * 31) + (Int32.toInt64 (tellW dy co ti ro n B nb G T 3))) * 31) + (Int32.toInt64 (tellW dy co ti ro n B nb G T 4))) * 31) + (Int32.toInt64 (tellW dy co ti ro n B nb G T 5))) * 31) + (Int32.toInt64 (tellW dy co ti ro n B nb G T 6))) * 31) + (Int32.toInt64 (tellW dy co ti ro n B nb G T 7))) * 31) + (Int32.toInt64 (tellW dy co ti ro n B nb G T 8))) * 31)]) (m_counted sa tb D cA cL l h mm 0 dy co ti ro n nb B G T BA GA TA mo 9 (show n ≤ 8 from by first | omega | assumption | decide) (show nb ≤ 3 from by first | omega | assumption | decide) (show Inv n nb B G from by first | omega | assumption | decide) (show 9 < 11 from by decide)) ([]) ([]) hP hD hS hA hE ⟨hx, hb, hml, hown, hts⟩ (cwV 1 hts gX5_digest_X5_counted rfl rfl rfl (by decide +kernel) ⟨(Nat.le_of_ble_eq_true rfl), (Nat.le_of_ble_eq_true rfl)⟩) 5 0 rfl rfl rfl rfl hl.1 rfl (Nat.le_of_ble_eq_true rfl) dX5_digest_24 ⟨(Nat.le_of_ble_eq_true rfl), (Nat.le_of_ble_eq_true rfl)⟩) (fun _ => rfl) (fun r_24 u_24 H locs hw_24 hP hD hS => ?_)
  have hP : va_P D vwCl (wMod cA h mm 0 dy co ti ro n nb B G T BA GA TA mo) H := hP
  have hD : va_D A (wMod cA h mm 0 dy co ti ro n nb B G T BA GA TA mo) := hD
  refine w_eqi (show r_24 = tellW dy co ti ro n B nb G T 9 from hw_24) ?_
  refine lv_i2l (v := (tellW dy co ti ro n B nb G T 9 : Int32).toInt64) hx hb dX5_digest_27 rfl ?_
  refine lv_ladd hx hb dX5_digest_28 ?_
  refine lv_lstore_n (lv' := [(1, .long ((((((((((((((((((((1277 * 31) + (Int32.toInt64 (tellW dy co ti ro n B nb G T 0))) * 31) + (Int32.toInt64 (tellW dy co ti ro n B nb G T 1))) * 31) + (Int32.toInt64 (tellW dy co ti ro n B nb G T 2))) * 31) + (Int32.toInt64 (tellW dy co ti ro n B nb G T 3))) * 31) + (Int32.toInt64 (tellW dy co ti ro n B nb G T 4))) * 31) + (Int32.toInt64 (tellW dy co ti ro n B nb G T 5))) * 31) + (Int32.toInt64 (tellW dy co ti ro n B nb G T 6))) * 31) + (Int32.toInt64 (tellW dy co ti ro n B nb G T 7))) * 31) + (Int32.toInt64 (tellW dy co ti ro n B nb G T 8))) * 31) + (Int32.toInt64 (tellW dy co ti ro n B nb G T 9)))), (3, .int 9), (0, .ref h)]) hx hb dX5_digest_29 rfl hl (by decide) rfl (fun ls hl => ?_)
  refine lv_iinc (v := 10) (lv' := [(3, .int 10), (1, .long ((((((((((((((((((((1277 * 31) + (Int32.toInt64 (tellW dy co ti ro n B nb G T 0))) * 31) + (Int32.toInt64 (tellW dy co ti ro n B nb G T 1))) * 31) + (Int32.toInt64 (tellW dy co ti ro n B nb G T 2))) * 31) + (Int32.toInt64 (tellW dy co ti ro n B nb G T 3))) * 31) + (Int32.toInt64 (tellW dy co ti ro n B nb G T 4))) * 31) + (Int32.toInt64 (tellW dy co ti ro n B nb G T 5))) * 31) + (Int32.toInt64 (tellW dy co ti ro n B nb G T 6))) * 31) + (Int32.toInt64 (tellW dy co ti ro n B nb G T 7))) * 31) + (Int32.toInt64 (tellW dy co ti ro n B nb G T 8))) * 31) + (Int32.toInt64 (tellW dy co ti ro n B nb G T 9)))), (0, .ref h)]) (k := 1) hx hb dX5_digest_30 hl rfl (by decide) (by decide) rfl (fun ls hl => ?_)
  refine lv_goto (tgt := 11) hx hb dX5_digest_33 (by decide) ?_
  refine lv_iload_n hx hb dX5_digest_11 rfl (lv_at hl 0 rfl) ?_
  refine lv_bipush (v := 11) hx hb dX5_digest_12 (by decide) ?_
  refine lv_icmp_ge (tgt := 36) hx hb dX5_digest_14 (by decide) (fun q => absurd q (by decide)) (fun _ => ?_)
  refine lv_lload_n hx hb dX5_digest_17 rfl (lv_at hl 1 rfl) ?_
  refine lv_ldc2 (v := 31) hx hb hown (hts (.constantLong RX5 184 31) (List.mem_of_getElem? (i := 3) rfl)) dX5_digest_18 ?_
  refine lv_lmul hx hb dX5_digest_21 ?_
  refine lv_aload_n hx hb dX5_digest_22 rfl (lv_at hl 2 rfl) ?_
  refine lv_iload_n hx hb dX5_digest_23 rfl (lv_at hl 0 rfl) ?_
  refine goI ([]) ([]) hP hD hS hA (rnV (rest := [.long (((((((((((((((((((((1277 * 31) + (Int32.toInt64 (tellW dy co ti ro n B nb G T 0))) * 31) + (Int32.toInt64 (tellW dy co ti ro n B nb G T 1))) * 31) + (Int32.toInt64 (tellW dy co ti ro n B nb G T 2))) * 31) + (Int32.toInt64 (tellW dy co ti ro n B nb G T 3))) * 31) + (Int32.toInt64 (tellW dy co ti ro n B nb G T 4))) * 31) + (Int32.toInt64 (tellW dy co ti ro n B nb G T 5))) * 31) + (Int32.toInt64 (tellW dy co ti ro n B nb G T 6))) * 31) + (Int32.toInt64 (tellW dy co ti ro n B nb G T 7))) * 31) + (Int32.toInt64 (tellW dy co ti ro n B nb G T 8))) * 31) + (Int32.toInt64 (tellW dy co ti ro n B nb G T 9))) * 31)]) (m_counted sa tb D cA cL l h mm 0 dy co ti ro n nb B G T BA GA TA mo 10 (show n ≤ 8 from by first | omega | assumption | decide) (show nb ≤ 3 from by first | omega | assumption | decide) (show Inv n nb B G from by first | omega | assumption | decide) (show 10 < 11 from by decide)) ([]) ([]) hP hD hS hA hE ⟨hx, hb, hml, hown, hts⟩ (cwV 1 hts gX5_digest_X5_counted rfl rfl rfl (by decide +kernel) ⟨(Nat.le_of_ble_eq_true rfl), (Nat.le_of_ble_eq_true rfl)⟩) 5 0 rfl rfl rfl rfl hl.1 rfl (Nat.le_of_ble_eq_true rfl) dX5_digest_24 ⟨(Nat.le_of_ble_eq_true rfl), (Nat.le_of_ble_eq_true rfl)⟩) (fun _ => rfl) (fun r_24 u_24 H locs hw_24 hP hD hS => ?_)
  have hP : va_P D vwCl (wMod cA h mm 0 dy co ti ro n nb B G T BA GA TA mo) H := hP
  have hD : va_D A (wMod cA h mm 0 dy co ti ro n nb B G T BA GA TA mo) := hD
  refine w_eqi (show r_24 = tellW dy co ti ro n B nb G T 10 from hw_24) ?_
  refine lv_i2l (v := (tellW dy co ti ro n B nb G T 10 : Int32).toInt64) hx hb dX5_digest_27 rfl ?_
  refine lv_ladd hx hb dX5_digest_28 ?_
  refine lv_lstore_n (lv' := [(1, .long ((((((((((((((((((((((1277 * 31) + (Int32.toInt64 (tellW dy co ti ro n B nb G T 0))) * 31) + (Int32.toInt64 (tellW dy co ti ro n B nb G T 1))) * 31) + (Int32.toInt64 (tellW dy co ti ro n B nb G T 2))) * 31) + (Int32.toInt64 (tellW dy co ti ro n B nb G T 3))) * 31) + (Int32.toInt64 (tellW dy co ti ro n B nb G T 4))) * 31) + (Int32.toInt64 (tellW dy co ti ro n B nb G T 5))) * 31) + (Int32.toInt64 (tellW dy co ti ro n B nb G T 6))) * 31) + (Int32.toInt64 (tellW dy co ti ro n B nb G T 7))) * 31) + (Int32.toInt64 (tellW dy co ti ro n B nb G T 8))) * 31) + (Int32.toInt64 (tellW dy co ti ro n B nb G T 9))) * 31) + (Int32.toInt64 (tellW dy co ti ro n B nb G T 10)))), (3, .int 10), (0, .ref h)]) hx hb dX5_digest_29 rfl hl (by decide) rfl (fun ls hl => ?_)
  refine lv_iinc (v := 11) (lv' := [(3, .int 11), (1, .long ((((((((((((((((((((((1277 * 31) + (Int32.toInt64 (tellW dy co ti ro n B nb G T 0))) * 31) + (Int32.toInt64 (tellW dy co ti ro n B nb G T 1))) * 31) + (Int32.toInt64 (tellW dy co ti ro n B nb G T 2))) * 31) + (Int32.toInt64 (tellW dy co ti ro n B nb G T 3))) * 31) + (Int32.toInt64 (tellW dy co ti ro n B nb G T 4))) * 31) + (Int32.toInt64 (tellW dy co ti ro n B nb G T 5))) * 31) + (Int32.toInt64 (tellW dy co ti ro n B nb G T 6))) * 31) + (Int32.toInt64 (tellW dy co ti ro n B nb G T 7))) * 31) + (Int32.toInt64 (tellW dy co ti ro n B nb G T 8))) * 31) + (Int32.toInt64 (tellW dy co ti ro n B nb G T 9))) * 31) + (Int32.toInt64 (tellW dy co ti ro n B nb G T 10)))), (0, .ref h)]) (k := 1) hx hb dX5_digest_30 hl rfl (by decide) (by decide) rfl (fun ls hl => ?_)
  refine lv_goto (tgt := 11) hx hb dX5_digest_33 (by decide) ?_
  refine lv_iload_n hx hb dX5_digest_11 rfl (lv_at hl 0 rfl) ?_
  refine lv_bipush (v := 11) hx hb dX5_digest_12 (by decide) ?_
  refine lv_icmp_ge (tgt := 36) hx hb dX5_digest_14 (by decide) (fun _ => ?_) (fun q => absurd (by decide) q)
  refine lv_iconst (v := 0) hx hb dX5_digest_36 (by decide) ?_
  refine lv_istore_n (lv' := [(3, .int 0), (1, .long ((((((((((((((((((((((1277 * 31) + (Int32.toInt64 (tellW dy co ti ro n B nb G T 0))) * 31) + (Int32.toInt64 (tellW dy co ti ro n B nb G T 1))) * 31) + (Int32.toInt64 (tellW dy co ti ro n B nb G T 2))) * 31) + (Int32.toInt64 (tellW dy co ti ro n B nb G T 3))) * 31) + (Int32.toInt64 (tellW dy co ti ro n B nb G T 4))) * 31) + (Int32.toInt64 (tellW dy co ti ro n B nb G T 5))) * 31) + (Int32.toInt64 (tellW dy co ti ro n B nb G T 6))) * 31) + (Int32.toInt64 (tellW dy co ti ro n B nb G T 7))) * 31) + (Int32.toInt64 (tellW dy co ti ro n B nb G T 8))) * 31) + (Int32.toInt64 (tellW dy co ti ro n B nb G T 9))) * 31) + (Int32.toInt64 (tellW dy co ti ro n B nb G T 10)))), (0, .ref h)]) hx hb dX5_digest_37 rfl hl (by decide) rfl (fun ls hl => ?_)
  have loop_38 : ∀ (f_38 : Nat) (i : Nat) (dd : Int64), (10 * n - i) < f_38 → (i ≤ 10 * n) → (dd = dg (fun k => tellB B (k / 10) (k % 10)) i (dg (tellW dy co ti ro n B nb G T) 11 1277)) → ∀ (H : Heap) (locs : List Loc), va_P D vwCl (wMod cA h mm 0 dy co ti ro n nb B G T BA GA TA mo) H → va_D A (wMod cA h mm 0 dy co ti ro n nb B G T BA GA TA mo) → va_S A s.heap H locs → ∀ ls : Array Slot, lv_has ls 4 [(0, .ref h), (1, .long dd), (3, .int (nI i))] → W pg l e ({ frames := 4, cells := 0, slots := 0, locals := 89 }) s m args below meth c H locs 0 0 (MQ below (qL D (fun (r : Int64) (_ : Unit) => r = digF dy co ti ro n B nb G T) (fun _ => wMod cA h mm 0 dy co ti ro n nb B G T BA GA TA mo) A) args s 0 0 A) (F0 m 38 ls []) := by
    intro f_38
    induction f_38 with
    | zero => intro i dd h_f; exact absurd h_f (Nat.not_lt_zero _)
    | succ f_38 ih_38 =>
      intro i dd h_f38 hi hdd H locs hP hD hS ls hl
      refine lv_iload_n hx hb dX5_digest_38 rfl (lv_at hl 2 rfl) ?_
      refine lv_bipush (v := 10) hx hb dX5_digest_39 (by decide) ?_
      refine lv_aload_n hx hb dX5_digest_41 rfl (lv_at hl 0 rfl) ?_
      refine va_get (D := D) (ci := 5) (v := .int (nI n)) (C := RX5) (T := TX5) (N := 14) hx hb hts hwX5 hown hE.K hP 0 rfl rfl 5 (by decide) (hts (.fieldLink RX5 41 "SedgeBargesModel" "beds" "I") (List.mem_of_getElem? (i := 4) rfl)) (fun _ h9 => h9) rfl dX5_digest_42 ?_
      refine rn_mul (a := 10) (b := n) hx hb dX5_digest_45 ?_
      refine rc_ge (tgt := 75) (a := i) (b := 10 * n) hx hb (by omega) (by omega) dX5_digest_46 (by decide) (fun c_46 => ?_) (fun c_46 => ?_)
      · refine lv_iconst (v := 0) hx hb dX5_digest_75 (by decide) ?_
        refine lv_istore_n (lv' := [(3, .int 0), (0, .ref h), (1, .long dd)]) hx hb dX5_digest_76 rfl hl (by decide) rfl (fun ls hl => ?_)
        have loop_77 : ∀ (f_77 : Nat) (i2 : Nat) (dd2 : Int64), (6 * nb - i2) < f_77 → (i2 ≤ 6 * nb) → (dd2 = dg (fun k => tellG G (k / 6) (k % 6)) i2 (dgB B n (dg (tellW dy co ti ro n B nb G T) 11 1277))) → ∀ (H : Heap) (locs : List Loc), va_P D vwCl (wMod cA h mm 0 dy co ti ro n nb B G T BA GA TA mo) H → va_D A (wMod cA h mm 0 dy co ti ro n nb B G T BA GA TA mo) → va_S A s.heap H locs → ∀ ls : Array Slot, lv_has ls 4 [(0, .ref h), (1, .long dd2), (3, .int (nI i2))] → W pg l e ({ frames := 4, cells := 0, slots := 0, locals := 89 }) s m args below meth c H locs 0 0 (MQ below (qL D (fun (r : Int64) (_ : Unit) => r = digF dy co ti ro n B nb G T) (fun _ => wMod cA h mm 0 dy co ti ro n nb B G T BA GA TA mo) A) args s 0 0 A) (F0 m 77 ls []) := by
          intro f_77
          induction f_77 with
          | zero => intro i2 dd2 h_f; exact absurd h_f (Nat.not_lt_zero _)
          | succ f_77 ih_77 =>
            intro i2 dd2 h_f77 hi2 hdd2 H locs hP hD hS ls hl
            refine lv_iload_n hx hb dX5_digest_77 rfl (lv_at hl 2 rfl) ?_
            refine lv_bipush (v := 6) hx hb dX5_digest_78 (by decide) ?_
            refine lv_aload_n hx hb dX5_digest_80 rfl (lv_at hl 0 rfl) ?_
            refine va_get (D := D) (ci := 5) (v := .int (nI nb)) (C := RX5) (T := TX5) (N := 14) hx hb hts hwX5 hown hE.K hP 0 rfl rfl 6 (by decide) (hts (.fieldLink RX5 48 "SedgeBargesModel" "barges" "I") (List.mem_of_getElem? (i := 5) rfl)) (fun _ h9 => h9) rfl dX5_digest_81 ?_
            refine rn_mul (a := 6) (b := nb) hx hb dX5_digest_84 ?_
            refine rc_ge (tgt := 114) (a := i2) (b := 6 * nb) hx hb (by omega) (by omega) dX5_digest_85 (by decide) (fun c_85 => ?_) (fun c_85 => ?_)
            · refine lv_iconst (v := 0) hx hb dX5_digest_114 (by decide) ?_
              refine lv_istore_n (lv' := [(3, .int 0), (0, .ref h), (1, .long dd2)]) hx hb dX5_digest_115 rfl hl (by decide) rfl (fun ls hl => ?_)
              refine lv_iload_n hx hb dX5_digest_116 rfl (lv_at hl 0 rfl) ?_
              refine lv_bipush (v := 12) hx hb dX5_digest_117 (by decide) ?_
              refine lv_icmp_ge (tgt := 146) hx hb dX5_digest_119 (by decide) (fun q => absurd q (by decide)) (fun _ => ?_)
              refine lv_lload_n hx hb dX5_digest_122 rfl (lv_at hl 2 rfl) ?_
              refine lv_ldc2 (v := 31) hx hb hown (hts (.constantLong RX5 184 31) (List.mem_of_getElem? (i := 3) rfl)) dX5_digest_123 ?_
              refine lv_lmul hx hb dX5_digest_126 ?_
              refine lv_aload_n hx hb dX5_digest_127 rfl (lv_at hl 1 rfl) ?_
              refine lv_iload_n hx hb dX5_digest_128 rfl (lv_at hl 0 rfl) ?_
              refine lv_iconst (v := 4) hx hb dX5_digest_129 (by decide) ?_
              refine rn_div (a := 0) (b := 4) hx hb (by omega) (by decide) (by decide) dX5_digest_130 ?_
              refine lv_iload_n hx hb dX5_digest_131 rfl (lv_at hl 0 rfl) ?_
              refine lv_iconst (v := 4) hx hb dX5_digest_132 (by decide) ?_
              refine rn_rem (a := 0) (b := 4) hx hb (by omega) (by decide) (by decide) dX5_digest_133 ?_
              refine goI ([]) ([]) hP hD hS hA (rnV (rest := [.long (dd2 * 31)]) (m_landingTold sa tb D cA cL l h mm 0 dy co ti ro n nb B G T BA GA TA mo (0 / 4) (0 % 4) (show (0 / 4) < 3 from by first | omega | assumption | decide) (show (0 % 4) < 4 from by first | omega | assumption | decide)) ([]) ([]) hP hD hS hA hE ⟨hx, hb, hml, hown, hts⟩ (cwV 2 hts gX5_digest_X5_landingTold rfl rfl rfl (by decide +kernel) ⟨(Nat.le_of_ble_eq_true rfl), (Nat.le_of_ble_eq_true rfl)⟩) 5 0 rfl rfl rfl rfl hl.1 rfl (Nat.le_of_ble_eq_true rfl) dX5_digest_134 ⟨(Nat.le_of_ble_eq_true rfl), (Nat.le_of_ble_eq_true rfl)⟩) (fun _ => rfl) (fun r_134 u_134 H locs hw_134 hP hD hS => ?_)
              have hP : va_P D vwCl (wMod cA h mm 0 dy co ti ro n nb B G T BA GA TA mo) H := hP
              have hD : va_D A (wMod cA h mm 0 dy co ti ro n nb B G T BA GA TA mo) := hD
              refine w_eqi (show r_134 = tellL T (0 / 4) (0 % 4) from hw_134) ?_
              refine lv_i2l (v := (tellL T (0 / 4) (0 % 4) : Int32).toInt64) hx hb dX5_digest_137 rfl ?_
              refine lv_ladd hx hb dX5_digest_138 ?_
              refine lv_lstore_n (lv' := [(1, .long ((dd2 * 31) + (Int32.toInt64 (tellL T (0 / 4) (0 % 4))))), (3, .int 0), (0, .ref h)]) hx hb dX5_digest_139 rfl hl (by decide) rfl (fun ls hl => ?_)
              refine lv_iinc (v := 1) (lv' := [(3, .int 1), (1, .long ((dd2 * 31) + (Int32.toInt64 (tellL T (0 / 4) (0 % 4))))), (0, .ref h)]) (k := 1) hx hb dX5_digest_140 hl rfl (by decide) (by decide) rfl (fun ls hl => ?_)
              refine lv_goto (tgt := 116) hx hb dX5_digest_143 (by decide) ?_
              refine lv_iload_n hx hb dX5_digest_116 rfl (lv_at hl 0 rfl) ?_
              refine lv_bipush (v := 12) hx hb dX5_digest_117 (by decide) ?_
              refine lv_icmp_ge (tgt := 146) hx hb dX5_digest_119 (by decide) (fun q => absurd q (by decide)) (fun _ => ?_)
              refine lv_lload_n hx hb dX5_digest_122 rfl (lv_at hl 1 rfl) ?_
              refine lv_ldc2 (v := 31) hx hb hown (hts (.constantLong RX5 184 31) (List.mem_of_getElem? (i := 3) rfl)) dX5_digest_123 ?_
              refine lv_lmul hx hb dX5_digest_126 ?_
              refine lv_aload_n hx hb dX5_digest_127 rfl (lv_at hl 2 rfl) ?_
              refine lv_iload_n hx hb dX5_digest_128 rfl (lv_at hl 0 rfl) ?_
              refine lv_iconst (v := 4) hx hb dX5_digest_129 (by decide) ?_
              refine rn_div (a := 1) (b := 4) hx hb (by omega) (by decide) (by decide) dX5_digest_130 ?_
              refine lv_iload_n hx hb dX5_digest_131 rfl (lv_at hl 0 rfl) ?_
              refine lv_iconst (v := 4) hx hb dX5_digest_132 (by decide) ?_
              refine rn_rem (a := 1) (b := 4) hx hb (by omega) (by decide) (by decide) dX5_digest_133 ?_
              refine goI ([]) ([]) hP hD hS hA (rnV (rest := [.long (((dd2 * 31) + (Int32.toInt64 (tellL T (0 / 4) (0 % 4)))) * 31)]) (m_landingTold sa tb D cA cL l h mm 0 dy co ti ro n nb B G T BA GA TA mo (1 / 4) (1 % 4) (show (1 / 4) < 3 from by first | omega | assumption | decide) (show (1 % 4) < 4 from by first | omega | assumption | decide)) ([]) ([]) hP hD hS hA hE ⟨hx, hb, hml, hown, hts⟩ (cwV 2 hts gX5_digest_X5_landingTold rfl rfl rfl (by decide +kernel) ⟨(Nat.le_of_ble_eq_true rfl), (Nat.le_of_ble_eq_true rfl)⟩) 5 0 rfl rfl rfl rfl hl.1 rfl (Nat.le_of_ble_eq_true rfl) dX5_digest_134 ⟨(Nat.le_of_ble_eq_true rfl), (Nat.le_of_ble_eq_true rfl)⟩) (fun _ => rfl) (fun r_134 u_134 H locs hw_134 hP hD hS => ?_)
              have hP : va_P D vwCl (wMod cA h mm 0 dy co ti ro n nb B G T BA GA TA mo) H := hP
              have hD : va_D A (wMod cA h mm 0 dy co ti ro n nb B G T BA GA TA mo) := hD
              refine w_eqi (show r_134 = tellL T (1 / 4) (1 % 4) from hw_134) ?_
              refine lv_i2l (v := (tellL T (1 / 4) (1 % 4) : Int32).toInt64) hx hb dX5_digest_137 rfl ?_
              refine lv_ladd hx hb dX5_digest_138 ?_
              refine lv_lstore_n (lv' := [(1, .long ((((dd2 * 31) + (Int32.toInt64 (tellL T (0 / 4) (0 % 4)))) * 31) + (Int32.toInt64 (tellL T (1 / 4) (1 % 4))))), (3, .int 1), (0, .ref h)]) hx hb dX5_digest_139 rfl hl (by decide) rfl (fun ls hl => ?_)
              refine lv_iinc (v := 2) (lv' := [(3, .int 2), (1, .long ((((dd2 * 31) + (Int32.toInt64 (tellL T (0 / 4) (0 % 4)))) * 31) + (Int32.toInt64 (tellL T (1 / 4) (1 % 4))))), (0, .ref h)]) (k := 1) hx hb dX5_digest_140 hl rfl (by decide) (by decide) rfl (fun ls hl => ?_)
              refine lv_goto (tgt := 116) hx hb dX5_digest_143 (by decide) ?_
              refine lv_iload_n hx hb dX5_digest_116 rfl (lv_at hl 0 rfl) ?_
              refine lv_bipush (v := 12) hx hb dX5_digest_117 (by decide) ?_
              refine lv_icmp_ge (tgt := 146) hx hb dX5_digest_119 (by decide) (fun q => absurd q (by decide)) (fun _ => ?_)
              refine lv_lload_n hx hb dX5_digest_122 rfl (lv_at hl 1 rfl) ?_
              refine lv_ldc2 (v := 31) hx hb hown (hts (.constantLong RX5 184 31) (List.mem_of_getElem? (i := 3) rfl)) dX5_digest_123 ?_
              refine lv_lmul hx hb dX5_digest_126 ?_
              refine lv_aload_n hx hb dX5_digest_127 rfl (lv_at hl 2 rfl) ?_
              refine lv_iload_n hx hb dX5_digest_128 rfl (lv_at hl 0 rfl) ?_
              refine lv_iconst (v := 4) hx hb dX5_digest_129 (by decide) ?_
              refine rn_div (a := 2) (b := 4) hx hb (by omega) (by decide) (by decide) dX5_digest_130 ?_
              refine lv_iload_n hx hb dX5_digest_131 rfl (lv_at hl 0 rfl) ?_
              refine lv_iconst (v := 4) hx hb dX5_digest_132 (by decide) ?_
              refine rn_rem (a := 2) (b := 4) hx hb (by omega) (by decide) (by decide) dX5_digest_133 ?_
              refine goI ([]) ([]) hP hD hS hA (rnV (rest := [.long (((((dd2 * 31) + (Int32.toInt64 (tellL T (0 / 4) (0 % 4)))) * 31) + (Int32.toInt64 (tellL T (1 / 4) (1 % 4)))) * 31)]) (m_landingTold sa tb D cA cL l h mm 0 dy co ti ro n nb B G T BA GA TA mo (2 / 4) (2 % 4) (show (2 / 4) < 3 from by first | omega | assumption | decide) (show (2 % 4) < 4 from by first | omega | assumption | decide)) ([]) ([]) hP hD hS hA hE ⟨hx, hb, hml, hown, hts⟩ (cwV 2 hts gX5_digest_X5_landingTold rfl rfl rfl (by decide +kernel) ⟨(Nat.le_of_ble_eq_true rfl), (Nat.le_of_ble_eq_true rfl)⟩) 5 0 rfl rfl rfl rfl hl.1 rfl (Nat.le_of_ble_eq_true rfl) dX5_digest_134 ⟨(Nat.le_of_ble_eq_true rfl), (Nat.le_of_ble_eq_true rfl)⟩) (fun _ => rfl) (fun r_134 u_134 H locs hw_134 hP hD hS => ?_)
              have hP : va_P D vwCl (wMod cA h mm 0 dy co ti ro n nb B G T BA GA TA mo) H := hP
              have hD : va_D A (wMod cA h mm 0 dy co ti ro n nb B G T BA GA TA mo) := hD
              refine w_eqi (show r_134 = tellL T (2 / 4) (2 % 4) from hw_134) ?_
              refine lv_i2l (v := (tellL T (2 / 4) (2 % 4) : Int32).toInt64) hx hb dX5_digest_137 rfl ?_
              refine lv_ladd hx hb dX5_digest_138 ?_
              refine lv_lstore_n (lv' := [(1, .long ((((((dd2 * 31) + (Int32.toInt64 (tellL T (0 / 4) (0 % 4)))) * 31) + (Int32.toInt64 (tellL T (1 / 4) (1 % 4)))) * 31) + (Int32.toInt64 (tellL T (2 / 4) (2 % 4))))), (3, .int 2), (0, .ref h)]) hx hb dX5_digest_139 rfl hl (by decide) rfl (fun ls hl => ?_)
              refine lv_iinc (v := 3) (lv' := [(3, .int 3), (1, .long ((((((dd2 * 31) + (Int32.toInt64 (tellL T (0 / 4) (0 % 4)))) * 31) + (Int32.toInt64 (tellL T (1 / 4) (1 % 4)))) * 31) + (Int32.toInt64 (tellL T (2 / 4) (2 % 4))))), (0, .ref h)]) (k := 1) hx hb dX5_digest_140 hl rfl (by decide) (by decide) rfl (fun ls hl => ?_)
              refine lv_goto (tgt := 116) hx hb dX5_digest_143 (by decide) ?_
              refine lv_iload_n hx hb dX5_digest_116 rfl (lv_at hl 0 rfl) ?_
              refine lv_bipush (v := 12) hx hb dX5_digest_117 (by decide) ?_
              refine lv_icmp_ge (tgt := 146) hx hb dX5_digest_119 (by decide) (fun q => absurd q (by decide)) (fun _ => ?_)
              refine lv_lload_n hx hb dX5_digest_122 rfl (lv_at hl 1 rfl) ?_
              refine lv_ldc2 (v := 31) hx hb hown (hts (.constantLong RX5 184 31) (List.mem_of_getElem? (i := 3) rfl)) dX5_digest_123 ?_
              refine lv_lmul hx hb dX5_digest_126 ?_
              refine lv_aload_n hx hb dX5_digest_127 rfl (lv_at hl 2 rfl) ?_
              refine lv_iload_n hx hb dX5_digest_128 rfl (lv_at hl 0 rfl) ?_
              refine lv_iconst (v := 4) hx hb dX5_digest_129 (by decide) ?_
              refine rn_div (a := 3) (b := 4) hx hb (by omega) (by decide) (by decide) dX5_digest_130 ?_
              refine lv_iload_n hx hb dX5_digest_131 rfl (lv_at hl 0 rfl) ?_
              refine lv_iconst (v := 4) hx hb dX5_digest_132 (by decide) ?_
              refine rn_rem (a := 3) (b := 4) hx hb (by omega) (by decide) (by decide) dX5_digest_133 ?_
              refine goI ([]) ([]) hP hD hS hA (rnV (rest := [.long (((((((dd2 * 31) + (Int32.toInt64 (tellL T (0 / 4) (0 % 4)))) * 31) + (Int32.toInt64 (tellL T (1 / 4) (1 % 4)))) * 31) + (Int32.toInt64 (tellL T (2 / 4) (2 % 4)))) * 31)]) (m_landingTold sa tb D cA cL l h mm 0 dy co ti ro n nb B G T BA GA TA mo (3 / 4) (3 % 4) (show (3 / 4) < 3 from by first | omega | assumption | decide) (show (3 % 4) < 4 from by first | omega | assumption | decide)) ([]) ([]) hP hD hS hA hE ⟨hx, hb, hml, hown, hts⟩ (cwV 2 hts gX5_digest_X5_landingTold rfl rfl rfl (by decide +kernel) ⟨(Nat.le_of_ble_eq_true rfl), (Nat.le_of_ble_eq_true rfl)⟩) 5 0 rfl rfl rfl rfl hl.1 rfl (Nat.le_of_ble_eq_true rfl) dX5_digest_134 ⟨(Nat.le_of_ble_eq_true rfl), (Nat.le_of_ble_eq_true rfl)⟩) (fun _ => rfl) (fun r_134 u_134 H locs hw_134 hP hD hS => ?_)
              have hP : va_P D vwCl (wMod cA h mm 0 dy co ti ro n nb B G T BA GA TA mo) H := hP
              have hD : va_D A (wMod cA h mm 0 dy co ti ro n nb B G T BA GA TA mo) := hD
              refine w_eqi (show r_134 = tellL T (3 / 4) (3 % 4) from hw_134) ?_
              refine lv_i2l (v := (tellL T (3 / 4) (3 % 4) : Int32).toInt64) hx hb dX5_digest_137 rfl ?_
              refine lv_ladd hx hb dX5_digest_138 ?_
              refine lv_lstore_n (lv' := [(1, .long ((((((((dd2 * 31) + (Int32.toInt64 (tellL T (0 / 4) (0 % 4)))) * 31) + (Int32.toInt64 (tellL T (1 / 4) (1 % 4)))) * 31) + (Int32.toInt64 (tellL T (2 / 4) (2 % 4)))) * 31) + (Int32.toInt64 (tellL T (3 / 4) (3 % 4))))), (3, .int 3), (0, .ref h)]) hx hb dX5_digest_139 rfl hl (by decide) rfl (fun ls hl => ?_)
              refine lv_iinc (v := 4) (lv' := [(3, .int 4), (1, .long ((((((((dd2 * 31) + (Int32.toInt64 (tellL T (0 / 4) (0 % 4)))) * 31) + (Int32.toInt64 (tellL T (1 / 4) (1 % 4)))) * 31) + (Int32.toInt64 (tellL T (2 / 4) (2 % 4)))) * 31) + (Int32.toInt64 (tellL T (3 / 4) (3 % 4))))), (0, .ref h)]) (k := 1) hx hb dX5_digest_140 hl rfl (by decide) (by decide) rfl (fun ls hl => ?_)
              refine lv_goto (tgt := 116) hx hb dX5_digest_143 (by decide) ?_
              refine lv_iload_n hx hb dX5_digest_116 rfl (lv_at hl 0 rfl) ?_
              refine lv_bipush (v := 12) hx hb dX5_digest_117 (by decide) ?_
              refine lv_icmp_ge (tgt := 146) hx hb dX5_digest_119 (by decide) (fun q => absurd q (by decide)) (fun _ => ?_)
              refine lv_lload_n hx hb dX5_digest_122 rfl (lv_at hl 1 rfl) ?_
              refine lv_ldc2 (v := 31) hx hb hown (hts (.constantLong RX5 184 31) (List.mem_of_getElem? (i := 3) rfl)) dX5_digest_123 ?_
              refine lv_lmul hx hb dX5_digest_126 ?_
              refine lv_aload_n hx hb dX5_digest_127 rfl (lv_at hl 2 rfl) ?_
              refine lv_iload_n hx hb dX5_digest_128 rfl (lv_at hl 0 rfl) ?_
              refine lv_iconst (v := 4) hx hb dX5_digest_129 (by decide) ?_
              refine rn_div (a := 4) (b := 4) hx hb (by omega) (by decide) (by decide) dX5_digest_130 ?_
              refine lv_iload_n hx hb dX5_digest_131 rfl (lv_at hl 0 rfl) ?_
              refine lv_iconst (v := 4) hx hb dX5_digest_132 (by decide) ?_
              refine rn_rem (a := 4) (b := 4) hx hb (by omega) (by decide) (by decide) dX5_digest_133 ?_
              refine goI ([]) ([]) hP hD hS hA (rnV (rest := [.long (((((((((dd2 * 31) + (Int32.toInt64 (tellL T (0 / 4) (0 % 4)))) * 31) + (Int32.toInt64 (tellL T (1 / 4) (1 % 4)))) * 31) + (Int32.toInt64 (tellL T (2 / 4) (2 % 4)))) * 31) + (Int32.toInt64 (tellL T (3 / 4) (3 % 4)))) * 31)]) (m_landingTold sa tb D cA cL l h mm 0 dy co ti ro n nb B G T BA GA TA mo (4 / 4) (4 % 4) (show (4 / 4) < 3 from by first | omega | assumption | decide) (show (4 % 4) < 4 from by first | omega | assumption | decide)) ([]) ([]) hP hD hS hA hE ⟨hx, hb, hml, hown, hts⟩ (cwV 2 hts gX5_digest_X5_landingTold rfl rfl rfl (by decide +kernel) ⟨(Nat.le_of_ble_eq_true rfl), (Nat.le_of_ble_eq_true rfl)⟩) 5 0 rfl rfl rfl rfl hl.1 rfl (Nat.le_of_ble_eq_true rfl) dX5_digest_134 ⟨(Nat.le_of_ble_eq_true rfl), (Nat.le_of_ble_eq_true rfl)⟩) (fun _ => rfl) (fun r_134 u_134 H locs hw_134 hP hD hS => ?_)
              have hP : va_P D vwCl (wMod cA h mm 0 dy co ti ro n nb B G T BA GA TA mo) H := hP
              have hD : va_D A (wMod cA h mm 0 dy co ti ro n nb B G T BA GA TA mo) := hD
              refine w_eqi (show r_134 = tellL T (4 / 4) (4 % 4) from hw_134) ?_
              refine lv_i2l (v := (tellL T (4 / 4) (4 % 4) : Int32).toInt64) hx hb dX5_digest_137 rfl ?_
              refine lv_ladd hx hb dX5_digest_138 ?_
              refine lv_lstore_n (lv' := [(1, .long ((((((((((dd2 * 31) + (Int32.toInt64 (tellL T (0 / 4) (0 % 4)))) * 31) + (Int32.toInt64 (tellL T (1 / 4) (1 % 4)))) * 31) + (Int32.toInt64 (tellL T (2 / 4) (2 % 4)))) * 31) + (Int32.toInt64 (tellL T (3 / 4) (3 % 4)))) * 31) + (Int32.toInt64 (tellL T (4 / 4) (4 % 4))))), (3, .int 4), (0, .ref h)]) hx hb dX5_digest_139 rfl hl (by decide) rfl (fun ls hl => ?_)
              refine lv_iinc (v := 5) (lv' := [(3, .int 5), (1, .long ((((((((((dd2 * 31) + (Int32.toInt64 (tellL T (0 / 4) (0 % 4)))) * 31) + (Int32.toInt64 (tellL T (1 / 4) (1 % 4)))) * 31) + (Int32.toInt64 (tellL T (2 / 4) (2 % 4)))) * 31) + (Int32.toInt64 (tellL T (3 / 4) (3 % 4)))) * 31) + (Int32.toInt64 (tellL T (4 / 4) (4 % 4))))), (0, .ref h)]) (k := 1) hx hb dX5_digest_140 hl rfl (by decide) (by decide) rfl (fun ls hl => ?_)
              refine lv_goto (tgt := 116) hx hb dX5_digest_143 (by decide) ?_
              refine lv_iload_n hx hb dX5_digest_116 rfl (lv_at hl 0 rfl) ?_
              refine lv_bipush (v := 12) hx hb dX5_digest_117 (by decide) ?_
              refine lv_icmp_ge (tgt := 146) hx hb dX5_digest_119 (by decide) (fun q => absurd q (by decide)) (fun _ => ?_)
              refine lv_lload_n hx hb dX5_digest_122 rfl (lv_at hl 1 rfl) ?_
              refine lv_ldc2 (v := 31) hx hb hown (hts (.constantLong RX5 184 31) (List.mem_of_getElem? (i := 3) rfl)) dX5_digest_123 ?_
              refine lv_lmul hx hb dX5_digest_126 ?_
              refine lv_aload_n hx hb dX5_digest_127 rfl (lv_at hl 2 rfl) ?_
              refine lv_iload_n hx hb dX5_digest_128 rfl (lv_at hl 0 rfl) ?_
              refine lv_iconst (v := 4) hx hb dX5_digest_129 (by decide) ?_
              refine rn_div (a := 5) (b := 4) hx hb (by omega) (by decide) (by decide) dX5_digest_130 ?_
              refine lv_iload_n hx hb dX5_digest_131 rfl (lv_at hl 0 rfl) ?_
              refine lv_iconst (v := 4) hx hb dX5_digest_132 (by decide) ?_
              refine rn_rem (a := 5) (b := 4) hx hb (by omega) (by decide) (by decide) dX5_digest_133 ?_
              refine goI ([]) ([]) hP hD hS hA (rnV (rest := [.long (((((((((((dd2 * 31) + (Int32.toInt64 (tellL T (0 / 4) (0 % 4)))) * 31) + (Int32.toInt64 (tellL T (1 / 4) (1 % 4)))) * 31) + (Int32.toInt64 (tellL T (2 / 4) (2 % 4)))) * 31) + (Int32.toInt64 (tellL T (3 / 4) (3 % 4)))) * 31) + (Int32.toInt64 (tellL T (4 / 4) (4 % 4)))) * 31)]) (m_landingTold sa tb D cA cL l h mm 0 dy co ti ro n nb B G T BA GA TA mo (5 / 4) (5 % 4) (show (5 / 4) < 3 from by first | omega | assumption | decide) (show (5 % 4) < 4 from by first | omega | assumption | decide)) ([]) ([]) hP hD hS hA hE ⟨hx, hb, hml, hown, hts⟩ (cwV 2 hts gX5_digest_X5_landingTold rfl rfl rfl (by decide +kernel) ⟨(Nat.le_of_ble_eq_true rfl), (Nat.le_of_ble_eq_true rfl)⟩) 5 0 rfl rfl rfl rfl hl.1 rfl (Nat.le_of_ble_eq_true rfl) dX5_digest_134 ⟨(Nat.le_of_ble_eq_true rfl), (Nat.le_of_ble_eq_true rfl)⟩) (fun _ => rfl) (fun r_134 u_134 H locs hw_134 hP hD hS => ?_)
              have hP : va_P D vwCl (wMod cA h mm 0 dy co ti ro n nb B G T BA GA TA mo) H := hP
              have hD : va_D A (wMod cA h mm 0 dy co ti ro n nb B G T BA GA TA mo) := hD
              refine w_eqi (show r_134 = tellL T (5 / 4) (5 % 4) from hw_134) ?_
              refine lv_i2l (v := (tellL T (5 / 4) (5 % 4) : Int32).toInt64) hx hb dX5_digest_137 rfl ?_
              refine lv_ladd hx hb dX5_digest_138 ?_
              refine lv_lstore_n (lv' := [(1, .long ((((((((((((dd2 * 31) + (Int32.toInt64 (tellL T (0 / 4) (0 % 4)))) * 31) + (Int32.toInt64 (tellL T (1 / 4) (1 % 4)))) * 31) + (Int32.toInt64 (tellL T (2 / 4) (2 % 4)))) * 31) + (Int32.toInt64 (tellL T (3 / 4) (3 % 4)))) * 31) + (Int32.toInt64 (tellL T (4 / 4) (4 % 4)))) * 31) + (Int32.toInt64 (tellL T (5 / 4) (5 % 4))))), (3, .int 5), (0, .ref h)]) hx hb dX5_digest_139 rfl hl (by decide) rfl (fun ls hl => ?_)
              refine lv_iinc (v := 6) (lv' := [(3, .int 6), (1, .long ((((((((((((dd2 * 31) + (Int32.toInt64 (tellL T (0 / 4) (0 % 4)))) * 31) + (Int32.toInt64 (tellL T (1 / 4) (1 % 4)))) * 31) + (Int32.toInt64 (tellL T (2 / 4) (2 % 4)))) * 31) + (Int32.toInt64 (tellL T (3 / 4) (3 % 4)))) * 31) + (Int32.toInt64 (tellL T (4 / 4) (4 % 4)))) * 31) + (Int32.toInt64 (tellL T (5 / 4) (5 % 4))))), (0, .ref h)]) (k := 1) hx hb dX5_digest_140 hl rfl (by decide) (by decide) rfl (fun ls hl => ?_)
              refine lv_goto (tgt := 116) hx hb dX5_digest_143 (by decide) ?_
              refine lv_iload_n hx hb dX5_digest_116 rfl (lv_at hl 0 rfl) ?_
              refine lv_bipush (v := 12) hx hb dX5_digest_117 (by decide) ?_
              refine lv_icmp_ge (tgt := 146) hx hb dX5_digest_119 (by decide) (fun q => absurd q (by decide)) (fun _ => ?_)
              refine lv_lload_n hx hb dX5_digest_122 rfl (lv_at hl 1 rfl) ?_
              refine lv_ldc2 (v := 31) hx hb hown (hts (.constantLong RX5 184 31) (List.mem_of_getElem? (i := 3) rfl)) dX5_digest_123 ?_
              refine lv_lmul hx hb dX5_digest_126 ?_
              refine lv_aload_n hx hb dX5_digest_127 rfl (lv_at hl 2 rfl) ?_
              refine lv_iload_n hx hb dX5_digest_128 rfl (lv_at hl 0 rfl) ?_
              refine lv_iconst (v := 4) hx hb dX5_digest_129 (by decide) ?_
              refine rn_div (a := 6) (b := 4) hx hb (by omega) (by decide) (by decide) dX5_digest_130 ?_
              refine lv_iload_n hx hb dX5_digest_131 rfl (lv_at hl 0 rfl) ?_
              refine lv_iconst (v := 4) hx hb dX5_digest_132 (by decide) ?_
              refine rn_rem (a := 6) (b := 4) hx hb (by omega) (by decide) (by decide) dX5_digest_133 ?_
              refine goI ([]) ([]) hP hD hS hA (rnV (rest := [.long (((((((((((((dd2 * 31) + (Int32.toInt64 (tellL T (0 / 4) (0 % 4)))) * 31) + (Int32.toInt64 (tellL T (1 / 4) (1 % 4)))) * 31) + (Int32.toInt64 (tellL T (2 / 4) (2 % 4)))) * 31) + (Int32.toInt64 (tellL T (3 / 4) (3 % 4)))) * 31) + (Int32.toInt64 (tellL T (4 / 4) (4 % 4)))) * 31) + (Int32.toInt64 (tellL T (5 / 4) (5 % 4)))) * 31)]) (m_landingTold sa tb D cA cL l h mm 0 dy co ti ro n nb B G T BA GA TA mo (6 / 4) (6 % 4) (show (6 / 4) < 3 from by first | omega | assumption | decide) (show (6 % 4) < 4 from by first | omega | assumption | decide)) ([]) ([]) hP hD hS hA hE ⟨hx, hb, hml, hown, hts⟩ (cwV 2 hts gX5_digest_X5_landingTold rfl rfl rfl (by decide +kernel) ⟨(Nat.le_of_ble_eq_true rfl), (Nat.le_of_ble_eq_true rfl)⟩) 5 0 rfl rfl rfl rfl hl.1 rfl (Nat.le_of_ble_eq_true rfl) dX5_digest_134 ⟨(Nat.le_of_ble_eq_true rfl), (Nat.le_of_ble_eq_true rfl)⟩) (fun _ => rfl) (fun r_134 u_134 H locs hw_134 hP hD hS => ?_)
              have hP : va_P D vwCl (wMod cA h mm 0 dy co ti ro n nb B G T BA GA TA mo) H := hP
              have hD : va_D A (wMod cA h mm 0 dy co ti ro n nb B G T BA GA TA mo) := hD
              refine w_eqi (show r_134 = tellL T (6 / 4) (6 % 4) from hw_134) ?_
              refine lv_i2l (v := (tellL T (6 / 4) (6 % 4) : Int32).toInt64) hx hb dX5_digest_137 rfl ?_
              refine lv_ladd hx hb dX5_digest_138 ?_
              refine lv_lstore_n (lv' := [(1, .long ((((((((((((((dd2 * 31) + (Int32.toInt64 (tellL T (0 / 4) (0 % 4)))) * 31) + (Int32.toInt64 (tellL T (1 / 4) (1 % 4)))) * 31) + (Int32.toInt64 (tellL T (2 / 4) (2 % 4)))) * 31) + (Int32.toInt64 (tellL T (3 / 4) (3 % 4)))) * 31) + (Int32.toInt64 (tellL T (4 / 4) (4 % 4)))) * 31) + (Int32.toInt64 (tellL T (5 / 4) (5 % 4)))) * 31) + (Int32.toInt64 (tellL T (6 / 4) (6 % 4))))), (3, .int 6), (0, .ref h)]) hx hb dX5_digest_139 rfl hl (by decide) rfl (fun ls hl => ?_)
              refine lv_iinc (v := 7) (lv' := [(3, .int 7), (1, .long ((((((((((((((dd2 * 31) + (Int32.toInt64 (tellL T (0 / 4) (0 % 4)))) * 31) + (Int32.toInt64 (tellL T (1 / 4) (1 % 4)))) * 31) + (Int32.toInt64 (tellL T (2 / 4) (2 % 4)))) * 31) + (Int32.toInt64 (tellL T (3 / 4) (3 % 4)))) * 31) + (Int32.toInt64 (tellL T (4 / 4) (4 % 4)))) * 31) + (Int32.toInt64 (tellL T (5 / 4) (5 % 4)))) * 31) + (Int32.toInt64 (tellL T (6 / 4) (6 % 4))))), (0, .ref h)]) (k := 1) hx hb dX5_digest_140 hl rfl (by decide) (by decide) rfl (fun ls hl => ?_)
              refine lv_goto (tgt := 116) hx hb dX5_digest_143 (by decide) ?_
              refine lv_iload_n hx hb dX5_digest_116 rfl (lv_at hl 0 rfl) ?_
              refine lv_bipush (v := 12) hx hb dX5_digest_117 (by decide) ?_
              refine lv_icmp_ge (tgt := 146) hx hb dX5_digest_119 (by decide) (fun q => absurd q (by decide)) (fun _ => ?_)
              refine lv_lload_n hx hb dX5_digest_122 rfl (lv_at hl 1 rfl) ?_
              refine lv_ldc2 (v := 31) hx hb hown (hts (.constantLong RX5 184 31) (List.mem_of_getElem? (i := 3) rfl)) dX5_digest_123 ?_
              refine lv_lmul hx hb dX5_digest_126 ?_
              refine lv_aload_n hx hb dX5_digest_127 rfl (lv_at hl 2 rfl) ?_
              refine lv_iload_n hx hb dX5_digest_128 rfl (lv_at hl 0 rfl) ?_
              refine lv_iconst (v := 4) hx hb dX5_digest_129 (by decide) ?_
              refine rn_div (a := 7) (b := 4) hx hb (by omega) (by decide) (by decide) dX5_digest_130 ?_
              refine lv_iload_n hx hb dX5_digest_131 rfl (lv_at hl 0 rfl) ?_
              refine lv_iconst (v := 4) hx hb dX5_digest_132 (by decide) ?_
              refine rn_rem (a := 7) (b := 4) hx hb (by omega) (by decide) (by decide) dX5_digest_133 ?_
              refine goI ([]) ([]) hP hD hS hA (rnV (rest := [.long (((((((((((((((dd2 * 31) + (Int32.toInt64 (tellL T (0 / 4) (0 % 4)))) * 31) + (Int32.toInt64 (tellL T (1 / 4) (1 % 4)))) * 31) + (Int32.toInt64 (tellL T (2 / 4) (2 % 4)))) * 31) + (Int32.toInt64 (tellL T (3 / 4) (3 % 4)))) * 31) + (Int32.toInt64 (tellL T (4 / 4) (4 % 4)))) * 31) + (Int32.toInt64 (tellL T (5 / 4) (5 % 4)))) * 31) + (Int32.toInt64 (tellL T (6 / 4) (6 % 4)))) * 31)]) (m_landingTold sa tb D cA cL l h mm 0 dy co ti ro n nb B G T BA GA TA mo (7 / 4) (7 % 4) (show (7 / 4) < 3 from by first | omega | assumption | decide) (show (7 % 4) < 4 from by first | omega | assumption | decide)) ([]) ([]) hP hD hS hA hE ⟨hx, hb, hml, hown, hts⟩ (cwV 2 hts gX5_digest_X5_landingTold rfl rfl rfl (by decide +kernel) ⟨(Nat.le_of_ble_eq_true rfl), (Nat.le_of_ble_eq_true rfl)⟩) 5 0 rfl rfl rfl rfl hl.1 rfl (Nat.le_of_ble_eq_true rfl) dX5_digest_134 ⟨(Nat.le_of_ble_eq_true rfl), (Nat.le_of_ble_eq_true rfl)⟩) (fun _ => rfl) (fun r_134 u_134 H locs hw_134 hP hD hS => ?_)
              have hP : va_P D vwCl (wMod cA h mm 0 dy co ti ro n nb B G T BA GA TA mo) H := hP
              have hD : va_D A (wMod cA h mm 0 dy co ti ro n nb B G T BA GA TA mo) := hD
              refine w_eqi (show r_134 = tellL T (7 / 4) (7 % 4) from hw_134) ?_
              refine lv_i2l (v := (tellL T (7 / 4) (7 % 4) : Int32).toInt64) hx hb dX5_digest_137 rfl ?_
              refine lv_ladd hx hb dX5_digest_138 ?_
              refine lv_lstore_n (lv' := [(1, .long ((((((((((((((((dd2 * 31) + (Int32.toInt64 (tellL T (0 / 4) (0 % 4)))) * 31) + (Int32.toInt64 (tellL T (1 / 4) (1 % 4)))) * 31) + (Int32.toInt64 (tellL T (2 / 4) (2 % 4)))) * 31) + (Int32.toInt64 (tellL T (3 / 4) (3 % 4)))) * 31) + (Int32.toInt64 (tellL T (4 / 4) (4 % 4)))) * 31) + (Int32.toInt64 (tellL T (5 / 4) (5 % 4)))) * 31) + (Int32.toInt64 (tellL T (6 / 4) (6 % 4)))) * 31) + (Int32.toInt64 (tellL T (7 / 4) (7 % 4))))), (3, .int 7), (0, .ref h)]) hx hb dX5_digest_139 rfl hl (by decide) rfl (fun ls hl => ?_)
              refine lv_iinc (v := 8) (lv' := [(3, .int 8), (1, .long ((((((((((((((((dd2 * 31) + (Int32.toInt64 (tellL T (0 / 4) (0 % 4)))) * 31) + (Int32.toInt64 (tellL T (1 / 4) (1 % 4)))) * 31) + (Int32.toInt64 (tellL T (2 / 4) (2 % 4)))) * 31) + (Int32.toInt64 (tellL T (3 / 4) (3 % 4)))) * 31) + (Int32.toInt64 (tellL T (4 / 4) (4 % 4)))) * 31) + (Int32.toInt64 (tellL T (5 / 4) (5 % 4)))) * 31) + (Int32.toInt64 (tellL T (6 / 4) (6 % 4)))) * 31) + (Int32.toInt64 (tellL T (7 / 4) (7 % 4))))), (0, .ref h)]) (k := 1) hx hb dX5_digest_140 hl rfl (by decide) (by decide) rfl (fun ls hl => ?_)
              refine lv_goto (tgt := 116) hx hb dX5_digest_143 (by decide) ?_
              refine lv_iload_n hx hb dX5_digest_116 rfl (lv_at hl 0 rfl) ?_
              refine lv_bipush (v := 12) hx hb dX5_digest_117 (by decide) ?_
              refine lv_icmp_ge (tgt := 146) hx hb dX5_digest_119 (by decide) (fun q => absurd q (by decide)) (fun _ => ?_)
              refine lv_lload_n hx hb dX5_digest_122 rfl (lv_at hl 1 rfl) ?_
              refine lv_ldc2 (v := 31) hx hb hown (hts (.constantLong RX5 184 31) (List.mem_of_getElem? (i := 3) rfl)) dX5_digest_123 ?_
              refine lv_lmul hx hb dX5_digest_126 ?_
              refine lv_aload_n hx hb dX5_digest_127 rfl (lv_at hl 2 rfl) ?_
              refine lv_iload_n hx hb dX5_digest_128 rfl (lv_at hl 0 rfl) ?_
              refine lv_iconst (v := 4) hx hb dX5_digest_129 (by decide) ?_
              refine rn_div (a := 8) (b := 4) hx hb (by omega) (by decide) (by decide) dX5_digest_130 ?_
              refine lv_iload_n hx hb dX5_digest_131 rfl (lv_at hl 0 rfl) ?_
              refine lv_iconst (v := 4) hx hb dX5_digest_132 (by decide) ?_
              refine rn_rem (a := 8) (b := 4) hx hb (by omega) (by decide) (by decide) dX5_digest_133 ?_
              refine goI ([]) ([]) hP hD hS hA (rnV (rest := [.long (((((((((((((((((dd2 * 31) + (Int32.toInt64 (tellL T (0 / 4) (0 % 4)))) * 31) + (Int32.toInt64 (tellL T (1 / 4) (1 % 4)))) * 31) + (Int32.toInt64 (tellL T (2 / 4) (2 % 4)))) * 31) + (Int32.toInt64 (tellL T (3 / 4) (3 % 4)))) * 31) + (Int32.toInt64 (tellL T (4 / 4) (4 % 4)))) * 31) + (Int32.toInt64 (tellL T (5 / 4) (5 % 4)))) * 31) + (Int32.toInt64 (tellL T (6 / 4) (6 % 4)))) * 31) + (Int32.toInt64 (tellL T (7 / 4) (7 % 4)))) * 31)]) (m_landingTold sa tb D cA cL l h mm 0 dy co ti ro n nb B G T BA GA TA mo (8 / 4) (8 % 4) (show (8 / 4) < 3 from by first | omega | assumption | decide) (show (8 % 4) < 4 from by first | omega | assumption | decide)) ([]) ([]) hP hD hS hA hE ⟨hx, hb, hml, hown, hts⟩ (cwV 2 hts gX5_digest_X5_landingTold rfl rfl rfl (by decide +kernel) ⟨(Nat.le_of_ble_eq_true rfl), (Nat.le_of_ble_eq_true rfl)⟩) 5 0 rfl rfl rfl rfl hl.1 rfl (Nat.le_of_ble_eq_true rfl) dX5_digest_134 ⟨(Nat.le_of_ble_eq_true rfl), (Nat.le_of_ble_eq_true rfl)⟩) (fun _ => rfl) (fun r_134 u_134 H locs hw_134 hP hD hS => ?_)
              have hP : va_P D vwCl (wMod cA h mm 0 dy co ti ro n nb B G T BA GA TA mo) H := hP
              have hD : va_D A (wMod cA h mm 0 dy co ti ro n nb B G T BA GA TA mo) := hD
              refine w_eqi (show r_134 = tellL T (8 / 4) (8 % 4) from hw_134) ?_
              refine lv_i2l (v := (tellL T (8 / 4) (8 % 4) : Int32).toInt64) hx hb dX5_digest_137 rfl ?_
              refine lv_ladd hx hb dX5_digest_138 ?_
              refine lv_lstore_n (lv' := [(1, .long ((((((((((((((((((dd2 * 31) + (Int32.toInt64 (tellL T (0 / 4) (0 % 4)))) * 31) + (Int32.toInt64 (tellL T (1 / 4) (1 % 4)))) * 31) + (Int32.toInt64 (tellL T (2 / 4) (2 % 4)))) * 31) + (Int32.toInt64 (tellL T (3 / 4) (3 % 4)))) * 31) + (Int32.toInt64 (tellL T (4 / 4) (4 % 4)))) * 31) + (Int32.toInt64 (tellL T (5 / 4) (5 % 4)))) * 31) + (Int32.toInt64 (tellL T (6 / 4) (6 % 4)))) * 31) + (Int32.toInt64 (tellL T (7 / 4) (7 % 4)))) * 31) + (Int32.toInt64 (tellL T (8 / 4) (8 % 4))))), (3, .int 8), (0, .ref h)]) hx hb dX5_digest_139 rfl hl (by decide) rfl (fun ls hl => ?_)
              refine lv_iinc (v := 9) (lv' := [(3, .int 9), (1, .long ((((((((((((((((((dd2 * 31) + (Int32.toInt64 (tellL T (0 / 4) (0 % 4)))) * 31) + (Int32.toInt64 (tellL T (1 / 4) (1 % 4)))) * 31) + (Int32.toInt64 (tellL T (2 / 4) (2 % 4)))) * 31) + (Int32.toInt64 (tellL T (3 / 4) (3 % 4)))) * 31) + (Int32.toInt64 (tellL T (4 / 4) (4 % 4)))) * 31) + (Int32.toInt64 (tellL T (5 / 4) (5 % 4)))) * 31) + (Int32.toInt64 (tellL T (6 / 4) (6 % 4)))) * 31) + (Int32.toInt64 (tellL T (7 / 4) (7 % 4)))) * 31) + (Int32.toInt64 (tellL T (8 / 4) (8 % 4))))), (0, .ref h)]) (k := 1) hx hb dX5_digest_140 hl rfl (by decide) (by decide) rfl (fun ls hl => ?_)
              refine lv_goto (tgt := 116) hx hb dX5_digest_143 (by decide) ?_
              refine lv_iload_n hx hb dX5_digest_116 rfl (lv_at hl 0 rfl) ?_
              refine lv_bipush (v := 12) hx hb dX5_digest_117 (by decide) ?_
              refine lv_icmp_ge (tgt := 146) hx hb dX5_digest_119 (by decide) (fun q => absurd q (by decide)) (fun _ => ?_)
              refine lv_lload_n hx hb dX5_digest_122 rfl (lv_at hl 1 rfl) ?_
              refine lv_ldc2 (v := 31) hx hb hown (hts (.constantLong RX5 184 31) (List.mem_of_getElem? (i := 3) rfl)) dX5_digest_123 ?_
              refine lv_lmul hx hb dX5_digest_126 ?_
              refine lv_aload_n hx hb dX5_digest_127 rfl (lv_at hl 2 rfl) ?_
              refine lv_iload_n hx hb dX5_digest_128 rfl (lv_at hl 0 rfl) ?_
              refine lv_iconst (v := 4) hx hb dX5_digest_129 (by decide) ?_
              refine rn_div (a := 9) (b := 4) hx hb (by omega) (by decide) (by decide) dX5_digest_130 ?_
              refine lv_iload_n hx hb dX5_digest_131 rfl (lv_at hl 0 rfl) ?_
              refine lv_iconst (v := 4) hx hb dX5_digest_132 (by decide) ?_
              refine rn_rem (a := 9) (b := 4) hx hb (by omega) (by decide) (by decide) dX5_digest_133 ?_
              refine goI ([]) ([]) hP hD hS hA (rnV (rest := [.long (((((((((((((((((((dd2 * 31) + (Int32.toInt64 (tellL T (0 / 4) (0 % 4)))) * 31) + (Int32.toInt64 (tellL T (1 / 4) (1 % 4)))) * 31) + (Int32.toInt64 (tellL T (2 / 4) (2 % 4)))) * 31) + (Int32.toInt64 (tellL T (3 / 4) (3 % 4)))) * 31) + (Int32.toInt64 (tellL T (4 / 4) (4 % 4)))) * 31) + (Int32.toInt64 (tellL T (5 / 4) (5 % 4)))) * 31) + (Int32.toInt64 (tellL T (6 / 4) (6 % 4)))) * 31) + (Int32.toInt64 (tellL T (7 / 4) (7 % 4)))) * 31) + (Int32.toInt64 (tellL T (8 / 4) (8 % 4)))) * 31)]) (m_landingTold sa tb D cA cL l h mm 0 dy co ti ro n nb B G T BA GA TA mo (9 / 4) (9 % 4) (show (9 / 4) < 3 from by first | omega | assumption | decide) (show (9 % 4) < 4 from by first | omega | assumption | decide)) ([]) ([]) hP hD hS hA hE ⟨hx, hb, hml, hown, hts⟩ (cwV 2 hts gX5_digest_X5_landingTold rfl rfl rfl (by decide +kernel) ⟨(Nat.le_of_ble_eq_true rfl), (Nat.le_of_ble_eq_true rfl)⟩) 5 0 rfl rfl rfl rfl hl.1 rfl (Nat.le_of_ble_eq_true rfl) dX5_digest_134 ⟨(Nat.le_of_ble_eq_true rfl), (Nat.le_of_ble_eq_true rfl)⟩) (fun _ => rfl) (fun r_134 u_134 H locs hw_134 hP hD hS => ?_)
              have hP : va_P D vwCl (wMod cA h mm 0 dy co ti ro n nb B G T BA GA TA mo) H := hP
              have hD : va_D A (wMod cA h mm 0 dy co ti ro n nb B G T BA GA TA mo) := hD
              refine w_eqi (show r_134 = tellL T (9 / 4) (9 % 4) from hw_134) ?_
              refine lv_i2l (v := (tellL T (9 / 4) (9 % 4) : Int32).toInt64) hx hb dX5_digest_137 rfl ?_
              refine lv_ladd hx hb dX5_digest_138 ?_
              refine lv_lstore_n (lv' := [(1, .long ((((((((((((((((((((dd2 * 31) + (Int32.toInt64 (tellL T (0 / 4) (0 % 4)))) * 31) + (Int32.toInt64 (tellL T (1 / 4) (1 % 4)))) * 31) + (Int32.toInt64 (tellL T (2 / 4) (2 % 4)))) * 31) + (Int32.toInt64 (tellL T (3 / 4) (3 % 4)))) * 31) + (Int32.toInt64 (tellL T (4 / 4) (4 % 4)))) * 31) + (Int32.toInt64 (tellL T (5 / 4) (5 % 4)))) * 31) + (Int32.toInt64 (tellL T (6 / 4) (6 % 4)))) * 31) + (Int32.toInt64 (tellL T (7 / 4) (7 % 4)))) * 31) + (Int32.toInt64 (tellL T (8 / 4) (8 % 4)))) * 31) + (Int32.toInt64 (tellL T (9 / 4) (9 % 4))))), (3, .int 9), (0, .ref h)]) hx hb dX5_digest_139 rfl hl (by decide) rfl (fun ls hl => ?_)
              refine lv_iinc (v := 10) (lv' := [(3, .int 10), (1, .long ((((((((((((((((((((dd2 * 31) + (Int32.toInt64 (tellL T (0 / 4) (0 % 4)))) * 31) + (Int32.toInt64 (tellL T (1 / 4) (1 % 4)))) * 31) + (Int32.toInt64 (tellL T (2 / 4) (2 % 4)))) * 31) + (Int32.toInt64 (tellL T (3 / 4) (3 % 4)))) * 31) + (Int32.toInt64 (tellL T (4 / 4) (4 % 4)))) * 31) + (Int32.toInt64 (tellL T (5 / 4) (5 % 4)))) * 31) + (Int32.toInt64 (tellL T (6 / 4) (6 % 4)))) * 31) + (Int32.toInt64 (tellL T (7 / 4) (7 % 4)))) * 31) + (Int32.toInt64 (tellL T (8 / 4) (8 % 4)))) * 31) + (Int32.toInt64 (tellL T (9 / 4) (9 % 4))))), (0, .ref h)]) (k := 1) hx hb dX5_digest_140 hl rfl (by decide) (by decide) rfl (fun ls hl => ?_)
              refine lv_goto (tgt := 116) hx hb dX5_digest_143 (by decide) ?_
              refine lv_iload_n hx hb dX5_digest_116 rfl (lv_at hl 0 rfl) ?_
              refine lv_bipush (v := 12) hx hb dX5_digest_117 (by decide) ?_
              refine lv_icmp_ge (tgt := 146) hx hb dX5_digest_119 (by decide) (fun q => absurd q (by decide)) (fun _ => ?_)
              refine lv_lload_n hx hb dX5_digest_122 rfl (lv_at hl 1 rfl) ?_
              refine lv_ldc2 (v := 31) hx hb hown (hts (.constantLong RX5 184 31) (List.mem_of_getElem? (i := 3) rfl)) dX5_digest_123 ?_
              refine lv_lmul hx hb dX5_digest_126 ?_
              refine lv_aload_n hx hb dX5_digest_127 rfl (lv_at hl 2 rfl) ?_
              refine lv_iload_n hx hb dX5_digest_128 rfl (lv_at hl 0 rfl) ?_
              refine lv_iconst (v := 4) hx hb dX5_digest_129 (by decide) ?_
              refine rn_div (a := 10) (b := 4) hx hb (by omega) (by decide) (by decide) dX5_digest_130 ?_
              refine lv_iload_n hx hb dX5_digest_131 rfl (lv_at hl 0 rfl) ?_
              refine lv_iconst (v := 4) hx hb dX5_digest_132 (by decide) ?_
              refine rn_rem (a := 10) (b := 4) hx hb (by omega) (by decide) (by decide) dX5_digest_133 ?_
              refine goI ([]) ([]) hP hD hS hA (rnV (rest := [.long (((((((((((((((((((((dd2 * 31) + (Int32.toInt64 (tellL T (0 / 4) (0 % 4)))) * 31) + (Int32.toInt64 (tellL T (1 / 4) (1 % 4)))) * 31) + (Int32.toInt64 (tellL T (2 / 4) (2 % 4)))) * 31) + (Int32.toInt64 (tellL T (3 / 4) (3 % 4)))) * 31) + (Int32.toInt64 (tellL T (4 / 4) (4 % 4)))) * 31) + (Int32.toInt64 (tellL T (5 / 4) (5 % 4)))) * 31) + (Int32.toInt64 (tellL T (6 / 4) (6 % 4)))) * 31) + (Int32.toInt64 (tellL T (7 / 4) (7 % 4)))) * 31) + (Int32.toInt64 (tellL T (8 / 4) (8 % 4)))) * 31) + (Int32.toInt64 (tellL T (9 / 4) (9 % 4)))) * 31)]) (m_landingTold sa tb D cA cL l h mm 0 dy co ti ro n nb B G T BA GA TA mo (10 / 4) (10 % 4) (show (10 / 4) < 3 from by first | omega | assumption | decide) (show (10 % 4) < 4 from by first | omega | assumption | decide)) ([]) ([]) hP hD hS hA hE ⟨hx, hb, hml, hown, hts⟩ (cwV 2 hts gX5_digest_X5_landingTold rfl rfl rfl (by decide +kernel) ⟨(Nat.le_of_ble_eq_true rfl), (Nat.le_of_ble_eq_true rfl)⟩) 5 0 rfl rfl rfl rfl hl.1 rfl (Nat.le_of_ble_eq_true rfl) dX5_digest_134 ⟨(Nat.le_of_ble_eq_true rfl), (Nat.le_of_ble_eq_true rfl)⟩) (fun _ => rfl) (fun r_134 u_134 H locs hw_134 hP hD hS => ?_)
              have hP : va_P D vwCl (wMod cA h mm 0 dy co ti ro n nb B G T BA GA TA mo) H := hP
              have hD : va_D A (wMod cA h mm 0 dy co ti ro n nb B G T BA GA TA mo) := hD
              refine w_eqi (show r_134 = tellL T (10 / 4) (10 % 4) from hw_134) ?_
              refine lv_i2l (v := (tellL T (10 / 4) (10 % 4) : Int32).toInt64) hx hb dX5_digest_137 rfl ?_
              refine lv_ladd hx hb dX5_digest_138 ?_
              refine lv_lstore_n (lv' := [(1, .long ((((((((((((((((((((((dd2 * 31) + (Int32.toInt64 (tellL T (0 / 4) (0 % 4)))) * 31) + (Int32.toInt64 (tellL T (1 / 4) (1 % 4)))) * 31) + (Int32.toInt64 (tellL T (2 / 4) (2 % 4)))) * 31) + (Int32.toInt64 (tellL T (3 / 4) (3 % 4)))) * 31) + (Int32.toInt64 (tellL T (4 / 4) (4 % 4)))) * 31) + (Int32.toInt64 (tellL T (5 / 4) (5 % 4)))) * 31) + (Int32.toInt64 (tellL T (6 / 4) (6 % 4)))) * 31) + (Int32.toInt64 (tellL T (7 / 4) (7 % 4)))) * 31) + (Int32.toInt64 (tellL T (8 / 4) (8 % 4)))) * 31) + (Int32.toInt64 (tellL T (9 / 4) (9 % 4)))) * 31) + (Int32.toInt64 (tellL T (10 / 4) (10 % 4))))), (3, .int 10), (0, .ref h)]) hx hb dX5_digest_139 rfl hl (by decide) rfl (fun ls hl => ?_)
              refine lv_iinc (v := 11) (lv' := [(3, .int 11), (1, .long ((((((((((((((((((((((dd2 * 31) + (Int32.toInt64 (tellL T (0 / 4) (0 % 4)))) * 31) + (Int32.toInt64 (tellL T (1 / 4) (1 % 4)))) * 31) + (Int32.toInt64 (tellL T (2 / 4) (2 % 4)))) * 31) + (Int32.toInt64 (tellL T (3 / 4) (3 % 4)))) * 31) + (Int32.toInt64 (tellL T (4 / 4) (4 % 4)))) * 31) + (Int32.toInt64 (tellL T (5 / 4) (5 % 4)))) * 31) + (Int32.toInt64 (tellL T (6 / 4) (6 % 4)))) * 31) + (Int32.toInt64 (tellL T (7 / 4) (7 % 4)))) * 31) + (Int32.toInt64 (tellL T (8 / 4) (8 % 4)))) * 31) + (Int32.toInt64 (tellL T (9 / 4) (9 % 4)))) * 31) + (Int32.toInt64 (tellL T (10 / 4) (10 % 4))))), (0, .ref h)]) (k := 1) hx hb dX5_digest_140 hl rfl (by decide) (by decide) rfl (fun ls hl => ?_)
              refine lv_goto (tgt := 116) hx hb dX5_digest_143 (by decide) ?_
              refine lv_iload_n hx hb dX5_digest_116 rfl (lv_at hl 0 rfl) ?_
              refine lv_bipush (v := 12) hx hb dX5_digest_117 (by decide) ?_
              refine lv_icmp_ge (tgt := 146) hx hb dX5_digest_119 (by decide) (fun q => absurd q (by decide)) (fun _ => ?_)
              refine lv_lload_n hx hb dX5_digest_122 rfl (lv_at hl 1 rfl) ?_
              refine lv_ldc2 (v := 31) hx hb hown (hts (.constantLong RX5 184 31) (List.mem_of_getElem? (i := 3) rfl)) dX5_digest_123 ?_
              refine lv_lmul hx hb dX5_digest_126 ?_
              refine lv_aload_n hx hb dX5_digest_127 rfl (lv_at hl 2 rfl) ?_
              refine lv_iload_n hx hb dX5_digest_128 rfl (lv_at hl 0 rfl) ?_
              refine lv_iconst (v := 4) hx hb dX5_digest_129 (by decide) ?_
              refine rn_div (a := 11) (b := 4) hx hb (by omega) (by decide) (by decide) dX5_digest_130 ?_
              refine lv_iload_n hx hb dX5_digest_131 rfl (lv_at hl 0 rfl) ?_
              refine lv_iconst (v := 4) hx hb dX5_digest_132 (by decide) ?_
              refine rn_rem (a := 11) (b := 4) hx hb (by omega) (by decide) (by decide) dX5_digest_133 ?_
              refine goI ([]) ([]) hP hD hS hA (rnV (rest := [.long (((((((((((((((((((((((dd2 * 31) + (Int32.toInt64 (tellL T (0 / 4) (0 % 4)))) * 31) + (Int32.toInt64 (tellL T (1 / 4) (1 % 4)))) * 31) + (Int32.toInt64 (tellL T (2 / 4) (2 % 4)))) * 31) + (Int32.toInt64 (tellL T (3 / 4) (3 % 4)))) * 31) + (Int32.toInt64 (tellL T (4 / 4) (4 % 4)))) * 31) + (Int32.toInt64 (tellL T (5 / 4) (5 % 4)))) * 31) + (Int32.toInt64 (tellL T (6 / 4) (6 % 4)))) * 31) + (Int32.toInt64 (tellL T (7 / 4) (7 % 4)))) * 31) + (Int32.toInt64 (tellL T (8 / 4) (8 % 4)))) * 31) + (Int32.toInt64 (tellL T (9 / 4) (9 % 4)))) * 31) + (Int32.toInt64 (tellL T (10 / 4) (10 % 4)))) * 31)]) (m_landingTold sa tb D cA cL l h mm 0 dy co ti ro n nb B G T BA GA TA mo (11 / 4) (11 % 4) (show (11 / 4) < 3 from by first | omega | assumption | decide) (show (11 % 4) < 4 from by first | omega | assumption | decide)) ([]) ([]) hP hD hS hA hE ⟨hx, hb, hml, hown, hts⟩ (cwV 2 hts gX5_digest_X5_landingTold rfl rfl rfl (by decide +kernel) ⟨(Nat.le_of_ble_eq_true rfl), (Nat.le_of_ble_eq_true rfl)⟩) 5 0 rfl rfl rfl rfl hl.1 rfl (Nat.le_of_ble_eq_true rfl) dX5_digest_134 ⟨(Nat.le_of_ble_eq_true rfl), (Nat.le_of_ble_eq_true rfl)⟩) (fun _ => rfl) (fun r_134 u_134 H locs hw_134 hP hD hS => ?_)
              have hP : va_P D vwCl (wMod cA h mm 0 dy co ti ro n nb B G T BA GA TA mo) H := hP
              have hD : va_D A (wMod cA h mm 0 dy co ti ro n nb B G T BA GA TA mo) := hD
              refine w_eqi (show r_134 = tellL T (11 / 4) (11 % 4) from hw_134) ?_
              refine lv_i2l (v := (tellL T (11 / 4) (11 % 4) : Int32).toInt64) hx hb dX5_digest_137 rfl ?_
              refine lv_ladd hx hb dX5_digest_138 ?_
              refine lv_lstore_n (lv' := [(1, .long ((((((((((((((((((((((((dd2 * 31) + (Int32.toInt64 (tellL T (0 / 4) (0 % 4)))) * 31) + (Int32.toInt64 (tellL T (1 / 4) (1 % 4)))) * 31) + (Int32.toInt64 (tellL T (2 / 4) (2 % 4)))) * 31) + (Int32.toInt64 (tellL T (3 / 4) (3 % 4)))) * 31) + (Int32.toInt64 (tellL T (4 / 4) (4 % 4)))) * 31) + (Int32.toInt64 (tellL T (5 / 4) (5 % 4)))) * 31) + (Int32.toInt64 (tellL T (6 / 4) (6 % 4)))) * 31) + (Int32.toInt64 (tellL T (7 / 4) (7 % 4)))) * 31) + (Int32.toInt64 (tellL T (8 / 4) (8 % 4)))) * 31) + (Int32.toInt64 (tellL T (9 / 4) (9 % 4)))) * 31) + (Int32.toInt64 (tellL T (10 / 4) (10 % 4)))) * 31) + (Int32.toInt64 (tellL T (11 / 4) (11 % 4))))), (3, .int 11), (0, .ref h)]) hx hb dX5_digest_139 rfl hl (by decide) rfl (fun ls hl => ?_)
              refine lv_iinc (v := 12) (lv' := [(3, .int 12), (1, .long ((((((((((((((((((((((((dd2 * 31) + (Int32.toInt64 (tellL T (0 / 4) (0 % 4)))) * 31) + (Int32.toInt64 (tellL T (1 / 4) (1 % 4)))) * 31) + (Int32.toInt64 (tellL T (2 / 4) (2 % 4)))) * 31) + (Int32.toInt64 (tellL T (3 / 4) (3 % 4)))) * 31) + (Int32.toInt64 (tellL T (4 / 4) (4 % 4)))) * 31) + (Int32.toInt64 (tellL T (5 / 4) (5 % 4)))) * 31) + (Int32.toInt64 (tellL T (6 / 4) (6 % 4)))) * 31) + (Int32.toInt64 (tellL T (7 / 4) (7 % 4)))) * 31) + (Int32.toInt64 (tellL T (8 / 4) (8 % 4)))) * 31) + (Int32.toInt64 (tellL T (9 / 4) (9 % 4)))) * 31) + (Int32.toInt64 (tellL T (10 / 4) (10 % 4)))) * 31) + (Int32.toInt64 (tellL T (11 / 4) (11 % 4))))), (0, .ref h)]) (k := 1) hx hb dX5_digest_140 hl rfl (by decide) (by decide) rfl (fun ls hl => ?_)
              refine lv_goto (tgt := 116) hx hb dX5_digest_143 (by decide) ?_
              refine lv_iload_n hx hb dX5_digest_116 rfl (lv_at hl 0 rfl) ?_
              refine lv_bipush (v := 12) hx hb dX5_digest_117 (by decide) ?_
              refine lv_icmp_ge (tgt := 146) hx hb dX5_digest_119 (by decide) (fun _ => ?_) (fun q => absurd (by decide) q)
              refine lv_lload_n hx hb dX5_digest_146 rfl (lv_at hl 1 rfl) ?_
              replace hdd2 : dd2 = dgG G nb (dgB B n (dg (tellW dy co ti ro n B nb G T) 11 1277)) := by rw [hdd2, show i2 = 6 * nb from by omega]; exact dg_flat (m := 6) (by decide) (tellG G) (dgG G) (fun _ => rfl) (fun _ _ => rfl) nb _
              subst hdd2
              exact enL () hx hb hr hlocks hS hP (rfl) dX5_digest_147
            · refine lv_lload_n hx hb dX5_digest_88 rfl (lv_at hl 1 rfl) ?_
              refine lv_ldc2 (v := 31) hx hb hown (hts (.constantLong RX5 184 31) (List.mem_of_getElem? (i := 3) rfl)) dX5_digest_89 ?_
              refine lv_lmul hx hb dX5_digest_92 ?_
              refine lv_aload_n hx hb dX5_digest_93 rfl (lv_at hl 0 rfl) ?_
              refine lv_iload_n hx hb dX5_digest_94 rfl (lv_at hl 2 rfl) ?_
              refine lv_bipush (v := 6) hx hb dX5_digest_95 (by decide) ?_
              refine rn_div (a := i2) (b := 6) hx hb (by omega) (by decide) (by decide) dX5_digest_97 ?_
              refine lv_iload_n hx hb dX5_digest_98 rfl (lv_at hl 2 rfl) ?_
              refine lv_bipush (v := 6) hx hb dX5_digest_99 (by decide) ?_
              refine rn_rem (a := i2) (b := 6) hx hb (by omega) (by decide) (by decide) dX5_digest_101 ?_
              refine goI ([]) ([]) hP hD hS hA (rnV (rest := [.long (dd2 * 31)]) (m_bargeTold sa tb D cA cL l h mm 0 dy co ti ro n nb B G T BA GA TA mo (i2 / 6) (i2 % 6) (show (i2 / 6) < 3 from by first | omega | assumption | decide) (show (i2 % 6) < 6 from by first | omega | assumption | decide)) ([]) ([]) hP hD hS hA hE ⟨hx, hb, hml, hown, hts⟩ (cwV 2 hts gX5_digest_X5_bargeTold rfl rfl rfl (by decide +kernel) ⟨(Nat.le_of_ble_eq_true rfl), (Nat.le_of_ble_eq_true rfl)⟩) 5 0 rfl rfl rfl rfl hl.1 rfl (Nat.le_of_ble_eq_true rfl) dX5_digest_102 ⟨(Nat.le_of_ble_eq_true rfl), (Nat.le_of_ble_eq_true rfl)⟩) (fun _ => rfl) (fun r_102 u_102 H locs hw_102 hP hD hS => ?_)
              have hP : va_P D vwCl (wMod cA h mm 0 dy co ti ro n nb B G T BA GA TA mo) H := hP
              have hD : va_D A (wMod cA h mm 0 dy co ti ro n nb B G T BA GA TA mo) := hD
              refine w_eqi (show r_102 = tellG G (i2 / 6) (i2 % 6) from hw_102) ?_
              refine lv_i2l (v := (tellG G (i2 / 6) (i2 % 6) : Int32).toInt64) hx hb dX5_digest_105 rfl ?_
              refine lv_ladd hx hb dX5_digest_106 ?_
              refine lv_lstore_n (lv' := [(1, .long ((dd2 * 31) + (Int32.toInt64 (tellG G (i2 / 6) (i2 % 6))))), (0, .ref h), (3, .int (nI i2))]) hx hb dX5_digest_107 rfl hl (by decide) rfl (fun ls hl => ?_)
              refine lv_iinc (v := (nI (i2 + 1))) (lv' := [(3, .int (nI (i2 + 1))), (1, .long ((dd2 * 31) + (Int32.toInt64 (tellG G (i2 / 6) (i2 % 6))))), (0, .ref h)]) (k := 2) hx hb dX5_digest_108 hl rfl (iinc1 _) (by decide) rfl (fun ls hl => ?_)
              refine lv_goto (tgt := 77) hx hb dX5_digest_111 (by decide) ?_
              exact ih_77  (i2 + 1) ((dd2 * 31) + (Int32.toInt64 (tellG G (i2 / 6) (i2 % 6)))) (show 6 * nb - (i2 + 1) < f_77 from by omega) (show (i2 + 1) ≤ 6 * nb from by omega) (show ((dd2 * 31) + (Int32.toInt64 (tellG G (i2 / 6) (i2 % 6)))) = dg (fun k => tellG G (k / 6) (k % 6)) (i2 + 1) (dgB B n (dg (tellW dy co ti ro n B nb G T) 11 1277)) from by rw [hdd2]; rfl) _ _ hP hD hS ls (lv_sub hl [2, 1, 0] rfl)
        exact loop_77 ((6 * nb - 0) + 1) 0 dd (Nat.lt_succ_self _) (show 0 ≤ 6 * nb from by omega) (show dd = dg (fun k => tellG G (k / 6) (k % 6)) 0 (dgB B n (dg (tellW dy co ti ro n B nb G T) 11 1277)) from by rw [hdd, show i = 10 * n from by omega]; exact dg_flat (m := 10) (by decide) (tellB B) (dgB B) (fun _ => rfl) (fun _ _ => rfl) n _) _ _ hP hD hS ls (lv_sub hl [1, 2, 0] rfl)
      · refine lv_lload_n hx hb dX5_digest_49 rfl (lv_at hl 1 rfl) ?_
        refine lv_ldc2 (v := 31) hx hb hown (hts (.constantLong RX5 184 31) (List.mem_of_getElem? (i := 3) rfl)) dX5_digest_50 ?_
        refine lv_lmul hx hb dX5_digest_53 ?_
        refine lv_aload_n hx hb dX5_digest_54 rfl (lv_at hl 0 rfl) ?_
        refine lv_iload_n hx hb dX5_digest_55 rfl (lv_at hl 2 rfl) ?_
        refine lv_bipush (v := 10) hx hb dX5_digest_56 (by decide) ?_
        refine rn_div (a := i) (b := 10) hx hb (by omega) (by decide) (by decide) dX5_digest_58 ?_
        refine lv_iload_n hx hb dX5_digest_59 rfl (lv_at hl 2 rfl) ?_
        refine lv_bipush (v := 10) hx hb dX5_digest_60 (by decide) ?_
        refine rn_rem (a := i) (b := 10) hx hb (by omega) (by decide) (by decide) dX5_digest_62 ?_
        refine goI ([]) ([]) hP hD hS hA (rnV (rest := [.long (dd * 31)]) (m_bedTold sa tb D cA cL l h mm 0 dy co ti ro n nb B G T BA GA TA mo (i / 10) (i % 10) (show (i / 10) < 8 from by first | omega | assumption | decide) (show ∃ j, j < 10 ∧ B 2 (i / 10) = nI j from (hI.1 (i / 10) (by omega)).2.1) (show (i % 10) < 10 from by first | omega | assumption | decide)) ([]) ([]) hP hD hS hA hE ⟨hx, hb, hml, hown, hts⟩ (cwV 2 hts gX5_digest_X5_bedTold rfl rfl rfl (by decide +kernel) ⟨(Nat.le_of_ble_eq_true rfl), (Nat.le_of_ble_eq_true rfl)⟩) 5 0 rfl rfl rfl rfl hl.1 rfl (Nat.le_of_ble_eq_true rfl) dX5_digest_63 ⟨(Nat.le_of_ble_eq_true rfl), (Nat.le_of_ble_eq_true rfl)⟩) (fun _ => rfl) (fun r_63 u_63 H locs hw_63 hP hD hS => ?_)
        have hP : va_P D vwCl (wMod cA h mm 0 dy co ti ro n nb B G T BA GA TA mo) H := hP
        have hD : va_D A (wMod cA h mm 0 dy co ti ro n nb B G T BA GA TA mo) := hD
        refine w_eqi (show r_63 = tellB B (i / 10) (i % 10) from hw_63) ?_
        refine lv_i2l (v := (tellB B (i / 10) (i % 10) : Int32).toInt64) hx hb dX5_digest_66 rfl ?_
        refine lv_ladd hx hb dX5_digest_67 ?_
        refine lv_lstore_n (lv' := [(1, .long ((dd * 31) + (Int32.toInt64 (tellB B (i / 10) (i % 10))))), (0, .ref h), (3, .int (nI i))]) hx hb dX5_digest_68 rfl hl (by decide) rfl (fun ls hl => ?_)
        refine lv_iinc (v := (nI (i + 1))) (lv' := [(3, .int (nI (i + 1))), (1, .long ((dd * 31) + (Int32.toInt64 (tellB B (i / 10) (i % 10))))), (0, .ref h)]) (k := 2) hx hb dX5_digest_69 hl rfl (iinc1 _) (by decide) rfl (fun ls hl => ?_)
        refine lv_goto (tgt := 38) hx hb dX5_digest_72 (by decide) ?_
        exact ih_38  (i + 1) ((dd * 31) + (Int32.toInt64 (tellB B (i / 10) (i % 10)))) (show 10 * n - (i + 1) < f_38 from by omega) (show (i + 1) ≤ 10 * n from by omega) (show ((dd * 31) + (Int32.toInt64 (tellB B (i / 10) (i % 10)))) = dg (fun k => tellB B (k / 10) (k % 10)) (i + 1) (dg (tellW dy co ti ro n B nb G T) 11 1277) from by rw [hdd]; rfl) _ _ hP hD hS ls (lv_sub hl [2, 1, 0] rfl)
  exact loop_38 ((10 * n - 0) + 1) 0 ((((((((((((((((((((((1277 * 31) + (Int32.toInt64 (tellW dy co ti ro n B nb G T 0))) * 31) + (Int32.toInt64 (tellW dy co ti ro n B nb G T 1))) * 31) + (Int32.toInt64 (tellW dy co ti ro n B nb G T 2))) * 31) + (Int32.toInt64 (tellW dy co ti ro n B nb G T 3))) * 31) + (Int32.toInt64 (tellW dy co ti ro n B nb G T 4))) * 31) + (Int32.toInt64 (tellW dy co ti ro n B nb G T 5))) * 31) + (Int32.toInt64 (tellW dy co ti ro n B nb G T 6))) * 31) + (Int32.toInt64 (tellW dy co ti ro n B nb G T 7))) * 31) + (Int32.toInt64 (tellW dy co ti ro n B nb G T 8))) * 31) + (Int32.toInt64 (tellW dy co ti ro n B nb G T 9))) * 31) + (Int32.toInt64 (tellW dy co ti ro n B nb G T 10))) (Nat.lt_succ_self _) (show 0 ≤ 10 * n from by omega) (show ((((((((((((((((((((((1277 * 31) + (Int32.toInt64 (tellW dy co ti ro n B nb G T 0))) * 31) + (Int32.toInt64 (tellW dy co ti ro n B nb G T 1))) * 31) + (Int32.toInt64 (tellW dy co ti ro n B nb G T 2))) * 31) + (Int32.toInt64 (tellW dy co ti ro n B nb G T 3))) * 31) + (Int32.toInt64 (tellW dy co ti ro n B nb G T 4))) * 31) + (Int32.toInt64 (tellW dy co ti ro n B nb G T 5))) * 31) + (Int32.toInt64 (tellW dy co ti ro n B nb G T 6))) * 31) + (Int32.toInt64 (tellW dy co ti ro n B nb G T 7))) * 31) + (Int32.toInt64 (tellW dy co ti ro n B nb G T 8))) * 31) + (Int32.toInt64 (tellW dy co ti ro n B nb G T 9))) * 31) + (Int32.toInt64 (tellW dy co ti ro n B nb G T 10))) = dg (fun k => tellB B (k / 10) (k % 10)) 0 (dg (tellW dy co ti ro n B nb G T) 11 1277) from rfl) _ _ hP hD hS ls (lv_sub hl [2, 1, 0] rfl)
