set_option maxRecDepth 100000 in
set_option maxHeartbeats 4000000 in
theorem c_Way_take (sa : Nat × Nat × (Nat → Int32)) (tb : Nat → Nat) (D : va_G) (cA cL : ClassId) (l : Launch) (a : Nat → Nat) (dy : Int32) (co : Int32) (ti : Int32) (ro : Int32) (u : Nat → Nat) (n : Nat) (B : Nat → Nat → Int32) (ch : Nat → Int32) (v : Nat → Nat) (nb : Nat) (G : Nat → Nat → Int32) (w : Nat) (T : Nat → Int32) (k : Nat) (j : Nat) (hk : k < 3) (hj : j < 8) : KM sa tb D cA cL l yX3_takeAboard wsX3_takeAboard ({ frames := 1, cells := 0, slots := 0, locals := 24 }) [.ref (a 0), .int (nI k), .int (nI j)] (wWay cA a dy co ti ro u n B ch v nb G w T) (qI D (fun (r : Int32) (_ : Unit) => r = ldS B G k j + ldR B G k j) (fun _ => wWay cA a dy co ti ro u n (ldB B G k j) ch v nb (ldG B G k j) w T)) := by
  refine KM.of (cc := cX3_takeAboard) (maxL := 6) (ret := some .int) (by decide) rfl (Nat.le_of_ble_eq_true rfl) ?_
  intro pg e s m args below meth c A hx hb hr hml hlocks hts hown hS hA hE hP hD ls hl
  have hown : s.vm.findClass RX3 = some m.cls := hown
  have hl : lv_has ls 6 [(0, .ref (a 0)), (1, .int (nI k)), (2, .int (nI j))] := hl
  have hwX0 : ∀ w ∈ wsX00, w ∈ wsX3_takeAboard := (fun _ h => List.mem_cons_of_mem _ (List.mem_append_right _ h))
  have hwX1 : ∀ w ∈ wsX10, w ∈ wsX3_takeAboard := (fun _ h => List.mem_cons_of_mem _ (List.mem_append_left _ (List.mem_append_right _ h)))
  have hwX3 : ∀ w ∈ wsX30, w ∈ wsX3_takeAboard := (fun _ h => List.mem_cons_of_mem _ (List.mem_append_left _ (List.mem_append_left _ (List.mem_append_right _ h))))
  refine lv_sipush (v := 150) hx hb dX3_takeAboard_0 (by decide) ?_
  refine lv_aload_n hx hb dX3_takeAboard_3 rfl (lv_at hl 0 rfl) ?_
  refine va_get (D := D) (ci := 3) (v := .ref (a 2)) (C := RX3) (T := TX3) (N := 7) hx hb hts hwX3 hown hE.K hP 0 rfl rfl 5 (by decide) (hts (.fieldLink RX3 28 "SedgeBarges$Waterway" "barges" "LSedgeBarges$Barges;") (List.mem_of_getElem? (i := 1) rfl)) (fun _ h9 => h9) rfl dX3_takeAboard_4 ?_
  refine lv_iload_n hx hb dX3_takeAboard_7 rfl (lv_at hl 1 rfl) ?_
  refine goI ([oWay a dy co ti ro] ++ wBeds cA (a 1) u n B ch) (wLand cA (a 3) w T) hP hD hS hA (rnV (rest := [.int 150]) (c_Bars_aboard sa tb D cA cL l (a 2) v nb G k (show k < 3 from by first | omega | assumption | decide)) ([oWay a dy co ti ro] ++ wBeds cA (a 1) u n B ch) (wLand cA (a 3) w T) hP hD hS hA hE ⟨hx, hb, hml, hown, hts⟩ (cwV 1 hts gX3_takeAboard_X0_aboard rfl rfl rfl (by decide +kernel) ⟨(Nat.le_of_ble_eq_true rfl), (Nat.le_of_ble_eq_true rfl)⟩) 0 0 rfl rfl rfl rfl hl.1 rfl (Nat.le_of_ble_eq_true rfl) dX3_takeAboard_8 ⟨(Nat.le_of_ble_eq_true rfl), (Nat.le_of_ble_eq_true rfl)⟩) (fun _ => rfl) (fun r_8 u_8 H locs hw_8 hP hD hS => ?_)
  have hP : va_P D vwCl (wWay cA a dy co ti ro u n B ch v nb G w T) H := hP
  have hD : va_D A (wWay cA a dy co ti ro u n B ch v nb G w T) := hD
  obtain rfl : r_8 = abd G k := hw_8
  refine lv_isub hx hb dX3_takeAboard_11 ?_
  refine lv_topi (fun z_1 hz_1 => ?_)
  refine lv_istore_n (lv' := [(3, .int z_1), (0, .ref (a 0)), (1, .int (nI k)), (2, .int (nI j))]) hx hb dX3_takeAboard_12 rfl hl (by decide) rfl (fun ls hl => ?_)
  refine lv_aload_n hx hb dX3_takeAboard_13 rfl (lv_at hl 1 rfl) ?_
  refine va_get (D := D) (ci := 3) (v := .ref (a 1)) (C := RX3) (T := TX3) (N := 7) hx hb hts hwX3 hown hE.K hP 0 rfl rfl 4 (by decide) (hts (.fieldLink RX3 21 "SedgeBarges$Waterway" "beds" "LSedgeBarges$Beds;") (List.mem_of_getElem? (i := 2) rfl)) (fun _ h9 => h9) rfl dX3_takeAboard_14 ?_
  refine va_getN (D := D) (ci := 1) (v := .ref (u 6)) (C := RX1) (T := TX1) (N := 10) hx hb hts hwX1 hown hE.K hP 1 rfl rfl 7 (by decide) (nf_14 hE) (fun _ h9 => h9) rfl dX3_takeAboard_17 ?_
  refine lv_iload_n hx hb dX3_takeAboard_20 rfl (lv_at hl 3 rfl) ?_
  refine r_ald (f := B 6) (v := (B 6) j) hx hb hE hP 8 (j) rfl rfl (by omega) (by decide) rfl dX3_takeAboard_21 ?_
  refine lv_iload_n hx hb dX3_takeAboard_22 rfl (lv_at hl 0 rfl) ?_
  refine r_mmin hx hb (hml.trans hl.1.symm) hown (hts (.methodLink RX3 63 Lib.Math.min.name) (List.mem_of_getElem? (i := 3) rfl)) (hts (.static Lib.Math.min.name) (List.mem_of_getElem? (i := 4) rfl)) (hts (.initialized "java/lang/Math") (List.mem_of_getElem? (i := 5) rfl)) (hts (.code Lib.Math.min.name Lib.Math.min.code 2 (some .int)) (List.mem_of_getElem? (i := 6) rfl)) (Nat.le_of_ble_eq_true rfl) (Nat.le_of_ble_eq_true rfl) (Nat.le_of_ble_eq_true rfl) (Nat.le_of_ble_eq_true rfl) dX3_takeAboard_23 ?_
  refine lv_topi (fun z_2 hz_2 => ?_)
  refine lv_istore (lv' := [(4, .int z_2), (3, .int z_1), (0, .ref (a 0)), (1, .int (nI k)), (2, .int (nI j))]) hx hb dX3_takeAboard_26 hl (by decide) rfl (fun ls hl => ?_)
  refine lv_aload_n hx hb dX3_takeAboard_28 rfl (lv_at hl 2 rfl) ?_
  refine va_get (D := D) (ci := 3) (v := .ref (a 1)) (C := RX3) (T := TX3) (N := 7) hx hb hts hwX3 hown hE.K hP 0 rfl rfl 4 (by decide) (hts (.fieldLink RX3 21 "SedgeBarges$Waterway" "beds" "LSedgeBarges$Beds;") (List.mem_of_getElem? (i := 2) rfl)) (fun _ h9 => h9) rfl dX3_takeAboard_29 ?_
  refine va_getN (D := D) (ci := 1) (v := .ref (u 7)) (C := RX1) (T := TX1) (N := 10) hx hb hts hwX1 hown hE.K hP 1 rfl rfl 8 (by decide) (nf_15 hE) (fun _ h9 => h9) rfl dX3_takeAboard_32 ?_
  refine lv_iload_n hx hb dX3_takeAboard_35 rfl (lv_at hl 4 rfl) ?_
  refine r_ald (f := B 7) (v := (B 7) j) hx hb hE hP 9 (j) rfl rfl (by omega) (by decide) rfl dX3_takeAboard_36 ?_
  refine lv_iload_n hx hb dX3_takeAboard_37 rfl (lv_at hl 1 rfl) ?_
  refine lv_iload hx hb dX3_takeAboard_38 (lv_at hl 0 rfl) ?_
  refine lv_isub hx hb dX3_takeAboard_40 ?_
  refine r_mmin hx hb (hml.trans hl.1.symm) hown (hts (.methodLink RX3 63 Lib.Math.min.name) (List.mem_of_getElem? (i := 3) rfl)) (hts (.static Lib.Math.min.name) (List.mem_of_getElem? (i := 4) rfl)) (hts (.initialized "java/lang/Math") (List.mem_of_getElem? (i := 5) rfl)) (hts (.code Lib.Math.min.name Lib.Math.min.code 2 (some .int)) (List.mem_of_getElem? (i := 6) rfl)) (Nat.le_of_ble_eq_true rfl) (Nat.le_of_ble_eq_true rfl) (Nat.le_of_ble_eq_true rfl) (Nat.le_of_ble_eq_true rfl) dX3_takeAboard_41 ?_
  refine lv_topi (fun z_3 hz_3 => ?_)
  refine lv_istore (lv' := [(5, .int z_3), (4, .int z_2), (3, .int z_1), (0, .ref (a 0)), (1, .int (nI k)), (2, .int (nI j))]) hx hb dX3_takeAboard_44 hl (by decide) rfl (fun ls hl => ?_)
  refine lv_aload_n hx hb dX3_takeAboard_46 rfl (lv_at hl 3 rfl) ?_
  refine va_get (D := D) (ci := 3) (v := .ref (a 1)) (C := RX3) (T := TX3) (N := 7) hx hb hts hwX3 hown hE.K hP 0 rfl rfl 4 (by decide) (hts (.fieldLink RX3 21 "SedgeBarges$Waterway" "beds" "LSedgeBarges$Beds;") (List.mem_of_getElem? (i := 2) rfl)) (fun _ h9 => h9) rfl dX3_takeAboard_47 ?_
  refine va_getN (D := D) (ci := 1) (v := .ref (u 6)) (C := RX1) (T := TX1) (N := 10) hx hb hts hwX1 hown hE.K hP 1 rfl rfl 7 (by decide) (nf_14 hE) (fun _ h9 => h9) rfl dX3_takeAboard_50 ?_
  refine lv_iload_n hx hb dX3_takeAboard_53 rfl (lv_at hl 5 rfl) ?_
  refine lv_dup2_11 hx hb dX3_takeAboard_54 rfl rfl ?_
  refine r_ald (f := B 6) (v := (B 6) j) hx hb hE hP 8 (j) rfl rfl (by omega) (by decide) rfl dX3_takeAboard_55 ?_
  refine lv_iload hx hb dX3_takeAboard_56 (lv_at hl 1 rfl) ?_
  refine lv_isub hx hb dX3_takeAboard_58 ?_
  refine lv_topi (fun z_4 hz_4 => ?_)
  refine r_ast (f := B 6) (g := upd (B 6) j z_4) hx hb hE hP hD hS 8 (j) rfl rfl (by omega) (by decide) rfl dX3_takeAboard_59 (fun H locs hP hD hS => ?_)
  have hP : va_P D vwCl (wWay cA a dy co ti ro u n (st B 6 j z_4) ch v nb G w T) H := hP
  have hD : va_D A (wWay cA a dy co ti ro u n (st B 6 j z_4) ch v nb G w T) := hD
  generalize hB_5 : st B 6 j z_4 = B_5 at hP hD
  refine lv_aload_n hx hb dX3_takeAboard_60 rfl (lv_at hl 3 rfl) ?_
  refine va_get (D := D) (ci := 3) (v := .ref (a 1)) (C := RX3) (T := TX3) (N := 7) hx hb hts hwX3 hown hE.K hP 0 rfl rfl 4 (by decide) (hts (.fieldLink RX3 21 "SedgeBarges$Waterway" "beds" "LSedgeBarges$Beds;") (List.mem_of_getElem? (i := 2) rfl)) (fun _ h9 => h9) rfl dX3_takeAboard_61 ?_
  refine va_getN (D := D) (ci := 1) (v := .ref (u 7)) (C := RX1) (T := TX1) (N := 10) hx hb hts hwX1 hown hE.K hP 1 rfl rfl 8 (by decide) (nf_15 hE) (fun _ h9 => h9) rfl dX3_takeAboard_64 ?_
  refine lv_iload_n hx hb dX3_takeAboard_67 rfl (lv_at hl 5 rfl) ?_
  refine lv_dup2_11 hx hb dX3_takeAboard_68 rfl rfl ?_
  refine r_ald (f := B_5 7) (v := B 7 j) hx hb hE hP 9 (j) rfl rfl (by omega) (by decide) (st_colE hB_5 (by decide)) dX3_takeAboard_69 ?_
  refine lv_iload hx hb dX3_takeAboard_70 (lv_at hl 0 rfl) ?_
  refine lv_isub hx hb dX3_takeAboard_72 ?_
  refine lv_topi (fun z_6 hz_6 => ?_)
  refine r_ast (f := B_5 7) (g := upd (B_5 7) j z_6) hx hb hE hP hD hS 9 (j) rfl rfl (by omega) (by decide) rfl dX3_takeAboard_73 (fun H locs hP hD hS => ?_)
  have hP : va_P D vwCl (wWay cA a dy co ti ro u n (st B_5 7 j z_6) ch v nb G w T) H := hP
  have hD : va_D A (wWay cA a dy co ti ro u n (st B_5 7 j z_6) ch v nb G w T) := hD
  generalize hB_7 : st B_5 7 j z_6 = B_7 at hP hD
  refine lv_aload_n hx hb dX3_takeAboard_74 rfl (lv_at hl 3 rfl) ?_
  refine va_get (D := D) (ci := 3) (v := .ref (a 2)) (C := RX3) (T := TX3) (N := 7) hx hb hts hwX3 hown hE.K hP 0 rfl rfl 5 (by decide) (hts (.fieldLink RX3 28 "SedgeBarges$Waterway" "barges" "LSedgeBarges$Barges;") (List.mem_of_getElem? (i := 1) rfl)) (fun _ h9 => h9) rfl dX3_takeAboard_75 ?_
  refine va_getN (D := D) (ci := 0) (v := .ref (v 2)) (C := RX0) (T := TX0) (N := 6) hx hb hts hwX0 hown hE.K hP 11 rfl rfl 3 (by decide) (nf_16 hE) (fun _ h9 => h9) rfl dX3_takeAboard_78 ?_
  refine lv_iload_n hx hb dX3_takeAboard_81 rfl (lv_at hl 4 rfl) ?_
  refine lv_dup2_11 hx hb dX3_takeAboard_82 rfl rfl ?_
  refine r_ald (f := G 2) (v := (G 2) k) hx hb hE hP 14 (k) rfl rfl (by omega) (by decide) rfl dX3_takeAboard_83 ?_
  refine lv_iload hx hb dX3_takeAboard_84 (lv_at hl 1 rfl) ?_
  refine lv_iadd hx hb dX3_takeAboard_86 ?_
  refine lv_topi (fun z_8 hz_8 => ?_)
  refine r_ast (f := G 2) (g := upd (G 2) k z_8) hx hb hE hP hD hS 14 (k) rfl rfl (by omega) (by decide) rfl dX3_takeAboard_87 (fun H locs hP hD hS => ?_)
  have hP : va_P D vwCl (wWay cA a dy co ti ro u n B_7 ch v nb (st G 2 k z_8) w T) H := hP
  have hD : va_D A (wWay cA a dy co ti ro u n B_7 ch v nb (st G 2 k z_8) w T) := hD
  generalize hG_9 : st G 2 k z_8 = G_9 at hP hD
  refine lv_aload_n hx hb dX3_takeAboard_88 rfl (lv_at hl 3 rfl) ?_
  refine va_get (D := D) (ci := 3) (v := .ref (a 2)) (C := RX3) (T := TX3) (N := 7) hx hb hts hwX3 hown hE.K hP 0 rfl rfl 5 (by decide) (hts (.fieldLink RX3 28 "SedgeBarges$Waterway" "barges" "LSedgeBarges$Barges;") (List.mem_of_getElem? (i := 1) rfl)) (fun _ h9 => h9) rfl dX3_takeAboard_89 ?_
  refine va_getN (D := D) (ci := 0) (v := .ref (v 3)) (C := RX0) (T := TX0) (N := 6) hx hb hts hwX0 hown hE.K hP 11 rfl rfl 4 (by decide) (nf_17 hE) (fun _ h9 => h9) rfl dX3_takeAboard_92 ?_
  refine lv_iload_n hx hb dX3_takeAboard_95 rfl (lv_at hl 4 rfl) ?_
  refine lv_dup2_11 hx hb dX3_takeAboard_96 rfl rfl ?_
  refine r_ald (f := G_9 3) (v := G 3 k) hx hb hE hP 15 (k) rfl rfl (by omega) (by decide) (st_colE hG_9 (by decide)) dX3_takeAboard_97 ?_
  refine lv_iload hx hb dX3_takeAboard_98 (lv_at hl 0 rfl) ?_
  refine lv_iadd hx hb dX3_takeAboard_100 ?_
  refine lv_topi (fun z_10 hz_10 => ?_)
  refine r_ast (f := G_9 3) (g := upd (G_9 3) k z_10) hx hb hE hP hD hS 15 (k) rfl rfl (by omega) (by decide) rfl dX3_takeAboard_101 (fun H locs hP hD hS => ?_)
  have hP : va_P D vwCl (wWay cA a dy co ti ro u n B_7 ch v nb (st G_9 3 k z_10) w T) H := hP
  have hD : va_D A (wWay cA a dy co ti ro u n B_7 ch v nb (st G_9 3 k z_10) w T) := hD
  generalize hG_11 : st G_9 3 k z_10 = G_11 at hP hD
  refine lv_iload hx hb dX3_takeAboard_102 (lv_at hl 1 rfl) ?_
  refine lv_iload hx hb dX3_takeAboard_104 (lv_at hl 0 rfl) ?_
  refine lv_iadd hx hb dX3_takeAboard_106 ?_
  subst hG_11
  subst hz_10
  subst hG_9
  subst hz_8
  subst hB_7
  subst hz_6
  subst hB_5
  subst hz_4
  subst hz_3
  subst hz_2
  subst hz_1
  have hW_B : ldB B G k j = (st (st B 6 j (((B 6) j) - (imin ((B 6) j) (150 - (abd G k))))) 7 j ((B 7 j) - (imin ((B 7) j) ((150 - (abd G k)) - (imin ((B 6) j) (150 - (abd G k))))))) := by unfold ldB ldR ldS; rfl
  rw [← hW_B] at hP
  have hW_G : ldG B G k j = (st (st G 2 k (((G 2) k) + (imin ((B 6) j) (150 - (abd G k))))) 3 k ((G 3 k) + (imin ((B 7) j) ((150 - (abd G k)) - (imin ((B 6) j) (150 - (abd G k))))))) := by unfold ldG ldR ldS; rfl
  rw [← hW_G] at hP
  exact enI () hx hb hr hlocks hS hP (by unfold ldR ldS; rfl) dX3_takeAboard_107
set_option maxRecDepth 100000 in
set_option maxHeartbeats 4000000 in
theorem c_Way_sell (sa : Nat × Nat × (Nat → Int32)) (tb : Nat → Nat) (D : va_G) (cA cL : ClassId) (l : Launch) (a : Nat → Nat) (dy : Int32) (co : Int32) (ti : Int32) (ro : Int32) (u : Nat → Nat) (n : Nat) (B : Nat → Nat → Int32) (ch : Nat → Int32) (v : Nat → Nat) (nb : Nat) (G : Nat → Nat → Int32) (w : Nat) (T : Nat → Int32) (k : Nat) (j : Nat) (hk : k < 3) (hj : j < 3) : KM sa tb D cA cL l yX3_sellAll wsX3_sellAll ({ frames := 3, cells := 0, slots := 0, locals := 66 }) [.ref (a 0), .int (nI k), .int (nI j)] (wWay cA a dy co ti ro u n B ch v nb G w T) (qI D (fun (r : Int32) (_ : Unit) => r = earn G T k j) (fun _ => wWay cA a dy (co + earn G T k j) ti ro u n B ch v nb (sellG G T k j) w (sellT G T k j))) := by
  refine KM.of (cc := cX3_sellAll) (maxL := 5) (ret := some .int) (by decide) rfl (Nat.le_of_ble_eq_true rfl) ?_
  intro pg e s m args below meth c A hx hb hr hml hlocks hts hown hS hA hE hP hD ls hl
  have hown : s.vm.findClass RX3 = some m.cls := hown
  have hl : lv_has ls 5 [(0, .ref (a 0)), (1, .int (nI k)), (2, .int (nI j))] := hl
  have hwX0 : ∀ w ∈ wsX00, w ∈ wsX3_sellAll := (fun _ h => List.mem_cons_of_mem _ (List.mem_append_left _ (List.mem_append_right _ h)))
  have hwX2 : ∀ w ∈ wsX20, w ∈ wsX3_sellAll := (fun _ h => List.mem_cons_of_mem _ (List.mem_append_right _ h))
  have hwX3 : ∀ w ∈ wsX30, w ∈ wsX3_sellAll := (fun _ h => List.mem_cons_of_mem _ (List.mem_append_left _ (List.mem_append_left _ (List.mem_append_right _ h))))
  refine lv_aload_n hx hb dX3_sellAll_0 rfl (lv_at hl 0 rfl) ?_
  refine va_get (D := D) (ci := 3) (v := .ref (a 2)) (C := RX3) (T := TX3) (N := 7) hx hb hts hwX3 hown hE.K hP 0 rfl rfl 5 (by decide) (hts (.fieldLink RX3 28 "SedgeBarges$Waterway" "barges" "LSedgeBarges$Barges;") (List.mem_of_getElem? (i := 1) rfl)) (fun _ h9 => h9) rfl dX3_sellAll_1 ?_
  refine lv_iload_n hx hb dX3_sellAll_4 rfl (lv_at hl 1 rfl) ?_
  refine goI ([oWay a dy co ti ro] ++ wBeds cA (a 1) u n B ch) (wLand cA (a 3) w T) hP hD hS hA (rnV (rest := []) (c_Bars_aboard sa tb D cA cL l (a 2) v nb G k (show k < 3 from by first | omega | assumption | decide)) ([oWay a dy co ti ro] ++ wBeds cA (a 1) u n B ch) (wLand cA (a 3) w T) hP hD hS hA hE ⟨hx, hb, hml, hown, hts⟩ (cwV 1 hts gX3_sellAll_X0_aboard rfl rfl rfl (by decide +kernel) ⟨(Nat.le_of_ble_eq_true rfl), (Nat.le_of_ble_eq_true rfl)⟩) 0 0 rfl rfl rfl rfl hl.1 rfl (Nat.le_of_ble_eq_true rfl) dX3_sellAll_5 ⟨(Nat.le_of_ble_eq_true rfl), (Nat.le_of_ble_eq_true rfl)⟩) (fun _ => rfl) (fun r_5 u_5 H locs hw_5 hP hD hS => ?_)
  have hP : va_P D vwCl (wWay cA a dy co ti ro u n B ch v nb G w T) H := hP
  have hD : va_D A (wWay cA a dy co ti ro u n B ch v nb G w T) := hD
  obtain rfl : r_5 = abd G k := hw_5
  refine lv_istore_n (lv' := [(3, .int (abd G k)), (0, .ref (a 0)), (1, .int (nI k)), (2, .int (nI j))]) hx hb dX3_sellAll_8 rfl hl (by decide) rfl (fun ls hl => ?_)
  refine lv_aload_n hx hb dX3_sellAll_9 rfl (lv_at hl 1 rfl) ?_
  refine va_get (D := D) (ci := 3) (v := .ref (a 2)) (C := RX3) (T := TX3) (N := 7) hx hb hts hwX3 hown hE.K hP 0 rfl rfl 5 (by decide) (hts (.fieldLink RX3 28 "SedgeBarges$Waterway" "barges" "LSedgeBarges$Barges;") (List.mem_of_getElem? (i := 1) rfl)) (fun _ h9 => h9) rfl dX3_sellAll_10 ?_
  refine va_getN (D := D) (ci := 0) (v := .ref (v 2)) (C := RX0) (T := TX0) (N := 6) hx hb hts hwX0 hown hE.K hP 11 rfl rfl 3 (by decide) (nf_16 hE) (fun _ h9 => h9) rfl dX3_sellAll_13 ?_
  refine lv_iload_n hx hb dX3_sellAll_16 rfl (lv_at hl 2 rfl) ?_
  refine r_ald (f := G 2) (v := (G 2) k) hx hb hE hP 14 (k) rfl rfl (by omega) (by decide) rfl dX3_sellAll_17 ?_
  refine lv_aload_n hx hb dX3_sellAll_18 rfl (lv_at hl 1 rfl) ?_
  refine va_get (D := D) (ci := 3) (v := .ref (a 3)) (C := RX3) (T := TX3) (N := 7) hx hb hts hwX3 hown hE.K hP 0 rfl rfl 6 (by decide) (hts (.fieldLink RX3 35 "SedgeBarges$Waterway" "landings" "LSedgeBarges$Landings;") (List.mem_of_getElem? (i := 2) rfl)) (fun _ h9 => h9) rfl dX3_sellAll_19 ?_
  refine lv_iload_n hx hb dX3_sellAll_22 rfl (lv_at hl 3 rfl) ?_
  refine goI ([oWay a dy co ti ro] ++ (wBeds cA (a 1) u n B ch ++ wBars cA (a 2) v nb G)) ([]) hP hD hS hA (rnV (rest := [.int ((G 2) k)]) (c_Land_sedgePrice sa tb D cA cL l (a 3) w T j (show j < 3 from by first | omega | assumption | decide)) ([oWay a dy co ti ro] ++ (wBeds cA (a 1) u n B ch ++ wBars cA (a 2) v nb G)) ([]) hP hD hS hA hE ⟨hx, hb, hml, hown, hts⟩ (cwV 1 hts gX3_sellAll_X2_sedgePrice rfl rfl rfl (by decide +kernel) ⟨(Nat.le_of_ble_eq_true rfl), (Nat.le_of_ble_eq_true rfl)⟩) 2 0 rfl rfl rfl rfl hl.1 rfl (Nat.le_of_ble_eq_true rfl) dX3_sellAll_23 ⟨(Nat.le_of_ble_eq_true rfl), (Nat.le_of_ble_eq_true rfl)⟩) (fun _ => rfl) (fun r_23 u_23 H locs hw_23 hP hD hS => ?_)
  have hP : va_P D vwCl (wWay cA a dy co ti ro u n B ch v nb G w T) H := hP
  have hD : va_D A (wWay cA a dy co ti ro u n B ch v nb G w T) := hD
  obtain rfl : r_23 = sPrice T j := hw_23
  refine lv_imul hx hb dX3_sellAll_26 ?_
  refine lv_aload_n hx hb dX3_sellAll_27 rfl (lv_at hl 1 rfl) ?_
  refine va_get (D := D) (ci := 3) (v := .ref (a 2)) (C := RX3) (T := TX3) (N := 7) hx hb hts hwX3 hown hE.K hP 0 rfl rfl 5 (by decide) (hts (.fieldLink RX3 28 "SedgeBarges$Waterway" "barges" "LSedgeBarges$Barges;") (List.mem_of_getElem? (i := 1) rfl)) (fun _ h9 => h9) rfl dX3_sellAll_28 ?_
  refine va_getN (D := D) (ci := 0) (v := .ref (v 3)) (C := RX0) (T := TX0) (N := 6) hx hb hts hwX0 hown hE.K hP 11 rfl rfl 4 (by decide) (nf_17 hE) (fun _ h9 => h9) rfl dX3_sellAll_31 ?_
  refine lv_iload_n hx hb dX3_sellAll_34 rfl (lv_at hl 2 rfl) ?_
  refine r_ald (f := G 3) (v := (G 3) k) hx hb hE hP 15 (k) rfl rfl (by omega) (by decide) rfl dX3_sellAll_35 ?_
  refine lv_aload_n hx hb dX3_sellAll_36 rfl (lv_at hl 1 rfl) ?_
  refine va_get (D := D) (ci := 3) (v := .ref (a 3)) (C := RX3) (T := TX3) (N := 7) hx hb hts hwX3 hown hE.K hP 0 rfl rfl 6 (by decide) (hts (.fieldLink RX3 35 "SedgeBarges$Waterway" "landings" "LSedgeBarges$Landings;") (List.mem_of_getElem? (i := 2) rfl)) (fun _ h9 => h9) rfl dX3_sellAll_37 ?_
  refine lv_iload_n hx hb dX3_sellAll_40 rfl (lv_at hl 3 rfl) ?_
  refine goI ([oWay a dy co ti ro] ++ (wBeds cA (a 1) u n B ch ++ wBars cA (a 2) v nb G)) ([]) hP hD hS hA (rnV (rest := [.int ((G 3) k), .int (((G 2) k) * (sPrice T j))]) (c_Land_reedPrice sa tb D cA cL l (a 3) w T j (show j < 3 from by first | omega | assumption | decide)) ([oWay a dy co ti ro] ++ (wBeds cA (a 1) u n B ch ++ wBars cA (a 2) v nb G)) ([]) hP hD hS hA hE ⟨hx, hb, hml, hown, hts⟩ (cwV 1 hts gX3_sellAll_X2_reedPrice rfl rfl rfl (by decide +kernel) ⟨(Nat.le_of_ble_eq_true rfl), (Nat.le_of_ble_eq_true rfl)⟩) 2 0 rfl rfl rfl rfl hl.1 rfl (Nat.le_of_ble_eq_true rfl) dX3_sellAll_41 ⟨(Nat.le_of_ble_eq_true rfl), (Nat.le_of_ble_eq_true rfl)⟩) (fun _ => rfl) (fun r_41 u_41 H locs hw_41 hP hD hS => ?_)
  have hP : va_P D vwCl (wWay cA a dy co ti ro u n B ch v nb G w T) H := hP
  have hD : va_D A (wWay cA a dy co ti ro u n B ch v nb G w T) := hD
  obtain rfl : r_41 = rPrice T j := hw_41
  refine lv_imul hx hb dX3_sellAll_44 ?_
  refine lv_iadd hx hb dX3_sellAll_45 ?_
  refine lv_topi (fun z_1 hz_1 => ?_)
  refine lv_istore (lv' := [(4, .int z_1), (3, .int (abd G k)), (0, .ref (a 0)), (1, .int (nI k)), (2, .int (nI j))]) hx hb dX3_sellAll_46 hl (by decide) rfl (fun ls hl => ?_)
  refine lv_aload_n hx hb dX3_sellAll_48 rfl (lv_at hl 2 rfl) ?_
  refine va_get (D := D) (ci := 3) (v := .ref (a 2)) (C := RX3) (T := TX3) (N := 7) hx hb hts hwX3 hown hE.K hP 0 rfl rfl 5 (by decide) (hts (.fieldLink RX3 28 "SedgeBarges$Waterway" "barges" "LSedgeBarges$Barges;") (List.mem_of_getElem? (i := 1) rfl)) (fun _ h9 => h9) rfl dX3_sellAll_49 ?_
  refine va_getN (D := D) (ci := 0) (v := .ref (v 2)) (C := RX0) (T := TX0) (N := 6) hx hb hts hwX0 hown hE.K hP 11 rfl rfl 3 (by decide) (nf_16 hE) (fun _ h9 => h9) rfl dX3_sellAll_52 ?_
  refine lv_iload_n hx hb dX3_sellAll_55 rfl (lv_at hl 3 rfl) ?_
  refine lv_iconst (v := 0) hx hb dX3_sellAll_56 (by decide) ?_
  refine r_ast (f := G 2) (g := upd (G 2) k 0) hx hb hE hP hD hS 14 (k) rfl rfl (by omega) (by decide) rfl dX3_sellAll_57 (fun H locs hP hD hS => ?_)
  have hP : va_P D vwCl (wWay cA a dy co ti ro u n B ch v nb (st G 2 k 0) w T) H := hP
  have hD : va_D A (wWay cA a dy co ti ro u n B ch v nb (st G 2 k 0) w T) := hD
  generalize hG_2 : st G 2 k 0 = G_2 at hP hD
  refine lv_aload_n hx hb dX3_sellAll_58 rfl (lv_at hl 2 rfl) ?_
  refine va_get (D := D) (ci := 3) (v := .ref (a 2)) (C := RX3) (T := TX3) (N := 7) hx hb hts hwX3 hown hE.K hP 0 rfl rfl 5 (by decide) (hts (.fieldLink RX3 28 "SedgeBarges$Waterway" "barges" "LSedgeBarges$Barges;") (List.mem_of_getElem? (i := 1) rfl)) (fun _ h9 => h9) rfl dX3_sellAll_59 ?_
  refine va_getN (D := D) (ci := 0) (v := .ref (v 3)) (C := RX0) (T := TX0) (N := 6) hx hb hts hwX0 hown hE.K hP 11 rfl rfl 4 (by decide) (nf_17 hE) (fun _ h9 => h9) rfl dX3_sellAll_62 ?_
  refine lv_iload_n hx hb dX3_sellAll_65 rfl (lv_at hl 3 rfl) ?_
  refine lv_iconst (v := 0) hx hb dX3_sellAll_66 (by decide) ?_
  refine r_ast (f := G_2 3) (g := upd (G_2 3) k 0) hx hb hE hP hD hS 15 (k) rfl rfl (by omega) (by decide) rfl dX3_sellAll_67 (fun H locs hP hD hS => ?_)
  have hP : va_P D vwCl (wWay cA a dy co ti ro u n B ch v nb (st G_2 3 k 0) w T) H := hP
  have hD : va_D A (wWay cA a dy co ti ro u n B ch v nb (st G_2 3 k 0) w T) := hD
  generalize hG_3 : st G_2 3 k 0 = G_3 at hP hD
  refine lv_aload_n hx hb dX3_sellAll_68 rfl (lv_at hl 2 rfl) ?_
  refine va_get (D := D) (ci := 3) (v := .ref (a 2)) (C := RX3) (T := TX3) (N := 7) hx hb hts hwX3 hown hE.K hP 0 rfl rfl 5 (by decide) (hts (.fieldLink RX3 28 "SedgeBarges$Waterway" "barges" "LSedgeBarges$Barges;") (List.mem_of_getElem? (i := 1) rfl)) (fun _ h9 => h9) rfl dX3_sellAll_69 ?_
  refine va_getN (D := D) (ci := 0) (v := .ref (v 4)) (C := RX0) (T := TX0) (N := 6) hx hb hts hwX0 hown hE.K hP 11 rfl rfl 5 (by decide) (nf_18 hE) (fun _ h9 => h9) rfl dX3_sellAll_72 ?_
  refine lv_iload_n hx hb dX3_sellAll_75 rfl (lv_at hl 3 rfl) ?_
  refine lv_dup2_11 hx hb dX3_sellAll_76 rfl rfl ?_
  refine r_ald (f := G_3 4) (v := G 4 k) hx hb hE hP 16 (k) rfl rfl (by omega) (by decide) ((st_colE hG_3 (by decide)).trans (st_colE hG_2 (by decide))) dX3_sellAll_77 ?_
  refine lv_iload hx hb dX3_sellAll_78 (lv_at hl 0 rfl) ?_
  refine lv_iadd hx hb dX3_sellAll_80 ?_
  refine lv_topi (fun z_4 hz_4 => ?_)
  refine r_ast (f := G_3 4) (g := upd (G_3 4) k z_4) hx hb hE hP hD hS 16 (k) rfl rfl (by omega) (by decide) rfl dX3_sellAll_81 (fun H locs hP hD hS => ?_)
  have hP : va_P D vwCl (wWay cA a dy co ti ro u n B ch v nb (st G_3 4 k z_4) w T) H := hP
  have hD : va_D A (wWay cA a dy co ti ro u n B ch v nb (st G_3 4 k z_4) w T) := hD
  generalize hG_5 : st G_3 4 k z_4 = G_5 at hP hD
  refine lv_aload_n hx hb dX3_sellAll_82 rfl (lv_at hl 2 rfl) ?_
  refine va_get (D := D) (ci := 3) (v := .ref (a 3)) (C := RX3) (T := TX3) (N := 7) hx hb hts hwX3 hown hE.K hP 0 rfl rfl 6 (by decide) (hts (.fieldLink RX3 35 "SedgeBarges$Waterway" "landings" "LSedgeBarges$Landings;") (List.mem_of_getElem? (i := 2) rfl)) (fun _ h9 => h9) rfl dX3_sellAll_83 ?_
  refine va_getN (D := D) (ci := 2) (v := .ref w) (C := RX2) (T := TX2) (N := 1) hx hb hts hwX2 hown hE.K hP 17 rfl rfl 0 (by decide) (nf_19 hE) (fun _ h9 => h9) rfl dX3_sellAll_86 ?_
  refine lv_iload_n hx hb dX3_sellAll_89 rfl (lv_at hl 4 rfl) ?_
  refine lv_dup2_11 hx hb dX3_sellAll_90 rfl rfl ?_
  refine r_ald (f := T) (v := T j) hx hb hE hP 18 (j) rfl rfl (by omega) (by decide) rfl dX3_sellAll_91 ?_
  refine lv_iload_n hx hb dX3_sellAll_92 rfl (lv_at hl 1 rfl) ?_
  refine lv_iadd hx hb dX3_sellAll_93 ?_
  refine lv_topi (fun z_6 hz_6 => ?_)
  refine r_ast (f := T) (g := upd T j z_6) hx hb hE hP hD hS 18 (j) rfl rfl (by omega) (by decide) rfl dX3_sellAll_94 (fun H locs hP hD hS => ?_)
  have hP : va_P D vwCl (wWay cA a dy co ti ro u n B ch v nb G_5 w (upd T j z_6)) H := hP
  have hD : va_D A (wWay cA a dy co ti ro u n B ch v nb G_5 w (upd T j z_6)) := hD
  refine lv_aload_n hx hb dX3_sellAll_95 rfl (lv_at hl 2 rfl) ?_
  refine lv_dup hx hb dX3_sellAll_96 rfl ?_
  refine va_get (D := D) (ci := 3) (v := .int co) (C := RX3) (T := TX3) (N := 7) hx hb hts hwX3 hown hE.K hP 0 rfl rfl 1 (by decide) (hts (.fieldLink RX3 9 "SedgeBarges$Waterway" "coins" "I") (List.mem_of_getElem? (i := 3) rfl)) (fun _ h9 => h9) rfl dX3_sellAll_97 ?_
  refine lv_iload hx hb dX3_sellAll_100 (lv_at hl 0 rfl) ?_
  refine lv_iadd hx hb dX3_sellAll_102 ?_
  refine lv_topi (fun z_7 hz_7 => ?_)
  refine va_put (D := D) (ci := 3) (v := .int z_7) (ty := .int) (C := RX3) (T := TX3) (N := 7) hx hb hts hwX3 tyX3 tyX3_ok nmX3 hown hE.K hP hD hS 0 rfl rfl 1 (by decide) (hts (.fieldLink RX3 9 "SedgeBarges$Waterway" "coins" "I") (List.mem_of_getElem? (i := 3) rfl)) (fun _ h9 => h9) rfl (by decide +kernel) rfl rfl (Nat.le_of_ble_eq_true rfl) dX3_sellAll_103 (fun H locs hP hD hS => ?_)
  have hP : va_P D vwCl (wWay cA a dy z_7 ti ro u n B ch v nb G_5 w (upd T j z_6)) H := hP
  have hD : va_D A (wWay cA a dy z_7 ti ro u n B ch v nb G_5 w (upd T j z_6)) := hD
  refine lv_iload hx hb dX3_sellAll_106 (lv_at hl 0 rfl) ?_
  subst hz_7
  subst hz_6
  subst hG_5
  subst hz_4
  subst hG_3
  subst hG_2
  subst hz_1
  have hW_G : sellG G T k j = (st (st (st G 2 k 0) 3 k 0) 4 k ((G 4 k) + ((((G 2) k) * (sPrice T j)) + (((G 3) k) * (rPrice T j))))) := by unfold sellG earn; rfl
  rw [← hW_G] at hP
  have hW_T : sellT G T k j = upd T j ((T j) + (abd G k)) := by unfold sellT; rfl
  rw [← hW_T] at hP
  have hW_co : co + earn G T k j = (co + ((((G 2) k) * (sPrice T j)) + (((G 3) k) * (rPrice T j)))) := by unfold earn; rfl
  rw [← hW_co] at hP
  exact enI () hx hb hr hlocks hS hP (by unfold earn; rfl) dX3_sellAll_108
set_option maxRecDepth 100000 in
set_option maxHeartbeats 4000000 in
theorem c_Way_day (sa : Nat × Nat × (Nat → Int32)) (tb : Nat → Nat) (D : va_G) (cA cL : ClassId) (l : Launch) (a : Nat → Nat) (dy : Int32) (co : Int32) (ti : Int32) (ro : Int32) (u : Nat → Nat) (n : Nat) (B : Nat → Nat → Int32) (ch : Nat → Int32) (v : Nat → Nat) (nb : Nat) (G : Nat → Nat → Int32) (w : Nat) (T : Nat → Int32) (hn : n ≤ 8) (hnb : nb ≤ 3) : KM sa tb D cA cL l yX3_passDay wsX3_passDay ({ frames := 3, cells := 0, slots := 0, locals := 67 }) [.ref (a 0)] (wWay cA a dy co ti ro u n B ch v nb G w T) (qV D (fun (cx : Nat → Int32) => True) (fun cx => wWay cA a (dy + 1) co ti (ro + sumF (rotF B) n) u n (dayB n dy B) cx v nb (sailG nb G) w (thT T))) := by
  refine KM.of (cc := cX3_passDay) (maxL := 1) (ret := none) (by decide) rfl (Nat.le_of_ble_eq_true rfl) ?_
  intro pg e s m args below meth c A hx hb hr hml hlocks hts hown hS hA hE hP hD ls hl
  have hown : s.vm.findClass RX3 = some m.cls := hown
  have hl : lv_has ls 1 [(0, .ref (a 0))] := hl
  have hwX3 : ∀ w ∈ wsX30, w ∈ wsX3_passDay := (fun _ h => List.mem_cons_of_mem _ (List.mem_append_left _ (List.mem_append_left _ (List.mem_append_left _ (List.mem_append_right _ h)))))
  refine lv_aload_n hx hb dX3_passDay_0 rfl (lv_at hl 0 rfl) ?_
  refine va_get (D := D) (ci := 3) (v := .ref (a 2)) (C := RX3) (T := TX3) (N := 7) hx hb hts hwX3 hown hE.K hP 0 rfl rfl 5 (by decide) (hts (.fieldLink RX3 28 "SedgeBarges$Waterway" "barges" "LSedgeBarges$Barges;") (List.mem_of_getElem? (i := 1) rfl)) (fun _ h9 => h9) rfl dX3_passDay_1 ?_
  refine goV ([oWay a dy co ti ro] ++ wBeds cA (a 1) u n B ch) (wLand cA (a 3) w T) hP hD hS hA (rnV (rest := []) (c_Bars_sailOn sa tb D cA cL l (a 2) v nb G (show nb ≤ 3 from by first | omega | assumption | decide)) ([oWay a dy co ti ro] ++ wBeds cA (a 1) u n B ch) (wLand cA (a 3) w T) hP hD hS hA hE ⟨hx, hb, hml, hown, hts⟩ (cwV 0 hts gX3_passDay_X0_sailOn rfl rfl rfl (by decide +kernel) ⟨(Nat.le_of_ble_eq_true rfl), (Nat.le_of_ble_eq_true rfl)⟩) 0 0 rfl rfl rfl rfl hl.1 rfl (Nat.le_of_ble_eq_true rfl) dX3_passDay_4 ⟨(Nat.le_of_ble_eq_true rfl), (Nat.le_of_ble_eq_true rfl)⟩) (fun _ => rfl) (fun u_4 H locs hw_4 hP hD hS => ?_)
  have hP : va_P D vwCl (wWay cA a dy co ti ro u n B ch v nb (sailG nb G) w T) H := hP
  have hD : va_D A (wWay cA a dy co ti ro u n B ch v nb (sailG nb G) w T) := hD
  refine lv_aload_n hx hb dX3_passDay_7 rfl (lv_at hl 0 rfl) ?_
  refine lv_dup hx hb dX3_passDay_8 rfl ?_
  refine va_get (D := D) (ci := 3) (v := .int ro) (C := RX3) (T := TX3) (N := 7) hx hb hts hwX3 hown hE.K hP 0 rfl rfl 3 (by decide) (hts (.fieldLink RX3 42 "SedgeBarges$Waterway" "rotted" "I") (List.mem_of_getElem? (i := 2) rfl)) (fun _ h9 => h9) rfl dX3_passDay_9 ?_
  refine lv_aload_n hx hb dX3_passDay_12 rfl (lv_at hl 0 rfl) ?_
  refine va_get (D := D) (ci := 3) (v := .ref (a 1)) (C := RX3) (T := TX3) (N := 7) hx hb hts hwX3 hown hE.K hP 0 rfl rfl 4 (by decide) (hts (.fieldLink RX3 21 "SedgeBarges$Waterway" "beds" "LSedgeBarges$Beds;") (List.mem_of_getElem? (i := 3) rfl)) (fun _ h9 => h9) rfl dX3_passDay_13 ?_
  refine goI ([oWay a dy co ti ro]) (wBars cA (a 2) v nb (sailG nb G) ++ (wLand cA (a 3) w T)) hP hD hS hA (rnV (rest := [.int ro, .ref (a 0)]) (c_Beds_rot sa tb D cA cL l (a 1) u n B ch (show n ≤ 8 from by first | omega | assumption | decide)) ([oWay a dy co ti ro]) (wBars cA (a 2) v nb (sailG nb G) ++ (wLand cA (a 3) w T)) hP hD hS hA hE ⟨hx, hb, hml, hown, hts⟩ (cwV 0 hts gX3_passDay_X1_rot rfl rfl rfl (by decide +kernel) ⟨(Nat.le_of_ble_eq_true rfl), (Nat.le_of_ble_eq_true rfl)⟩) 1 0 rfl rfl rfl rfl hl.1 rfl (Nat.le_of_ble_eq_true rfl) dX3_passDay_16 ⟨(Nat.le_of_ble_eq_true rfl), (Nat.le_of_ble_eq_true rfl)⟩) (fun _ => rfl) (fun r_16 u_16 H locs hw_16 hP hD hS => ?_)
  have hP : va_P D vwCl (wWay cA a dy co ti ro u n (rotB n B) ch v nb (sailG nb G) w T) H := hP
  have hD : va_D A (wWay cA a dy co ti ro u n (rotB n B) ch v nb (sailG nb G) w T) := hD
  obtain rfl : r_16 = sumF (rotF B) n := hw_16
  refine lv_iadd hx hb dX3_passDay_19 ?_
  refine lv_topi (fun z_1 hz_1 => ?_)
  refine va_put (D := D) (ci := 3) (v := .int z_1) (ty := .int) (C := RX3) (T := TX3) (N := 7) hx hb hts hwX3 tyX3 tyX3_ok nmX3 hown hE.K hP hD hS 0 rfl rfl 3 (by decide) (hts (.fieldLink RX3 42 "SedgeBarges$Waterway" "rotted" "I") (List.mem_of_getElem? (i := 2) rfl)) (fun _ h9 => h9) rfl (by decide +kernel) rfl rfl (Nat.le_of_ble_eq_true rfl) dX3_passDay_20 (fun H locs hP hD hS => ?_)
  have hP : va_P D vwCl (wWay cA a dy co ti z_1 u n (rotB n B) ch v nb (sailG nb G) w T) H := hP
  have hD : va_D A (wWay cA a dy co ti z_1 u n (rotB n B) ch v nb (sailG nb G) w T) := hD
  refine lv_aload_n hx hb dX3_passDay_23 rfl (lv_at hl 0 rfl) ?_
  refine va_get (D := D) (ci := 3) (v := .ref (a 3)) (C := RX3) (T := TX3) (N := 7) hx hb hts hwX3 hown hE.K hP 0 rfl rfl 6 (by decide) (hts (.fieldLink RX3 35 "SedgeBarges$Waterway" "landings" "LSedgeBarges$Landings;") (List.mem_of_getElem? (i := 4) rfl)) (fun _ h9 => h9) rfl dX3_passDay_24 ?_
  refine goV ([oWay a dy co ti z_1] ++ (wBeds cA (a 1) u n (rotB n B) ch ++ wBars cA (a 2) v nb (sailG nb G))) ([]) hP hD hS hA (rnV (rest := []) (c_Land_thatch sa tb D cA cL l (a 3) w T ) ([oWay a dy co ti z_1] ++ (wBeds cA (a 1) u n (rotB n B) ch ++ wBars cA (a 2) v nb (sailG nb G))) ([]) hP hD hS hA hE ⟨hx, hb, hml, hown, hts⟩ (cwV 0 hts gX3_passDay_X2_thatch rfl rfl rfl (by decide +kernel) ⟨(Nat.le_of_ble_eq_true rfl), (Nat.le_of_ble_eq_true rfl)⟩) 2 0 rfl rfl rfl rfl hl.1 rfl (Nat.le_of_ble_eq_true rfl) dX3_passDay_27 ⟨(Nat.le_of_ble_eq_true rfl), (Nat.le_of_ble_eq_true rfl)⟩) (fun _ => rfl) (fun u_27 H locs hw_27 hP hD hS => ?_)
  have hP : va_P D vwCl (wWay cA a dy co ti z_1 u n (rotB n B) ch v nb (sailG nb G) w (thT T)) H := hP
  have hD : va_D A (wWay cA a dy co ti z_1 u n (rotB n B) ch v nb (sailG nb G) w (thT T)) := hD
  refine lv_aload_n hx hb dX3_passDay_30 rfl (lv_at hl 0 rfl) ?_
  refine va_get (D := D) (ci := 3) (v := .int dy) (C := RX3) (T := TX3) (N := 7) hx hb hts hwX3 hown hE.K hP 0 rfl rfl 0 (by decide) (hts (.fieldLink RX3 39 "SedgeBarges$Waterway" "day" "I") (List.mem_of_getElem? (i := 5) rfl)) (fun _ h9 => h9) rfl dX3_passDay_31 ?_
  refine lv_bipush (v := 100) hx hb dX3_passDay_34 (by decide) ?_
  refine r_irem hx hb dX3_passDay_36 (by decide) ?_
  refine lv_bipush (v := 99) hx hb dX3_passDay_37 (by decide) ?_
  refine lv_icmp_ne (tgt := 49) hx hb dX3_passDay_39 (by decide) (fun c_39 => ?_) (fun c_39 => ?_)
  · refine lv_aload_n hx hb dX3_passDay_49 rfl (lv_at hl 0 rfl) ?_
    refine lv_dup hx hb dX3_passDay_50 rfl ?_
    refine va_get (D := D) (ci := 3) (v := .int dy) (C := RX3) (T := TX3) (N := 7) hx hb hts hwX3 hown hE.K hP 0 rfl rfl 0 (by decide) (hts (.fieldLink RX3 39 "SedgeBarges$Waterway" "day" "I") (List.mem_of_getElem? (i := 5) rfl)) (fun _ h9 => h9) rfl dX3_passDay_51 ?_
    refine lv_iconst (v := 1) hx hb dX3_passDay_54 (by decide) ?_
    refine lv_iadd hx hb dX3_passDay_55 ?_
    refine lv_topi (fun z_2 hz_2 => ?_)
    refine va_put (D := D) (ci := 3) (v := .int z_2) (ty := .int) (C := RX3) (T := TX3) (N := 7) hx hb hts hwX3 tyX3 tyX3_ok nmX3 hown hE.K hP hD hS 0 rfl rfl 0 (by decide) (hts (.fieldLink RX3 39 "SedgeBarges$Waterway" "day" "I") (List.mem_of_getElem? (i := 5) rfl)) (fun _ h9 => h9) rfl (by decide +kernel) rfl rfl (Nat.le_of_ble_eq_true rfl) dX3_passDay_56 (fun H locs hP hD hS => ?_)
    have hP : va_P D vwCl (wWay cA a z_2 co ti z_1 u n (rotB n B) ch v nb (sailG nb G) w (thT T)) H := hP
    have hD : va_D A (wWay cA a z_2 co ti z_1 u n (rotB n B) ch v nb (sailG nb G) w (thT T)) := hD
    subst hz_2
    subst hz_1
    have hdB : dayB n dy B = rotB n B := by first | exact if_pos c_39 | exact if_neg c_39
    rw [← hdB] at hP
    exact enV ch hx hb hr hlocks hS hP (trivial) dX3_passDay_59
  · refine lv_aload_n hx hb dX3_passDay_42 rfl (lv_at hl 0 rfl) ?_
    refine va_get (D := D) (ci := 3) (v := .ref (a 1)) (C := RX3) (T := TX3) (N := 7) hx hb hts hwX3 hown hE.K hP 0 rfl rfl 4 (by decide) (hts (.fieldLink RX3 21 "SedgeBarges$Waterway" "beds" "LSedgeBarges$Beds;") (List.mem_of_getElem? (i := 3) rfl)) (fun _ h9 => h9) rfl dX3_passDay_43 ?_
    refine goV ([oWay a dy co ti z_1]) (wBars cA (a 2) v nb (sailG nb G) ++ (wLand cA (a 3) w (thT T))) hP hD hS hA (rnV (rest := []) (c_Beds_endYear sa tb D cA cL l (a 1) u n (rotB n B) ch (show n ≤ 8 from by first | omega | assumption | decide)) ([oWay a dy co ti z_1]) (wBars cA (a 2) v nb (sailG nb G) ++ (wLand cA (a 3) w (thT T))) hP hD hS hA hE ⟨hx, hb, hml, hown, hts⟩ (cwV 0 hts gX3_passDay_X1_endYear rfl rfl rfl (by decide +kernel) ⟨(Nat.le_of_ble_eq_true rfl), (Nat.le_of_ble_eq_true rfl)⟩) 1 0 rfl rfl rfl rfl hl.1 rfl (Nat.le_of_ble_eq_true rfl) dX3_passDay_46 ⟨(Nat.le_of_ble_eq_true rfl), (Nat.le_of_ble_eq_true rfl)⟩) (fun _ => rfl) (fun u_46 H locs hw_46 hP hD hS => ?_)
    have hP : va_P D vwCl (wWay cA a dy co ti z_1 u n (yearB n (rotB n B)) u_46 v nb (sailG nb G) w (thT T)) H := hP
    have hD : va_D A (wWay cA a dy co ti z_1 u n (yearB n (rotB n B)) u_46 v nb (sailG nb G) w (thT T)) := hD
    refine lv_aload_n hx hb dX3_passDay_49 rfl (lv_at hl 0 rfl) ?_
    refine lv_dup hx hb dX3_passDay_50 rfl ?_
    refine va_get (D := D) (ci := 3) (v := .int dy) (C := RX3) (T := TX3) (N := 7) hx hb hts hwX3 hown hE.K hP 0 rfl rfl 0 (by decide) (hts (.fieldLink RX3 39 "SedgeBarges$Waterway" "day" "I") (List.mem_of_getElem? (i := 5) rfl)) (fun _ h9 => h9) rfl dX3_passDay_51 ?_
    refine lv_iconst (v := 1) hx hb dX3_passDay_54 (by decide) ?_
    refine lv_iadd hx hb dX3_passDay_55 ?_
    refine lv_topi (fun z_3 hz_3 => ?_)
    refine va_put (D := D) (ci := 3) (v := .int z_3) (ty := .int) (C := RX3) (T := TX3) (N := 7) hx hb hts hwX3 tyX3 tyX3_ok nmX3 hown hE.K hP hD hS 0 rfl rfl 0 (by decide) (hts (.fieldLink RX3 39 "SedgeBarges$Waterway" "day" "I") (List.mem_of_getElem? (i := 5) rfl)) (fun _ h9 => h9) rfl (by decide +kernel) rfl rfl (Nat.le_of_ble_eq_true rfl) dX3_passDay_56 (fun H locs hP hD hS => ?_)
    have hP : va_P D vwCl (wWay cA a z_3 co ti z_1 u n (yearB n (rotB n B)) u_46 v nb (sailG nb G) w (thT T)) H := hP
    have hD : va_D A (wWay cA a z_3 co ti z_1 u n (yearB n (rotB n B)) u_46 v nb (sailG nb G) w (thT T)) := hD
    subst hz_3
    subst hz_1
    have hdB : dayB n dy B = yearB n (rotB n B) := by first | exact if_pos c_39 | exact if_neg c_39
    rw [← hdB] at hP
    exact enV u_46 hx hb hr hlocks hS hP (trivial) dX3_passDay_59
set_option maxRecDepth 100000 in
set_option maxHeartbeats 4000000 in
theorem c_Way_days (sa : Nat × Nat × (Nat → Int32)) (tb : Nat → Nat) (D : va_G) (cA cL : ClassId) (l : Launch) (a : Nat → Nat) (dy : Int32) (co : Int32) (ti : Int32) (ro : Int32) (u : Nat → Nat) (n : Nat) (B : Nat → Nat → Int32) (ch : Nat → Int32) (v : Nat → Nat) (nb : Nat) (G : Nat → Nat → Int32) (w : Nat) (T : Nat → Int32) (d : Nat) (hn : n ≤ 8) (hnb : nb ≤ 3) (hd : d < 1000) : KM sa tb D cA cL l yX3_passDays wsX3_passDays ({ frames := 4, cells := 0, slots := 0, locals := 87 }) [.ref (a 0), .int (nI d)] (wWay cA a dy co ti ro u n B ch v nb G w T) (qI D (fun (r : Int32) (cx : Nat → Int32) => r = (daysS n nb d (dy, ro, B, G, T)).2.1 - ro) (fun cx => wWay cA a ((daysS n nb d (dy, ro, B, G, T)).1) co ti ((daysS n nb d (dy, ro, B, G, T)).2.1) u n ((daysS n nb d (dy, ro, B, G, T)).2.2.1) cx v nb ((daysS n nb d (dy, ro, B, G, T)).2.2.2.1) w ((daysS n nb d (dy, ro, B, G, T)).2.2.2.2))) := by
  refine KM.of (cc := cX3_passDays) (maxL := 4) (ret := some .int) (by decide) rfl (Nat.le_of_ble_eq_true rfl) ?_
  intro pg e s m args below meth c A hx hb hr hml hlocks hts hown hS hA hE hP hD ls hl
  have hown : s.vm.findClass RX3 = some m.cls := hown
  have hl : lv_has ls 4 [(0, .ref (a 0)), (1, .int (nI d))] := hl
  have hwX3 : ∀ w ∈ wsX30, w ∈ wsX3_passDays := (fun _ h => List.mem_cons_of_mem _ (List.mem_append_left _ (List.mem_append_left _ (List.mem_append_left _ (List.mem_append_right _ h)))))
  refine lv_aload_n hx hb dX3_passDays_0 rfl (lv_at hl 0 rfl) ?_
  refine va_get (D := D) (ci := 3) (v := .int ro) (C := RX3) (T := TX3) (N := 7) hx hb hts hwX3 hown hE.K hP 0 rfl rfl 3 (by decide) (hts (.fieldLink RX3 42 "SedgeBarges$Waterway" "rotted" "I") (List.mem_of_getElem? (i := 1) rfl)) (fun _ h9 => h9) rfl dX3_passDays_1 ?_
  refine lv_istore_n (lv' := [(2, .int ro), (0, .ref (a 0)), (1, .int (nI d))]) hx hb dX3_passDays_4 rfl hl (by decide) rfl (fun ls hl => ?_)
  refine lv_iconst (v := 0) hx hb dX3_passDays_5 (by decide) ?_
  refine lv_istore_n (lv' := [(3, .int 0), (2, .int ro), (0, .ref (a 0)), (1, .int (nI d))]) hx hb dX3_passDays_6 rfl hl (by decide) rfl (fun ls hl => ?_)
  have loop_7 : ∀ (f_7 : Nat) (i : Nat) (xs : DS) (cx : Nat → Int32), (d - i) < f_7 → (i ≤ d) → (xs = daysS n nb i (dy, ro, B, G, T)) → ∀ (H : Heap) (locs : List Loc), va_P D vwCl (wWay cA a xs.1 co ti xs.2.1 u n xs.2.2.1 cx v nb xs.2.2.2.1 w xs.2.2.2.2) H → va_D A (wWay cA a xs.1 co ti xs.2.1 u n xs.2.2.1 cx v nb xs.2.2.2.1 w xs.2.2.2.2) → va_S A s.heap H locs → ∀ ls : Array Slot, lv_has ls 4 [(0, .ref (a 0)), (1, .int (nI d)), (2, .int ro), (3, .int (nI i))] → W pg l e ({ frames := 4, cells := 0, slots := 0, locals := 87 }) s m args below meth c H locs 0 0 (MQ below (qI D (fun (r : Int32) (cx : Nat → Int32) => r = (daysS n nb d (dy, ro, B, G, T)).2.1 - ro) (fun cx => wWay cA a ((daysS n nb d (dy, ro, B, G, T)).1) co ti ((daysS n nb d (dy, ro, B, G, T)).2.1) u n ((daysS n nb d (dy, ro, B, G, T)).2.2.1) cx v nb ((daysS n nb d (dy, ro, B, G, T)).2.2.2.1) w ((daysS n nb d (dy, ro, B, G, T)).2.2.2.2)) A) args s 0 0 A) (F0 m 7 ls []) := by
    intro f_7
    induction f_7 with
    | zero => intro i xs cx h_f; exact absurd h_f (Nat.not_lt_zero _)
    | succ f_7 ih_7 =>
      intro i xs cx h_f7 hi hxs H locs hP hD hS ls hl
      refine lv_iload_n hx hb dX3_passDays_7 rfl (lv_at hl 3 rfl) ?_
      refine lv_iload_n hx hb dX3_passDays_8 rfl (lv_at hl 1 rfl) ?_
      refine rc_ge (tgt := 22) (a := i) (b := d) hx hb (by omega) (by omega) dX3_passDays_9 (by decide) (fun c_9 => ?_) (fun c_9 => ?_)
      · refine lv_aload_n hx hb dX3_passDays_22 rfl (lv_at hl 0 rfl) ?_
        refine va_get (D := D) (ci := 3) (v := .int xs.2.1) (C := RX3) (T := TX3) (N := 7) hx hb hts hwX3 hown hE.K hP 0 rfl rfl 3 (by decide) (hts (.fieldLink RX3 42 "SedgeBarges$Waterway" "rotted" "I") (List.mem_of_getElem? (i := 1) rfl)) (fun _ h9 => h9) rfl dX3_passDays_23 ?_
        refine lv_iload_n hx hb dX3_passDays_26 rfl (lv_at hl 2 rfl) ?_
        refine lv_isub hx hb dX3_passDays_27 ?_
        rw [show i = d from by omega] at hxs
        subst hxs
        exact enI cx hx hb hr hlocks hS hP (rfl) dX3_passDays_28
      · refine lv_aload_n hx hb dX3_passDays_12 rfl (lv_at hl 0 rfl) ?_
        refine goV ([]) ([]) hP hD hS hA (rnV (rest := []) (c_Way_day sa tb D cA cL l a xs.1 co ti xs.2.1 u n xs.2.2.1 cx v nb xs.2.2.2.1 w xs.2.2.2.2 (show n ≤ 8 from by first | omega | assumption | decide) (show nb ≤ 3 from by first | omega | assumption | decide)) ([]) ([]) hP hD hS hA hE ⟨hx, hb, hml, hown, hts⟩ (cwV 0 hts gX3_passDays_X3_passDay rfl rfl rfl (by decide +kernel) ⟨(Nat.le_of_ble_eq_true rfl), (Nat.le_of_ble_eq_true rfl)⟩) 3 0 rfl rfl rfl rfl hl.1 rfl (Nat.le_of_ble_eq_true rfl) dX3_passDays_13 ⟨(Nat.le_of_ble_eq_true rfl), (Nat.le_of_ble_eq_true rfl)⟩) (fun _ => rfl) (fun u_13 H locs hw_13 hP hD hS => ?_)
        have hP : va_P D vwCl (wWay cA a (xs.1 + 1) co ti (xs.2.1 + sumF (rotF xs.2.2.1) n) u n (dayB n xs.1 xs.2.2.1) u_13 v nb (sailG nb xs.2.2.2.1) w (thT xs.2.2.2.2)) H := hP
        have hD : va_D A (wWay cA a (xs.1 + 1) co ti (xs.2.1 + sumF (rotF xs.2.2.1) n) u n (dayB n xs.1 xs.2.2.1) u_13 v nb (sailG nb xs.2.2.2.1) w (thT xs.2.2.2.2)) := hD
        refine lv_iinc (v := (nI (i + 1))) (lv' := [(3, .int (nI (i + 1))), (0, .ref (a 0)), (1, .int (nI d)), (2, .int ro)]) (k := 3) hx hb dX3_passDays_16 hl rfl (iinc1 _) (by decide) rfl (fun ls hl => ?_)
        refine lv_goto (tgt := 7) hx hb dX3_passDays_19 (by decide) ?_
        exact ih_7  (i + 1) (dayS n nb xs) u_13 (show d - (i + 1) < f_7 from by omega) (show (i + 1) ≤ d from by omega) (show (dayS n nb xs) = daysS n nb (i + 1) (dy, ro, B, G, T) from by rw [hxs]; rfl) _ _ hP hD hS ls (lv_sub hl [1, 2, 3, 0] rfl)
  exact loop_7 ((d - 0) + 1) 0 (dy, ro, B, G, T) ch (Nat.lt_succ_self _) (show 0 ≤ d from by omega) (show (dy, ro, B, G, T) = daysS n nb 0 (dy, ro, B, G, T) from rfl) _ _ hP hD hS ls (lv_sub hl [2, 3, 1, 0] rfl)
set_option maxRecDepth 100000 in
set_option maxHeartbeats 4000000 in
theorem c_Way_copyFrom (sa : Nat × Nat × (Nat → Int32)) (tb : Nat → Nat) (D : va_G) (cA cL : ClassId) (l : Launch) (a : Nat → Nat) (dy : Int32) (co : Int32) (ti : Int32) (ro : Int32) (u : Nat → Nat) (n : Nat) (B : Nat → Nat → Int32) (ch : Nat → Int32) (v : Nat → Nat) (nb : Nat) (G : Nat → Nat → Int32) (w : Nat) (T : Nat → Int32) (a2 : Nat → Nat) (dy2 : Int32) (co2 : Int32) (ti2 : Int32) (ro2 : Int32) (u2 : Nat → Nat) (n2 : Nat) (B2 : Nat → Nat → Int32) (ch2 : Nat → Int32) (v2 : Nat → Nat) (nb2 : Nat) (G2 : Nat → Nat → Int32) (w2 : Nat) (T2 : Nat → Int32) (hn : n2 ≤ 8) (hnb : nb2 ≤ 3) : KM sa tb D cA cL l yX3_copyFrom wsX3_copyFrom ({ frames := 1, cells := 0, slots := 0, locals := 22 }) [.ref (a 0), .ref (a2 0)] (wWay cA a dy co ti ro u n B ch v nb G w T ++ wWay cA a2 dy2 co2 ti2 ro2 u2 n2 B2 ch2 v2 nb2 G2 w2 T2) (qV D (fun (_ : Unit) => True) (fun _ => wWay cA a dy2 co2 ti2 ro2 u n2 (cpB n2 B2 B) ch v nb2 (cpG nb2 G2 G) w (cpT T2 T) ++ wWay cA a2 dy2 co2 ti2 ro2 u2 n2 B2 ch2 v2 nb2 G2 w2 T2)) := by
  refine KM.of (cc := cX3_copyFrom) (maxL := 2) (ret := none) (by decide) rfl (Nat.le_of_ble_eq_true rfl) ?_
  intro pg e s m args below meth c A hx hb hr hml hlocks hts hown hS hA hE hP hD ls hl
  have hown : s.vm.findClass RX3 = some m.cls := hown
  have hl : lv_has ls 2 [(0, .ref (a 0)), (1, .ref (a2 0))] := hl
  have hwX3 : ∀ w ∈ wsX30, w ∈ wsX3_copyFrom := (fun _ h => List.mem_cons_of_mem _ (List.mem_append_left _ (List.mem_append_left _ (List.mem_append_left _ (List.mem_append_right _ h)))))
  refine lv_aload_n hx hb dX3_copyFrom_0 rfl (lv_at hl 0 rfl) ?_
  refine lv_aload_n hx hb dX3_copyFrom_1 rfl (lv_at hl 1 rfl) ?_
  refine va_get (D := D) (ci := 3) (v := .int dy2) (C := RX3) (T := TX3) (N := 7) hx hb hts hwX3 hown hE.K hP 19 rfl rfl 0 (by decide) (hts (.fieldLink RX3 39 "SedgeBarges$Waterway" "day" "I") (List.mem_of_getElem? (i := 1) rfl)) (fun _ h9 => h9) rfl dX3_copyFrom_2 ?_
  refine va_put (D := D) (ci := 3) (v := .int dy2) (ty := .int) (C := RX3) (T := TX3) (N := 7) hx hb hts hwX3 tyX3 tyX3_ok nmX3 hown hE.K hP hD hS 0 rfl rfl 0 (by decide) (hts (.fieldLink RX3 39 "SedgeBarges$Waterway" "day" "I") (List.mem_of_getElem? (i := 1) rfl)) (fun _ h9 => h9) rfl (by decide +kernel) rfl rfl (Nat.le_of_ble_eq_true rfl) dX3_copyFrom_5 (fun H locs hP hD hS => ?_)
  have hP : va_P D vwCl (wWay cA a dy2 co ti ro u n B ch v nb G w T ++ wWay cA a2 dy2 co2 ti2 ro2 u2 n2 B2 ch2 v2 nb2 G2 w2 T2) H := hP
  have hD : va_D A (wWay cA a dy2 co ti ro u n B ch v nb G w T ++ wWay cA a2 dy2 co2 ti2 ro2 u2 n2 B2 ch2 v2 nb2 G2 w2 T2) := hD
  refine lv_aload_n hx hb dX3_copyFrom_8 rfl (lv_at hl 0 rfl) ?_
  refine lv_aload_n hx hb dX3_copyFrom_9 rfl (lv_at hl 1 rfl) ?_
  refine va_get (D := D) (ci := 3) (v := .int co2) (C := RX3) (T := TX3) (N := 7) hx hb hts hwX3 hown hE.K hP 19 rfl rfl 1 (by decide) (hts (.fieldLink RX3 9 "SedgeBarges$Waterway" "coins" "I") (List.mem_of_getElem? (i := 2) rfl)) (fun _ h9 => h9) rfl dX3_copyFrom_10 ?_
  refine va_put (D := D) (ci := 3) (v := .int co2) (ty := .int) (C := RX3) (T := TX3) (N := 7) hx hb hts hwX3 tyX3 tyX3_ok nmX3 hown hE.K hP hD hS 0 rfl rfl 1 (by decide) (hts (.fieldLink RX3 9 "SedgeBarges$Waterway" "coins" "I") (List.mem_of_getElem? (i := 2) rfl)) (fun _ h9 => h9) rfl (by decide +kernel) rfl rfl (Nat.le_of_ble_eq_true rfl) dX3_copyFrom_13 (fun H locs hP hD hS => ?_)
  have hP : va_P D vwCl (wWay cA a dy2 co2 ti ro u n B ch v nb G w T ++ wWay cA a2 dy2 co2 ti2 ro2 u2 n2 B2 ch2 v2 nb2 G2 w2 T2) H := hP
  have hD : va_D A (wWay cA a dy2 co2 ti ro u n B ch v nb G w T ++ wWay cA a2 dy2 co2 ti2 ro2 u2 n2 B2 ch2 v2 nb2 G2 w2 T2) := hD
  refine lv_aload_n hx hb dX3_copyFrom_16 rfl (lv_at hl 0 rfl) ?_
  refine lv_aload_n hx hb dX3_copyFrom_17 rfl (lv_at hl 1 rfl) ?_
  refine va_get (D := D) (ci := 3) (v := .int ti2) (C := RX3) (T := TX3) (N := 7) hx hb hts hwX3 hown hE.K hP 19 rfl rfl 2 (by decide) (hts (.fieldLink RX3 15 "SedgeBarges$Waterway" "ties" "I") (List.mem_of_getElem? (i := 3) rfl)) (fun _ h9 => h9) rfl dX3_copyFrom_18 ?_
  refine va_put (D := D) (ci := 3) (v := .int ti2) (ty := .int) (C := RX3) (T := TX3) (N := 7) hx hb hts hwX3 tyX3 tyX3_ok nmX3 hown hE.K hP hD hS 0 rfl rfl 2 (by decide) (hts (.fieldLink RX3 15 "SedgeBarges$Waterway" "ties" "I") (List.mem_of_getElem? (i := 3) rfl)) (fun _ h9 => h9) rfl (by decide +kernel) rfl rfl (Nat.le_of_ble_eq_true rfl) dX3_copyFrom_21 (fun H locs hP hD hS => ?_)
  have hP : va_P D vwCl (wWay cA a dy2 co2 ti2 ro u n B ch v nb G w T ++ wWay cA a2 dy2 co2 ti2 ro2 u2 n2 B2 ch2 v2 nb2 G2 w2 T2) H := hP
  have hD : va_D A (wWay cA a dy2 co2 ti2 ro u n B ch v nb G w T ++ wWay cA a2 dy2 co2 ti2 ro2 u2 n2 B2 ch2 v2 nb2 G2 w2 T2) := hD
  refine lv_aload_n hx hb dX3_copyFrom_24 rfl (lv_at hl 0 rfl) ?_
  refine lv_aload_n hx hb dX3_copyFrom_25 rfl (lv_at hl 1 rfl) ?_
  refine va_get (D := D) (ci := 3) (v := .int ro2) (C := RX3) (T := TX3) (N := 7) hx hb hts hwX3 hown hE.K hP 19 rfl rfl 3 (by decide) (hts (.fieldLink RX3 42 "SedgeBarges$Waterway" "rotted" "I") (List.mem_of_getElem? (i := 4) rfl)) (fun _ h9 => h9) rfl dX3_copyFrom_26 ?_
  refine va_put (D := D) (ci := 3) (v := .int ro2) (ty := .int) (C := RX3) (T := TX3) (N := 7) hx hb hts hwX3 tyX3 tyX3_ok nmX3 hown hE.K hP hD hS 0 rfl rfl 3 (by decide) (hts (.fieldLink RX3 42 "SedgeBarges$Waterway" "rotted" "I") (List.mem_of_getElem? (i := 4) rfl)) (fun _ h9 => h9) rfl (by decide +kernel) rfl rfl (Nat.le_of_ble_eq_true rfl) dX3_copyFrom_29 (fun H locs hP hD hS => ?_)
  have hP : va_P D vwCl (wWay cA a dy2 co2 ti2 ro2 u n B ch v nb G w T ++ wWay cA a2 dy2 co2 ti2 ro2 u2 n2 B2 ch2 v2 nb2 G2 w2 T2) H := hP
  have hD : va_D A (wWay cA a dy2 co2 ti2 ro2 u n B ch v nb G w T ++ wWay cA a2 dy2 co2 ti2 ro2 u2 n2 B2 ch2 v2 nb2 G2 w2 T2) := hD
  refine lv_aload_n hx hb dX3_copyFrom_32 rfl (lv_at hl 0 rfl) ?_
  refine va_get (D := D) (ci := 3) (v := .ref (a 1)) (C := RX3) (T := TX3) (N := 7) hx hb hts hwX3 hown hE.K hP 0 rfl rfl 4 (by decide) (hts (.fieldLink RX3 21 "SedgeBarges$Waterway" "beds" "LSedgeBarges$Beds;") (List.mem_of_getElem? (i := 5) rfl)) (fun _ h9 => h9) rfl dX3_copyFrom_33 ?_
  refine lv_aload_n hx hb dX3_copyFrom_36 rfl (lv_at hl 1 rfl) ?_
  refine va_get (D := D) (ci := 3) (v := .ref (a2 1)) (C := RX3) (T := TX3) (N := 7) hx hb hts hwX3 hown hE.K hP 19 rfl rfl 4 (by decide) (hts (.fieldLink RX3 21 "SedgeBarges$Waterway" "beds" "LSedgeBarges$Beds;") (List.mem_of_getElem? (i := 5) rfl)) (fun _ h9 => h9) rfl dX3_copyFrom_37 ?_
  have hPq : va_P D vwCl ([] ++ ((wBeds cA (a 1) u n B ch ++ wBeds cA (a2 1) u2 n2 B2 ch2) ++ ([(a 0, .inr (3, [.int dy2, .int co2, .int ti2, .int ro2, .ref (a 1), .ref (a 2), .ref (a 3)])), (a 2, .inr (0, [.int (nI nb), .ref (v 0), .ref (v 1), .ref (v 2), .ref (v 3), .ref (v 4)])), (v 0, I_ cA 3 (G 0)), (v 1, I_ cA 3 (G 1)), (v 2, I_ cA 3 (G 2)), (v 3, I_ cA 3 (G 3)), (v 4, I_ cA 3 (G 4)), (a 3, .inr (2, [.ref w])), (w, I_ cA 3 T), (a2 0, .inr (3, [.int dy2, .int co2, .int ti2, .int ro2, .ref (a2 1), .ref (a2 2), .ref (a2 3)])), (a2 2, .inr (0, [.int (nI nb2), .ref (v2 0), .ref (v2 1), .ref (v2 2), .ref (v2 3), .ref (v2 4)])), (v2 0, I_ cA 3 (G2 0)), (v2 1, I_ cA 3 (G2 1)), (v2 2, I_ cA 3 (G2 2)), (v2 3, I_ cA 3 (G2 3)), (v2 4, I_ cA 3 (G2 4)), (a2 3, .inr (2, [.ref w2])), (w2, I_ cA 3 T2)]))) _ := hP.sub [1, 2, 3, 4, 5, 6, 7, 8, 9, 10, 20, 21, 22, 23, 24, 25, 26, 27, 28, 29, 0, 11, 12, 13, 14, 15, 16, 17, 18, 19, 30, 31, 32, 33, 34, 35, 36, 37] rfl
  have hDq : va_D A ([] ++ ((wBeds cA (a 1) u n B ch ++ wBeds cA (a2 1) u2 n2 B2 ch2) ++ ([(a 0, .inr (3, [.int dy2, .int co2, .int ti2, .int ro2, .ref (a 1), .ref (a 2), .ref (a 3)])), (a 2, .inr (0, [.int (nI nb), .ref (v 0), .ref (v 1), .ref (v 2), .ref (v 3), .ref (v 4)])), (v 0, I_ cA 3 (G 0)), (v 1, I_ cA 3 (G 1)), (v 2, I_ cA 3 (G 2)), (v 3, I_ cA 3 (G 3)), (v 4, I_ cA 3 (G 4)), (a 3, .inr (2, [.ref w])), (w, I_ cA 3 T), (a2 0, .inr (3, [.int dy2, .int co2, .int ti2, .int ro2, .ref (a2 1), .ref (a2 2), .ref (a2 3)])), (a2 2, .inr (0, [.int (nI nb2), .ref (v2 0), .ref (v2 1), .ref (v2 2), .ref (v2 3), .ref (v2 4)])), (v2 0, I_ cA 3 (G2 0)), (v2 1, I_ cA 3 (G2 1)), (v2 2, I_ cA 3 (G2 2)), (v2 3, I_ cA 3 (G2 3)), (v2 4, I_ cA 3 (G2 4)), (a2 3, .inr (2, [.ref w2])), (w2, I_ cA 3 T2)]))) := hD.sub [1, 2, 3, 4, 5, 6, 7, 8, 9, 10, 20, 21, 22, 23, 24, 25, 26, 27, 28, 29, 0, 11, 12, 13, 14, 15, 16, 17, 18, 19, 30, 31, 32, 33, 34, 35, 36, 37] (by decide) rfl
  refine goV ([]) ([(a 0, .inr (3, [.int dy2, .int co2, .int ti2, .int ro2, .ref (a 1), .ref (a 2), .ref (a 3)])), (a 2, .inr (0, [.int (nI nb), .ref (v 0), .ref (v 1), .ref (v 2), .ref (v 3), .ref (v 4)])), (v 0, I_ cA 3 (G 0)), (v 1, I_ cA 3 (G 1)), (v 2, I_ cA 3 (G 2)), (v 3, I_ cA 3 (G 3)), (v 4, I_ cA 3 (G 4)), (a 3, .inr (2, [.ref w])), (w, I_ cA 3 T), (a2 0, .inr (3, [.int dy2, .int co2, .int ti2, .int ro2, .ref (a2 1), .ref (a2 2), .ref (a2 3)])), (a2 2, .inr (0, [.int (nI nb2), .ref (v2 0), .ref (v2 1), .ref (v2 2), .ref (v2 3), .ref (v2 4)])), (v2 0, I_ cA 3 (G2 0)), (v2 1, I_ cA 3 (G2 1)), (v2 2, I_ cA 3 (G2 2)), (v2 3, I_ cA 3 (G2 3)), (v2 4, I_ cA 3 (G2 4)), (a2 3, .inr (2, [.ref w2])), (w2, I_ cA 3 T2)]) hPq hDq hS hA (rnV (rest := []) (c_Beds_copyFrom sa tb D cA cL l (a 1) u n B ch (a2 1) u2 n2 B2 ch2 (show n2 ≤ 8 from by first | omega | assumption | decide)) ([]) ([(a 0, .inr (3, [.int dy2, .int co2, .int ti2, .int ro2, .ref (a 1), .ref (a 2), .ref (a 3)])), (a 2, .inr (0, [.int (nI nb), .ref (v 0), .ref (v 1), .ref (v 2), .ref (v 3), .ref (v 4)])), (v 0, I_ cA 3 (G 0)), (v 1, I_ cA 3 (G 1)), (v 2, I_ cA 3 (G 2)), (v 3, I_ cA 3 (G 3)), (v 4, I_ cA 3 (G 4)), (a 3, .inr (2, [.ref w])), (w, I_ cA 3 T), (a2 0, .inr (3, [.int dy2, .int co2, .int ti2, .int ro2, .ref (a2 1), .ref (a2 2), .ref (a2 3)])), (a2 2, .inr (0, [.int (nI nb2), .ref (v2 0), .ref (v2 1), .ref (v2 2), .ref (v2 3), .ref (v2 4)])), (v2 0, I_ cA 3 (G2 0)), (v2 1, I_ cA 3 (G2 1)), (v2 2, I_ cA 3 (G2 2)), (v2 3, I_ cA 3 (G2 3)), (v2 4, I_ cA 3 (G2 4)), (a2 3, .inr (2, [.ref w2])), (w2, I_ cA 3 T2)]) hPq hDq hS hA hE ⟨hx, hb, hml, hown, hts⟩ (cwV 1 hts gX3_copyFrom_X1_copyFrom rfl rfl rfl (by decide +kernel) ⟨(Nat.le_of_ble_eq_true rfl), (Nat.le_of_ble_eq_true rfl)⟩) 1 0 rfl rfl rfl rfl hl.1 rfl (Nat.le_of_ble_eq_true rfl) dX3_copyFrom_40 ⟨(Nat.le_of_ble_eq_true rfl), (Nat.le_of_ble_eq_true rfl)⟩) (fun _ => rfl) (fun u_40 H locs hw_40 hP hD hS => ?_)
  have hP : va_P D vwCl (wWay cA a dy2 co2 ti2 ro2 u n2 (cpB n2 B2 B) ch v nb G w T ++ wWay cA a2 dy2 co2 ti2 ro2 u2 n2 B2 ch2 v2 nb2 G2 w2 T2) H := hP.sub [20, 0, 1, 2, 3, 4, 5, 6, 7, 8, 9, 21, 22, 23, 24, 25, 26, 27, 28, 29, 10, 11, 12, 13, 14, 15, 16, 17, 18, 19, 30, 31, 32, 33, 34, 35, 36, 37] rfl
  have hD : va_D A (wWay cA a dy2 co2 ti2 ro2 u n2 (cpB n2 B2 B) ch v nb G w T ++ wWay cA a2 dy2 co2 ti2 ro2 u2 n2 B2 ch2 v2 nb2 G2 w2 T2) := hD.sub [20, 0, 1, 2, 3, 4, 5, 6, 7, 8, 9, 21, 22, 23, 24, 25, 26, 27, 28, 29, 10, 11, 12, 13, 14, 15, 16, 17, 18, 19, 30, 31, 32, 33, 34, 35, 36, 37] (by decide) rfl
  refine lv_aload_n hx hb dX3_copyFrom_43 rfl (lv_at hl 0 rfl) ?_
  refine va_get (D := D) (ci := 3) (v := .ref (a 2)) (C := RX3) (T := TX3) (N := 7) hx hb hts hwX3 hown hE.K hP 0 rfl rfl 5 (by decide) (hts (.fieldLink RX3 28 "SedgeBarges$Waterway" "barges" "LSedgeBarges$Barges;") (List.mem_of_getElem? (i := 6) rfl)) (fun _ h9 => h9) rfl dX3_copyFrom_44 ?_
  refine lv_aload_n hx hb dX3_copyFrom_47 rfl (lv_at hl 1 rfl) ?_
  refine va_get (D := D) (ci := 3) (v := .ref (a2 2)) (C := RX3) (T := TX3) (N := 7) hx hb hts hwX3 hown hE.K hP 19 rfl rfl 5 (by decide) (hts (.fieldLink RX3 28 "SedgeBarges$Waterway" "barges" "LSedgeBarges$Barges;") (List.mem_of_getElem? (i := 6) rfl)) (fun _ h9 => h9) rfl dX3_copyFrom_48 ?_
  have hPq : va_P D vwCl ([] ++ ((wBars cA (a 2) v nb G ++ wBars cA (a2 2) v2 nb2 G2) ++ ([(a 0, .inr (3, [.int dy2, .int co2, .int ti2, .int ro2, .ref (a 1), .ref (a 2), .ref (a 3)])), (a 1, .inr (1, [.int (nI n2), .ref (u 0), .ref (u 1), .ref (u 2), .ref (u 3), .ref (u 4), .ref (u 5), .ref (u 6), .ref (u 7), .ref (u 8)])), (u 0, I_ cA 8 ((cpB n2 B2 B) 0)), (u 1, I_ cA 8 ((cpB n2 B2 B) 1)), (u 2, I_ cA 8 ((cpB n2 B2 B) 2)), (u 3, I_ cA 8 ((cpB n2 B2 B) 3)), (u 4, I_ cA 8 ((cpB n2 B2 B) 4)), (u 5, I_ cA 8 ((cpB n2 B2 B) 5)), (u 6, I_ cA 8 ((cpB n2 B2 B) 6)), (u 7, I_ cA 8 ((cpB n2 B2 B) 7)), (u 8, I_ cA 8 ch), (a 3, .inr (2, [.ref w])), (w, I_ cA 3 T), (a2 0, .inr (3, [.int dy2, .int co2, .int ti2, .int ro2, .ref (a2 1), .ref (a2 2), .ref (a2 3)])), (a2 1, .inr (1, [.int (nI n2), .ref (u2 0), .ref (u2 1), .ref (u2 2), .ref (u2 3), .ref (u2 4), .ref (u2 5), .ref (u2 6), .ref (u2 7), .ref (u2 8)])), (u2 0, I_ cA 8 (B2 0)), (u2 1, I_ cA 8 (B2 1)), (u2 2, I_ cA 8 (B2 2)), (u2 3, I_ cA 8 (B2 3)), (u2 4, I_ cA 8 (B2 4)), (u2 5, I_ cA 8 (B2 5)), (u2 6, I_ cA 8 (B2 6)), (u2 7, I_ cA 8 (B2 7)), (u2 8, I_ cA 8 ch2), (a2 3, .inr (2, [.ref w2])), (w2, I_ cA 3 T2)]))) _ := hP.sub [11, 12, 13, 14, 15, 16, 30, 31, 32, 33, 34, 35, 0, 1, 2, 3, 4, 5, 6, 7, 8, 9, 10, 17, 18, 19, 20, 21, 22, 23, 24, 25, 26, 27, 28, 29, 36, 37] rfl
  have hDq : va_D A ([] ++ ((wBars cA (a 2) v nb G ++ wBars cA (a2 2) v2 nb2 G2) ++ ([(a 0, .inr (3, [.int dy2, .int co2, .int ti2, .int ro2, .ref (a 1), .ref (a 2), .ref (a 3)])), (a 1, .inr (1, [.int (nI n2), .ref (u 0), .ref (u 1), .ref (u 2), .ref (u 3), .ref (u 4), .ref (u 5), .ref (u 6), .ref (u 7), .ref (u 8)])), (u 0, I_ cA 8 ((cpB n2 B2 B) 0)), (u 1, I_ cA 8 ((cpB n2 B2 B) 1)), (u 2, I_ cA 8 ((cpB n2 B2 B) 2)), (u 3, I_ cA 8 ((cpB n2 B2 B) 3)), (u 4, I_ cA 8 ((cpB n2 B2 B) 4)), (u 5, I_ cA 8 ((cpB n2 B2 B) 5)), (u 6, I_ cA 8 ((cpB n2 B2 B) 6)), (u 7, I_ cA 8 ((cpB n2 B2 B) 7)), (u 8, I_ cA 8 ch), (a 3, .inr (2, [.ref w])), (w, I_ cA 3 T), (a2 0, .inr (3, [.int dy2, .int co2, .int ti2, .int ro2, .ref (a2 1), .ref (a2 2), .ref (a2 3)])), (a2 1, .inr (1, [.int (nI n2), .ref (u2 0), .ref (u2 1), .ref (u2 2), .ref (u2 3), .ref (u2 4), .ref (u2 5), .ref (u2 6), .ref (u2 7), .ref (u2 8)])), (u2 0, I_ cA 8 (B2 0)), (u2 1, I_ cA 8 (B2 1)), (u2 2, I_ cA 8 (B2 2)), (u2 3, I_ cA 8 (B2 3)), (u2 4, I_ cA 8 (B2 4)), (u2 5, I_ cA 8 (B2 5)), (u2 6, I_ cA 8 (B2 6)), (u2 7, I_ cA 8 (B2 7)), (u2 8, I_ cA 8 ch2), (a2 3, .inr (2, [.ref w2])), (w2, I_ cA 3 T2)]))) := hD.sub [11, 12, 13, 14, 15, 16, 30, 31, 32, 33, 34, 35, 0, 1, 2, 3, 4, 5, 6, 7, 8, 9, 10, 17, 18, 19, 20, 21, 22, 23, 24, 25, 26, 27, 28, 29, 36, 37] (by decide) rfl
  refine goV ([]) ([(a 0, .inr (3, [.int dy2, .int co2, .int ti2, .int ro2, .ref (a 1), .ref (a 2), .ref (a 3)])), (a 1, .inr (1, [.int (nI n2), .ref (u 0), .ref (u 1), .ref (u 2), .ref (u 3), .ref (u 4), .ref (u 5), .ref (u 6), .ref (u 7), .ref (u 8)])), (u 0, I_ cA 8 ((cpB n2 B2 B) 0)), (u 1, I_ cA 8 ((cpB n2 B2 B) 1)), (u 2, I_ cA 8 ((cpB n2 B2 B) 2)), (u 3, I_ cA 8 ((cpB n2 B2 B) 3)), (u 4, I_ cA 8 ((cpB n2 B2 B) 4)), (u 5, I_ cA 8 ((cpB n2 B2 B) 5)), (u 6, I_ cA 8 ((cpB n2 B2 B) 6)), (u 7, I_ cA 8 ((cpB n2 B2 B) 7)), (u 8, I_ cA 8 ch), (a 3, .inr (2, [.ref w])), (w, I_ cA 3 T), (a2 0, .inr (3, [.int dy2, .int co2, .int ti2, .int ro2, .ref (a2 1), .ref (a2 2), .ref (a2 3)])), (a2 1, .inr (1, [.int (nI n2), .ref (u2 0), .ref (u2 1), .ref (u2 2), .ref (u2 3), .ref (u2 4), .ref (u2 5), .ref (u2 6), .ref (u2 7), .ref (u2 8)])), (u2 0, I_ cA 8 (B2 0)), (u2 1, I_ cA 8 (B2 1)), (u2 2, I_ cA 8 (B2 2)), (u2 3, I_ cA 8 (B2 3)), (u2 4, I_ cA 8 (B2 4)), (u2 5, I_ cA 8 (B2 5)), (u2 6, I_ cA 8 (B2 6)), (u2 7, I_ cA 8 (B2 7)), (u2 8, I_ cA 8 ch2), (a2 3, .inr (2, [.ref w2])), (w2, I_ cA 3 T2)]) hPq hDq hS hA (rnV (rest := []) (c_Bars_copyFrom sa tb D cA cL l (a 2) v nb G (a2 2) v2 nb2 G2 (show nb2 ≤ 3 from by first | omega | assumption | decide)) ([]) ([(a 0, .inr (3, [.int dy2, .int co2, .int ti2, .int ro2, .ref (a 1), .ref (a 2), .ref (a 3)])), (a 1, .inr (1, [.int (nI n2), .ref (u 0), .ref (u 1), .ref (u 2), .ref (u 3), .ref (u 4), .ref (u 5), .ref (u 6), .ref (u 7), .ref (u 8)])), (u 0, I_ cA 8 ((cpB n2 B2 B) 0)), (u 1, I_ cA 8 ((cpB n2 B2 B) 1)), (u 2, I_ cA 8 ((cpB n2 B2 B) 2)), (u 3, I_ cA 8 ((cpB n2 B2 B) 3)), (u 4, I_ cA 8 ((cpB n2 B2 B) 4)), (u 5, I_ cA 8 ((cpB n2 B2 B) 5)), (u 6, I_ cA 8 ((cpB n2 B2 B) 6)), (u 7, I_ cA 8 ((cpB n2 B2 B) 7)), (u 8, I_ cA 8 ch), (a 3, .inr (2, [.ref w])), (w, I_ cA 3 T), (a2 0, .inr (3, [.int dy2, .int co2, .int ti2, .int ro2, .ref (a2 1), .ref (a2 2), .ref (a2 3)])), (a2 1, .inr (1, [.int (nI n2), .ref (u2 0), .ref (u2 1), .ref (u2 2), .ref (u2 3), .ref (u2 4), .ref (u2 5), .ref (u2 6), .ref (u2 7), .ref (u2 8)])), (u2 0, I_ cA 8 (B2 0)), (u2 1, I_ cA 8 (B2 1)), (u2 2, I_ cA 8 (B2 2)), (u2 3, I_ cA 8 (B2 3)), (u2 4, I_ cA 8 (B2 4)), (u2 5, I_ cA 8 (B2 5)), (u2 6, I_ cA 8 (B2 6)), (u2 7, I_ cA 8 (B2 7)), (u2 8, I_ cA 8 ch2), (a2 3, .inr (2, [.ref w2])), (w2, I_ cA 3 T2)]) hPq hDq hS hA hE ⟨hx, hb, hml, hown, hts⟩ (cwV 1 hts gX3_copyFrom_X0_copyFrom rfl rfl rfl (by decide +kernel) ⟨(Nat.le_of_ble_eq_true rfl), (Nat.le_of_ble_eq_true rfl)⟩) 0 0 rfl rfl rfl rfl hl.1 rfl (Nat.le_of_ble_eq_true rfl) dX3_copyFrom_51 ⟨(Nat.le_of_ble_eq_true rfl), (Nat.le_of_ble_eq_true rfl)⟩) (fun _ => rfl) (fun u_51 H locs hw_51 hP hD hS => ?_)
  have hP : va_P D vwCl (wWay cA a dy2 co2 ti2 ro2 u n2 (cpB n2 B2 B) ch v nb2 (cpG nb2 G2 G) w T ++ wWay cA a2 dy2 co2 ti2 ro2 u2 n2 B2 ch2 v2 nb2 G2 w2 T2) H := hP.sub [12, 13, 14, 15, 16, 17, 18, 19, 20, 21, 22, 0, 1, 2, 3, 4, 5, 23, 24, 25, 26, 27, 28, 29, 30, 31, 32, 33, 34, 35, 6, 7, 8, 9, 10, 11, 36, 37] rfl
  have hD : va_D A (wWay cA a dy2 co2 ti2 ro2 u n2 (cpB n2 B2 B) ch v nb2 (cpG nb2 G2 G) w T ++ wWay cA a2 dy2 co2 ti2 ro2 u2 n2 B2 ch2 v2 nb2 G2 w2 T2) := hD.sub [12, 13, 14, 15, 16, 17, 18, 19, 20, 21, 22, 0, 1, 2, 3, 4, 5, 23, 24, 25, 26, 27, 28, 29, 30, 31, 32, 33, 34, 35, 6, 7, 8, 9, 10, 11, 36, 37] (by decide) rfl
  refine lv_aload_n hx hb dX3_copyFrom_54 rfl (lv_at hl 0 rfl) ?_
  refine va_get (D := D) (ci := 3) (v := .ref (a 3)) (C := RX3) (T := TX3) (N := 7) hx hb hts hwX3 hown hE.K hP 0 rfl rfl 6 (by decide) (hts (.fieldLink RX3 35 "SedgeBarges$Waterway" "landings" "LSedgeBarges$Landings;") (List.mem_of_getElem? (i := 7) rfl)) (fun _ h9 => h9) rfl dX3_copyFrom_55 ?_
  refine lv_aload_n hx hb dX3_copyFrom_58 rfl (lv_at hl 1 rfl) ?_
  refine va_get (D := D) (ci := 3) (v := .ref (a2 3)) (C := RX3) (T := TX3) (N := 7) hx hb hts hwX3 hown hE.K hP 19 rfl rfl 6 (by decide) (hts (.fieldLink RX3 35 "SedgeBarges$Waterway" "landings" "LSedgeBarges$Landings;") (List.mem_of_getElem? (i := 7) rfl)) (fun _ h9 => h9) rfl dX3_copyFrom_59 ?_
  have hPq : va_P D vwCl ([] ++ ((wLand cA (a 3) w T ++ wLand cA (a2 3) w2 T2) ++ ([(a 0, .inr (3, [.int dy2, .int co2, .int ti2, .int ro2, .ref (a 1), .ref (a 2), .ref (a 3)])), (a 1, .inr (1, [.int (nI n2), .ref (u 0), .ref (u 1), .ref (u 2), .ref (u 3), .ref (u 4), .ref (u 5), .ref (u 6), .ref (u 7), .ref (u 8)])), (u 0, I_ cA 8 ((cpB n2 B2 B) 0)), (u 1, I_ cA 8 ((cpB n2 B2 B) 1)), (u 2, I_ cA 8 ((cpB n2 B2 B) 2)), (u 3, I_ cA 8 ((cpB n2 B2 B) 3)), (u 4, I_ cA 8 ((cpB n2 B2 B) 4)), (u 5, I_ cA 8 ((cpB n2 B2 B) 5)), (u 6, I_ cA 8 ((cpB n2 B2 B) 6)), (u 7, I_ cA 8 ((cpB n2 B2 B) 7)), (u 8, I_ cA 8 ch), (a 2, .inr (0, [.int (nI nb2), .ref (v 0), .ref (v 1), .ref (v 2), .ref (v 3), .ref (v 4)])), (v 0, I_ cA 3 ((cpG nb2 G2 G) 0)), (v 1, I_ cA 3 ((cpG nb2 G2 G) 1)), (v 2, I_ cA 3 ((cpG nb2 G2 G) 2)), (v 3, I_ cA 3 ((cpG nb2 G2 G) 3)), (v 4, I_ cA 3 ((cpG nb2 G2 G) 4)), (a2 0, .inr (3, [.int dy2, .int co2, .int ti2, .int ro2, .ref (a2 1), .ref (a2 2), .ref (a2 3)])), (a2 1, .inr (1, [.int (nI n2), .ref (u2 0), .ref (u2 1), .ref (u2 2), .ref (u2 3), .ref (u2 4), .ref (u2 5), .ref (u2 6), .ref (u2 7), .ref (u2 8)])), (u2 0, I_ cA 8 (B2 0)), (u2 1, I_ cA 8 (B2 1)), (u2 2, I_ cA 8 (B2 2)), (u2 3, I_ cA 8 (B2 3)), (u2 4, I_ cA 8 (B2 4)), (u2 5, I_ cA 8 (B2 5)), (u2 6, I_ cA 8 (B2 6)), (u2 7, I_ cA 8 (B2 7)), (u2 8, I_ cA 8 ch2), (a2 2, .inr (0, [.int (nI nb2), .ref (v2 0), .ref (v2 1), .ref (v2 2), .ref (v2 3), .ref (v2 4)])), (v2 0, I_ cA 3 (G2 0)), (v2 1, I_ cA 3 (G2 1)), (v2 2, I_ cA 3 (G2 2)), (v2 3, I_ cA 3 (G2 3)), (v2 4, I_ cA 3 (G2 4))]))) _ := hP.sub [17, 18, 36, 37, 0, 1, 2, 3, 4, 5, 6, 7, 8, 9, 10, 11, 12, 13, 14, 15, 16, 19, 20, 21, 22, 23, 24, 25, 26, 27, 28, 29, 30, 31, 32, 33, 34, 35] rfl
  have hDq : va_D A ([] ++ ((wLand cA (a 3) w T ++ wLand cA (a2 3) w2 T2) ++ ([(a 0, .inr (3, [.int dy2, .int co2, .int ti2, .int ro2, .ref (a 1), .ref (a 2), .ref (a 3)])), (a 1, .inr (1, [.int (nI n2), .ref (u 0), .ref (u 1), .ref (u 2), .ref (u 3), .ref (u 4), .ref (u 5), .ref (u 6), .ref (u 7), .ref (u 8)])), (u 0, I_ cA 8 ((cpB n2 B2 B) 0)), (u 1, I_ cA 8 ((cpB n2 B2 B) 1)), (u 2, I_ cA 8 ((cpB n2 B2 B) 2)), (u 3, I_ cA 8 ((cpB n2 B2 B) 3)), (u 4, I_ cA 8 ((cpB n2 B2 B) 4)), (u 5, I_ cA 8 ((cpB n2 B2 B) 5)), (u 6, I_ cA 8 ((cpB n2 B2 B) 6)), (u 7, I_ cA 8 ((cpB n2 B2 B) 7)), (u 8, I_ cA 8 ch), (a 2, .inr (0, [.int (nI nb2), .ref (v 0), .ref (v 1), .ref (v 2), .ref (v 3), .ref (v 4)])), (v 0, I_ cA 3 ((cpG nb2 G2 G) 0)), (v 1, I_ cA 3 ((cpG nb2 G2 G) 1)), (v 2, I_ cA 3 ((cpG nb2 G2 G) 2)), (v 3, I_ cA 3 ((cpG nb2 G2 G) 3)), (v 4, I_ cA 3 ((cpG nb2 G2 G) 4)), (a2 0, .inr (3, [.int dy2, .int co2, .int ti2, .int ro2, .ref (a2 1), .ref (a2 2), .ref (a2 3)])), (a2 1, .inr (1, [.int (nI n2), .ref (u2 0), .ref (u2 1), .ref (u2 2), .ref (u2 3), .ref (u2 4), .ref (u2 5), .ref (u2 6), .ref (u2 7), .ref (u2 8)])), (u2 0, I_ cA 8 (B2 0)), (u2 1, I_ cA 8 (B2 1)), (u2 2, I_ cA 8 (B2 2)), (u2 3, I_ cA 8 (B2 3)), (u2 4, I_ cA 8 (B2 4)), (u2 5, I_ cA 8 (B2 5)), (u2 6, I_ cA 8 (B2 6)), (u2 7, I_ cA 8 (B2 7)), (u2 8, I_ cA 8 ch2), (a2 2, .inr (0, [.int (nI nb2), .ref (v2 0), .ref (v2 1), .ref (v2 2), .ref (v2 3), .ref (v2 4)])), (v2 0, I_ cA 3 (G2 0)), (v2 1, I_ cA 3 (G2 1)), (v2 2, I_ cA 3 (G2 2)), (v2 3, I_ cA 3 (G2 3)), (v2 4, I_ cA 3 (G2 4))]))) := hD.sub [17, 18, 36, 37, 0, 1, 2, 3, 4, 5, 6, 7, 8, 9, 10, 11, 12, 13, 14, 15, 16, 19, 20, 21, 22, 23, 24, 25, 26, 27, 28, 29, 30, 31, 32, 33, 34, 35] (by decide) rfl
  refine goV ([]) ([(a 0, .inr (3, [.int dy2, .int co2, .int ti2, .int ro2, .ref (a 1), .ref (a 2), .ref (a 3)])), (a 1, .inr (1, [.int (nI n2), .ref (u 0), .ref (u 1), .ref (u 2), .ref (u 3), .ref (u 4), .ref (u 5), .ref (u 6), .ref (u 7), .ref (u 8)])), (u 0, I_ cA 8 ((cpB n2 B2 B) 0)), (u 1, I_ cA 8 ((cpB n2 B2 B) 1)), (u 2, I_ cA 8 ((cpB n2 B2 B) 2)), (u 3, I_ cA 8 ((cpB n2 B2 B) 3)), (u 4, I_ cA 8 ((cpB n2 B2 B) 4)), (u 5, I_ cA 8 ((cpB n2 B2 B) 5)), (u 6, I_ cA 8 ((cpB n2 B2 B) 6)), (u 7, I_ cA 8 ((cpB n2 B2 B) 7)), (u 8, I_ cA 8 ch), (a 2, .inr (0, [.int (nI nb2), .ref (v 0), .ref (v 1), .ref (v 2), .ref (v 3), .ref (v 4)])), (v 0, I_ cA 3 ((cpG nb2 G2 G) 0)), (v 1, I_ cA 3 ((cpG nb2 G2 G) 1)), (v 2, I_ cA 3 ((cpG nb2 G2 G) 2)), (v 3, I_ cA 3 ((cpG nb2 G2 G) 3)), (v 4, I_ cA 3 ((cpG nb2 G2 G) 4)), (a2 0, .inr (3, [.int dy2, .int co2, .int ti2, .int ro2, .ref (a2 1), .ref (a2 2), .ref (a2 3)])), (a2 1, .inr (1, [.int (nI n2), .ref (u2 0), .ref (u2 1), .ref (u2 2), .ref (u2 3), .ref (u2 4), .ref (u2 5), .ref (u2 6), .ref (u2 7), .ref (u2 8)])), (u2 0, I_ cA 8 (B2 0)), (u2 1, I_ cA 8 (B2 1)), (u2 2, I_ cA 8 (B2 2)), (u2 3, I_ cA 8 (B2 3)), (u2 4, I_ cA 8 (B2 4)), (u2 5, I_ cA 8 (B2 5)), (u2 6, I_ cA 8 (B2 6)), (u2 7, I_ cA 8 (B2 7)), (u2 8, I_ cA 8 ch2), (a2 2, .inr (0, [.int (nI nb2), .ref (v2 0), .ref (v2 1), .ref (v2 2), .ref (v2 3), .ref (v2 4)])), (v2 0, I_ cA 3 (G2 0)), (v2 1, I_ cA 3 (G2 1)), (v2 2, I_ cA 3 (G2 2)), (v2 3, I_ cA 3 (G2 3)), (v2 4, I_ cA 3 (G2 4))]) hPq hDq hS hA (rnV (rest := []) (c_Land_copyFrom sa tb D cA cL l (a 3) w T (a2 3) w2 T2 ) ([]) ([(a 0, .inr (3, [.int dy2, .int co2, .int ti2, .int ro2, .ref (a 1), .ref (a 2), .ref (a 3)])), (a 1, .inr (1, [.int (nI n2), .ref (u 0), .ref (u 1), .ref (u 2), .ref (u 3), .ref (u 4), .ref (u 5), .ref (u 6), .ref (u 7), .ref (u 8)])), (u 0, I_ cA 8 ((cpB n2 B2 B) 0)), (u 1, I_ cA 8 ((cpB n2 B2 B) 1)), (u 2, I_ cA 8 ((cpB n2 B2 B) 2)), (u 3, I_ cA 8 ((cpB n2 B2 B) 3)), (u 4, I_ cA 8 ((cpB n2 B2 B) 4)), (u 5, I_ cA 8 ((cpB n2 B2 B) 5)), (u 6, I_ cA 8 ((cpB n2 B2 B) 6)), (u 7, I_ cA 8 ((cpB n2 B2 B) 7)), (u 8, I_ cA 8 ch), (a 2, .inr (0, [.int (nI nb2), .ref (v 0), .ref (v 1), .ref (v 2), .ref (v 3), .ref (v 4)])), (v 0, I_ cA 3 ((cpG nb2 G2 G) 0)), (v 1, I_ cA 3 ((cpG nb2 G2 G) 1)), (v 2, I_ cA 3 ((cpG nb2 G2 G) 2)), (v 3, I_ cA 3 ((cpG nb2 G2 G) 3)), (v 4, I_ cA 3 ((cpG nb2 G2 G) 4)), (a2 0, .inr (3, [.int dy2, .int co2, .int ti2, .int ro2, .ref (a2 1), .ref (a2 2), .ref (a2 3)])), (a2 1, .inr (1, [.int (nI n2), .ref (u2 0), .ref (u2 1), .ref (u2 2), .ref (u2 3), .ref (u2 4), .ref (u2 5), .ref (u2 6), .ref (u2 7), .ref (u2 8)])), (u2 0, I_ cA 8 (B2 0)), (u2 1, I_ cA 8 (B2 1)), (u2 2, I_ cA 8 (B2 2)), (u2 3, I_ cA 8 (B2 3)), (u2 4, I_ cA 8 (B2 4)), (u2 5, I_ cA 8 (B2 5)), (u2 6, I_ cA 8 (B2 6)), (u2 7, I_ cA 8 (B2 7)), (u2 8, I_ cA 8 ch2), (a2 2, .inr (0, [.int (nI nb2), .ref (v2 0), .ref (v2 1), .ref (v2 2), .ref (v2 3), .ref (v2 4)])), (v2 0, I_ cA 3 (G2 0)), (v2 1, I_ cA 3 (G2 1)), (v2 2, I_ cA 3 (G2 2)), (v2 3, I_ cA 3 (G2 3)), (v2 4, I_ cA 3 (G2 4))]) hPq hDq hS hA hE ⟨hx, hb, hml, hown, hts⟩ (cwV 1 hts gX3_copyFrom_X2_copyFrom rfl rfl rfl (by decide +kernel) ⟨(Nat.le_of_ble_eq_true rfl), (Nat.le_of_ble_eq_true rfl)⟩) 2 0 rfl rfl rfl rfl hl.1 rfl (Nat.le_of_ble_eq_true rfl) dX3_copyFrom_62 ⟨(Nat.le_of_ble_eq_true rfl), (Nat.le_of_ble_eq_true rfl)⟩) (fun _ => rfl) (fun u_62 H locs hw_62 hP hD hS => ?_)
  have hP : va_P D vwCl (wWay cA a dy2 co2 ti2 ro2 u n2 (cpB n2 B2 B) ch v nb2 (cpG nb2 G2 G) w (cpT T2 T) ++ wWay cA a2 dy2 co2 ti2 ro2 u2 n2 B2 ch2 v2 nb2 G2 w2 T2) H := hP.sub [4, 5, 6, 7, 8, 9, 10, 11, 12, 13, 14, 15, 16, 17, 18, 19, 20, 0, 1, 21, 22, 23, 24, 25, 26, 27, 28, 29, 30, 31, 32, 33, 34, 35, 36, 37, 2, 3] rfl
  have hD : va_D A (wWay cA a dy2 co2 ti2 ro2 u n2 (cpB n2 B2 B) ch v nb2 (cpG nb2 G2 G) w (cpT T2 T) ++ wWay cA a2 dy2 co2 ti2 ro2 u2 n2 B2 ch2 v2 nb2 G2 w2 T2) := hD.sub [4, 5, 6, 7, 8, 9, 10, 11, 12, 13, 14, 15, 16, 17, 18, 19, 20, 0, 1, 21, 22, 23, 24, 25, 26, 27, 28, 29, 30, 31, 32, 33, 34, 35, 36, 37, 2, 3] (by decide) rfl
  exact enV () hx hb hr hlocks hS hP (trivial) dX3_copyFrom_65
set_option maxRecDepth 100000 in
set_option maxHeartbeats 4000000 in
theorem c_Way_tell (sa : Nat × Nat × (Nat → Int32)) (tb : Nat → Nat) (D : va_G) (cA cL : ClassId) (l : Launch) (a : Nat → Nat) (dy : Int32) (co : Int32) (ti : Int32) (ro : Int32) (u : Nat → Nat) (n : Nat) (B : Nat → Nat → Int32) (ch : Nat → Int32) (v : Nat → Nat) (nb : Nat) (G : Nat → Nat → Int32) (w : Nat) (T : Nat → Int32) (qw : Nat) (hn : n ≤ 8) (hnb : nb ≤ 3) (hw : qw < 11) : KM sa tb D cA cL l yX3_tell wsX3_tell ({ frames := 2, cells := 0, slots := 0, locals := 45 }) [.ref (a 0), .int (nI qw)] (wWay cA a dy co ti ro u n B ch v nb G w T) (qI D (fun (r : Int32) (_ : Unit) => r = tellW dy co ti ro n B nb G T qw) (fun _ => wWay cA a dy co ti ro u n B ch v nb G w T)) := by
  refine KM.of (cc := cX3_tell) (maxL := 2) (ret := some .int) (by decide) rfl (Nat.le_of_ble_eq_true rfl) ?_
  intro pg e s m args below meth c A hx hb hr hml hlocks hts hown hS hA hE hP hD ls hl
  have hown : s.vm.findClass RX3 = some m.cls := hown
  have hl : lv_has ls 2 [(0, .ref (a 0)), (1, .int (nI qw))] := hl
  have hwX0 : ∀ w ∈ wsX00, w ∈ wsX3_tell := (fun _ h => List.mem_cons_of_mem _ (List.mem_append_left _ (List.mem_append_right _ h)))
  have hwX1 : ∀ w ∈ wsX10, w ∈ wsX3_tell := (fun _ h => List.mem_cons_of_mem _ (List.mem_append_left _ (List.mem_append_left _ (List.mem_append_right _ h))))
  have hwX3 : ∀ w ∈ wsX30, w ∈ wsX3_tell := (fun _ h => List.mem_cons_of_mem _ (List.mem_append_left _ (List.mem_append_left _ (List.mem_append_left _ (List.mem_append_right _ h)))))
  have hw9 : qw = 0 ∨ qw = 1 ∨ qw = 2 ∨ qw = 3 ∨ qw = 4 ∨ qw = 5 ∨ qw = 6 ∨ qw = 7 ∨ qw = 8 ∨ qw = 9 ∨ qw = 10 := by omega
  rcases hw9 with rfl | rfl | rfl | rfl | rfl | rfl | rfl | rfl | rfl | rfl | rfl
  · have hl : lv_has ls 2 [(0, .ref (a 0)), (1, .int 0)] := hl
    refine lv_iload_n hx hb dX3_tell_0 rfl (lv_at hl 1 rfl) ?_
    refine lv_tableIn (tgt := 56) hx hb dX3_tell_1 (by decide) (by decide) (off := 55) (by decide) (by decide) ?_
    refine lv_aload_n hx hb dX3_tell_56 rfl (lv_at hl 0 rfl) ?_
    refine va_get (D := D) (ci := 3) (v := .int dy) (C := RX3) (T := TX3) (N := 7) hx hb hts hwX3 hown hE.K hP 0 rfl rfl 0 (by decide) (hts (.fieldLink RX3 39 "SedgeBarges$Waterway" "day" "I") (List.mem_of_getElem? (i := 1) rfl)) (fun _ h9 => h9) rfl dX3_tell_57 ?_
    exact enI () hx hb hr hlocks hS hP (rfl) dX3_tell_60
  · have hl : lv_has ls 2 [(0, .ref (a 0)), (1, .int 1)] := hl
    refine lv_iload_n hx hb dX3_tell_0 rfl (lv_at hl 1 rfl) ?_
    refine lv_tableIn (tgt := 61) hx hb dX3_tell_1 (by decide) (by decide) (off := 60) (by decide) (by decide) ?_
    refine lv_aload_n hx hb dX3_tell_61 rfl (lv_at hl 0 rfl) ?_
    refine va_get (D := D) (ci := 3) (v := .int co) (C := RX3) (T := TX3) (N := 7) hx hb hts hwX3 hown hE.K hP 0 rfl rfl 1 (by decide) (hts (.fieldLink RX3 9 "SedgeBarges$Waterway" "coins" "I") (List.mem_of_getElem? (i := 2) rfl)) (fun _ h9 => h9) rfl dX3_tell_62 ?_
    exact enI () hx hb hr hlocks hS hP (rfl) dX3_tell_65
  · have hl : lv_has ls 2 [(0, .ref (a 0)), (1, .int 2)] := hl
    refine lv_iload_n hx hb dX3_tell_0 rfl (lv_at hl 1 rfl) ?_
    refine lv_tableIn (tgt := 66) hx hb dX3_tell_1 (by decide) (by decide) (off := 65) (by decide) (by decide) ?_
    refine lv_aload_n hx hb dX3_tell_66 rfl (lv_at hl 0 rfl) ?_
    refine va_get (D := D) (ci := 3) (v := .int ti) (C := RX3) (T := TX3) (N := 7) hx hb hts hwX3 hown hE.K hP 0 rfl rfl 2 (by decide) (hts (.fieldLink RX3 15 "SedgeBarges$Waterway" "ties" "I") (List.mem_of_getElem? (i := 3) rfl)) (fun _ h9 => h9) rfl dX3_tell_67 ?_
    exact enI () hx hb hr hlocks hS hP (rfl) dX3_tell_70
  · have hl : lv_has ls 2 [(0, .ref (a 0)), (1, .int 3)] := hl
    refine lv_iload_n hx hb dX3_tell_0 rfl (lv_at hl 1 rfl) ?_
    refine lv_tableIn (tgt := 71) hx hb dX3_tell_1 (by decide) (by decide) (off := 70) (by decide) (by decide) ?_
    refine lv_aload_n hx hb dX3_tell_71 rfl (lv_at hl 0 rfl) ?_
    refine va_get (D := D) (ci := 3) (v := .ref (a 1)) (C := RX3) (T := TX3) (N := 7) hx hb hts hwX3 hown hE.K hP 0 rfl rfl 4 (by decide) (hts (.fieldLink RX3 21 "SedgeBarges$Waterway" "beds" "LSedgeBarges$Beds;") (List.mem_of_getElem? (i := 4) rfl)) (fun _ h9 => h9) rfl dX3_tell_72 ?_
    refine va_getN (D := D) (ci := 1) (v := .int (nI n)) (C := RX1) (T := TX1) (N := 10) hx hb hts hwX1 hown hE.K hP 1 rfl rfl 0 (by decide) (nf_12 hE) (fun _ h9 => h9) rfl dX3_tell_75 ?_
    exact enI () hx hb hr hlocks hS hP (rfl) dX3_tell_78
  · have hl : lv_has ls 2 [(0, .ref (a 0)), (1, .int 4)] := hl
    refine lv_iload_n hx hb dX3_tell_0 rfl (lv_at hl 1 rfl) ?_
    refine lv_tableIn (tgt := 79) hx hb dX3_tell_1 (by decide) (by decide) (off := 78) (by decide) (by decide) ?_
    refine lv_aload_n hx hb dX3_tell_79 rfl (lv_at hl 0 rfl) ?_
    refine va_get (D := D) (ci := 3) (v := .ref (a 1)) (C := RX3) (T := TX3) (N := 7) hx hb hts hwX3 hown hE.K hP 0 rfl rfl 4 (by decide) (hts (.fieldLink RX3 21 "SedgeBarges$Waterway" "beds" "LSedgeBarges$Beds;") (List.mem_of_getElem? (i := 4) rfl)) (fun _ h9 => h9) rfl dX3_tell_80 ?_
    refine goI ([oWay a dy co ti ro]) (wBars cA (a 2) v nb G ++ (wLand cA (a 3) w T)) hP hD hS hA (rnV (rest := []) (c_Beds_givenByAll sa tb D cA cL l (a 1) u n B ch (show n ≤ 8 from by first | omega | assumption | decide)) ([oWay a dy co ti ro]) (wBars cA (a 2) v nb G ++ (wLand cA (a 3) w T)) hP hD hS hA hE ⟨hx, hb, hml, hown, hts⟩ (cwV 0 hts gX3_tell_X1_givenByAll rfl rfl rfl (by decide +kernel) ⟨(Nat.le_of_ble_eq_true rfl), (Nat.le_of_ble_eq_true rfl)⟩) 1 0 rfl rfl rfl rfl hl.1 rfl (Nat.le_of_ble_eq_true rfl) dX3_tell_83 ⟨(Nat.le_of_ble_eq_true rfl), (Nat.le_of_ble_eq_true rfl)⟩) (fun _ => rfl) (fun r_83 u_83 H locs hw_83 hP hD hS => ?_)
    have hP : va_P D vwCl (wWay cA a dy co ti ro u n B ch v nb G w T) H := hP
    have hD : va_D A (wWay cA a dy co ti ro u n B ch v nb G w T) := hD
    obtain rfl : r_83 = sumF (given B) n := hw_83
    exact enI () hx hb hr hlocks hS hP (rfl) dX3_tell_86
  · have hl : lv_has ls 2 [(0, .ref (a 0)), (1, .int 5)] := hl
    refine lv_iload_n hx hb dX3_tell_0 rfl (lv_at hl 1 rfl) ?_
    refine lv_tableIn (tgt := 87) hx hb dX3_tell_1 (by decide) (by decide) (off := 86) (by decide) (by decide) ?_
    refine lv_aload_n hx hb dX3_tell_87 rfl (lv_at hl 0 rfl) ?_
    refine va_get (D := D) (ci := 3) (v := .ref (a 1)) (C := RX3) (T := TX3) (N := 7) hx hb hts hwX3 hown hE.K hP 0 rfl rfl 4 (by decide) (hts (.fieldLink RX3 21 "SedgeBarges$Waterway" "beds" "LSedgeBarges$Beds;") (List.mem_of_getElem? (i := 4) rfl)) (fun _ h9 => h9) rfl dX3_tell_88 ?_
    refine goI ([oWay a dy co ti ro]) (wBars cA (a 2) v nb G ++ (wLand cA (a 3) w T)) hP hD hS hA (rnV (rest := []) (c_Beds_untiedOfAll sa tb D cA cL l (a 1) u n B ch (show n ≤ 8 from by first | omega | assumption | decide)) ([oWay a dy co ti ro]) (wBars cA (a 2) v nb G ++ (wLand cA (a 3) w T)) hP hD hS hA hE ⟨hx, hb, hml, hown, hts⟩ (cwV 0 hts gX3_tell_X1_untiedOfAll rfl rfl rfl (by decide +kernel) ⟨(Nat.le_of_ble_eq_true rfl), (Nat.le_of_ble_eq_true rfl)⟩) 1 0 rfl rfl rfl rfl hl.1 rfl (Nat.le_of_ble_eq_true rfl) dX3_tell_91 ⟨(Nat.le_of_ble_eq_true rfl), (Nat.le_of_ble_eq_true rfl)⟩) (fun _ => rfl) (fun r_91 u_91 H locs hw_91 hP hD hS => ?_)
    have hP : va_P D vwCl (wWay cA a dy co ti ro u n B ch v nb G w T) H := hP
    have hD : va_D A (wWay cA a dy co ti ro u n B ch v nb G w T) := hD
    obtain rfl : r_91 = sumF (untF B) n := hw_91
    exact enI () hx hb hr hlocks hS hP (rfl) dX3_tell_94
  · have hl : lv_has ls 2 [(0, .ref (a 0)), (1, .int 6)] := hl
    refine lv_iload_n hx hb dX3_tell_0 rfl (lv_at hl 1 rfl) ?_
    refine lv_tableIn (tgt := 95) hx hb dX3_tell_1 (by decide) (by decide) (off := 94) (by decide) (by decide) ?_
    refine lv_aload_n hx hb dX3_tell_95 rfl (lv_at hl 0 rfl) ?_
    refine va_get (D := D) (ci := 3) (v := .ref (a 1)) (C := RX3) (T := TX3) (N := 7) hx hb hts hwX3 hown hE.K hP 0 rfl rfl 4 (by decide) (hts (.fieldLink RX3 21 "SedgeBarges$Waterway" "beds" "LSedgeBarges$Beds;") (List.mem_of_getElem? (i := 4) rfl)) (fun _ h9 => h9) rfl dX3_tell_96 ?_
    refine goI ([oWay a dy co ti ro]) (wBars cA (a 2) v nb G ++ (wLand cA (a 3) w T)) hP hD hS hA (rnV (rest := []) (c_Beds_tiedOfAll sa tb D cA cL l (a 1) u n B ch (show n ≤ 8 from by first | omega | assumption | decide)) ([oWay a dy co ti ro]) (wBars cA (a 2) v nb G ++ (wLand cA (a 3) w T)) hP hD hS hA hE ⟨hx, hb, hml, hown, hts⟩ (cwV 0 hts gX3_tell_X1_tiedOfAll rfl rfl rfl (by decide +kernel) ⟨(Nat.le_of_ble_eq_true rfl), (Nat.le_of_ble_eq_true rfl)⟩) 1 0 rfl rfl rfl rfl hl.1 rfl (Nat.le_of_ble_eq_true rfl) dX3_tell_99 ⟨(Nat.le_of_ble_eq_true rfl), (Nat.le_of_ble_eq_true rfl)⟩) (fun _ => rfl) (fun r_99 u_99 H locs hw_99 hP hD hS => ?_)
    have hP : va_P D vwCl (wWay cA a dy co ti ro u n B ch v nb G w T) H := hP
    have hD : va_D A (wWay cA a dy co ti ro u n B ch v nb G w T) := hD
    obtain rfl : r_99 = sumF (tiedF B) n := hw_99
    exact enI () hx hb hr hlocks hS hP (rfl) dX3_tell_102
  · have hl : lv_has ls 2 [(0, .ref (a 0)), (1, .int 7)] := hl
    refine lv_iload_n hx hb dX3_tell_0 rfl (lv_at hl 1 rfl) ?_
    refine lv_tableIn (tgt := 103) hx hb dX3_tell_1 (by decide) (by decide) (off := 102) (by decide) (by decide) ?_
    refine lv_aload_n hx hb dX3_tell_103 rfl (lv_at hl 0 rfl) ?_
    refine va_get (D := D) (ci := 3) (v := .ref (a 2)) (C := RX3) (T := TX3) (N := 7) hx hb hts hwX3 hown hE.K hP 0 rfl rfl 5 (by decide) (hts (.fieldLink RX3 28 "SedgeBarges$Waterway" "barges" "LSedgeBarges$Barges;") (List.mem_of_getElem? (i := 5) rfl)) (fun _ h9 => h9) rfl dX3_tell_104 ?_
    refine va_getN (D := D) (ci := 0) (v := .int (nI nb)) (C := RX0) (T := TX0) (N := 6) hx hb hts hwX0 hown hE.K hP 11 rfl rfl 0 (by decide) (nf_13 hE) (fun _ h9 => h9) rfl dX3_tell_107 ?_
    exact enI () hx hb hr hlocks hS hP (rfl) dX3_tell_110
  · have hl : lv_has ls 2 [(0, .ref (a 0)), (1, .int 8)] := hl
    refine lv_iload_n hx hb dX3_tell_0 rfl (lv_at hl 1 rfl) ?_
    refine lv_tableIn (tgt := 111) hx hb dX3_tell_1 (by decide) (by decide) (off := 110) (by decide) (by decide) ?_
    refine lv_aload_n hx hb dX3_tell_111 rfl (lv_at hl 0 rfl) ?_
    refine va_get (D := D) (ci := 3) (v := .ref (a 2)) (C := RX3) (T := TX3) (N := 7) hx hb hts hwX3 hown hE.K hP 0 rfl rfl 5 (by decide) (hts (.fieldLink RX3 28 "SedgeBarges$Waterway" "barges" "LSedgeBarges$Barges;") (List.mem_of_getElem? (i := 5) rfl)) (fun _ h9 => h9) rfl dX3_tell_112 ?_
    refine goI ([oWay a dy co ti ro] ++ wBeds cA (a 1) u n B ch) (wLand cA (a 3) w T) hP hD hS hA (rnV (rest := []) (c_Bars_aboardAll sa tb D cA cL l (a 2) v nb G (show nb ≤ 3 from by first | omega | assumption | decide)) ([oWay a dy co ti ro] ++ wBeds cA (a 1) u n B ch) (wLand cA (a 3) w T) hP hD hS hA hE ⟨hx, hb, hml, hown, hts⟩ (cwV 0 hts gX3_tell_X0_aboardAll rfl rfl rfl (by decide +kernel) ⟨(Nat.le_of_ble_eq_true rfl), (Nat.le_of_ble_eq_true rfl)⟩) 0 0 rfl rfl rfl rfl hl.1 rfl (Nat.le_of_ble_eq_true rfl) dX3_tell_115 ⟨(Nat.le_of_ble_eq_true rfl), (Nat.le_of_ble_eq_true rfl)⟩) (fun _ => rfl) (fun r_115 u_115 H locs hw_115 hP hD hS => ?_)
    have hP : va_P D vwCl (wWay cA a dy co ti ro u n B ch v nb G w T) H := hP
    have hD : va_D A (wWay cA a dy co ti ro u n B ch v nb G w T) := hD
    obtain rfl : r_115 = sumF (abd G) nb := hw_115
    exact enI () hx hb hr hlocks hS hP (rfl) dX3_tell_118
  · have hl : lv_has ls 2 [(0, .ref (a 0)), (1, .int 9)] := hl
    refine lv_iload_n hx hb dX3_tell_0 rfl (lv_at hl 1 rfl) ?_
    refine lv_tableIn (tgt := 119) hx hb dX3_tell_1 (by decide) (by decide) (off := 118) (by decide) (by decide) ?_
    refine lv_aload_n hx hb dX3_tell_119 rfl (lv_at hl 0 rfl) ?_
    refine va_get (D := D) (ci := 3) (v := .ref (a 3)) (C := RX3) (T := TX3) (N := 7) hx hb hts hwX3 hown hE.K hP 0 rfl rfl 6 (by decide) (hts (.fieldLink RX3 35 "SedgeBarges$Waterway" "landings" "LSedgeBarges$Landings;") (List.mem_of_getElem? (i := 6) rfl)) (fun _ h9 => h9) rfl dX3_tell_120 ?_
    refine goI ([oWay a dy co ti ro] ++ (wBeds cA (a 1) u n B ch ++ wBars cA (a 2) v nb G)) ([]) hP hD hS hA (rnV (rest := []) (c_Land_storeOfAll sa tb D cA cL l (a 3) w T ) ([oWay a dy co ti ro] ++ (wBeds cA (a 1) u n B ch ++ wBars cA (a 2) v nb G)) ([]) hP hD hS hA hE ⟨hx, hb, hml, hown, hts⟩ (cwV 0 hts gX3_tell_X2_storeOfAll rfl rfl rfl (by decide +kernel) ⟨(Nat.le_of_ble_eq_true rfl), (Nat.le_of_ble_eq_true rfl)⟩) 2 0 rfl rfl rfl rfl hl.1 rfl (Nat.le_of_ble_eq_true rfl) dX3_tell_123 ⟨(Nat.le_of_ble_eq_true rfl), (Nat.le_of_ble_eq_true rfl)⟩) (fun _ => rfl) (fun r_123 u_123 H locs hw_123 hP hD hS => ?_)
    have hP : va_P D vwCl (wWay cA a dy co ti ro u n B ch v nb G w T) H := hP
    have hD : va_D A (wWay cA a dy co ti ro u n B ch v nb G w T) := hD
    obtain rfl : r_123 = sumF T 3 := hw_123
    exact enI () hx hb hr hlocks hS hP (rfl) dX3_tell_126
  · have hl : lv_has ls 2 [(0, .ref (a 0)), (1, .int 10)] := hl
    refine lv_iload_n hx hb dX3_tell_0 rfl (lv_at hl 1 rfl) ?_
    refine lv_tableOut (tgt := 127) hx hb dX3_tell_1 (by decide) (by decide) ?_
    refine lv_aload_n hx hb dX3_tell_127 rfl (lv_at hl 0 rfl) ?_
    refine va_get (D := D) (ci := 3) (v := .int ro) (C := RX3) (T := TX3) (N := 7) hx hb hts hwX3 hown hE.K hP 0 rfl rfl 3 (by decide) (hts (.fieldLink RX3 42 "SedgeBarges$Waterway" "rotted" "I") (List.mem_of_getElem? (i := 7) rfl)) (fun _ h9 => h9) rfl dX3_tell_128 ?_
    exact enI () hx hb hr hlocks hS hP (rfl) dX3_tell_131
