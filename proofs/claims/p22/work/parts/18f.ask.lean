set_option maxRecDepth 100000 in
set_option maxHeartbeats 4000000 in
theorem J_ask {p : Program} {l : Launch} {e : Env} {s : State} {m : MethodId} {below : List Frame} {meth : Method} {c : Code} {Q : State → Prop} {sa : Nat × Nat × (Nat → Int32)} {tb : Nat → Nat} {D : va_G} {cA cL : ClassId} {A : Nat → Prop} {x i : Nat} {cu dy co ti ro : Int32} {B G : Nat → Nat → Int32} {T : Nat → Int32}  (C : LawC p s m c sa tb D cA cL A) (hi : i < 16) (hG : GS i cu co ti ro B G T) (K : ∀ (xv : Int32) (kb : Nat) (sn : Int32), kb < 4 → sn = fsee dy ro B G T → KT p l e s m below meth c Q sa D cA A x 112 (lvT sa x cu ti i ++ [(5, .int xv), (6, .int (nI kb)), (9, .int sn)]) dy co ti ro B G T) : KT p l e s m below meth c Q sa D cA A x 20 (lvT sa x cu ti i) dy co ti ro B G T := by
  obtain ⟨hx, hb, hml, hown, hts, hA, hE⟩ := id C
  intro Wd H locs ls hW hP hD hS hl
  obtain ⟨a, u, ch, v, w, a2, dy2, co2, ti2, ro2, u2, n2, B2, ch2, v2, nb2, G2, w2, T2, rfl⟩ := hW
  have hl : lv_has ls 14 [(0, .ref sa.1), (1, .ref x), (2, .int cu), (3, .int ti), (4, .int (nI i))] := hl
  refine lv_aload_n hx hb dL_law_20 rfl (lv_at hl 0 rfl) ?_
  refine lv_iconst (v := 5) hx hb dL_law_21 (by decide) ?_
  refine lv_iload hx hb dL_law_22 (lv_at hl 4 rfl) ?_
  refine rn_add (a := 5) (b := i) hx hb dL_law_24 ?_
  refine goI ([]) (wX cA x a dy co ti ro u 4 B ch v 2 G w T a2 dy2 co2 ti2 ro2 u2 n2 B2 ch2 v2 nb2 G2 w2 T2) hP hD hS hA (rnS (rest := []) (c_cell sa tb D cA cL l (5 + i) (show (5 + i) < 2 ^ 30 from by first | omega | assumption | decide)) ([]) (wX cA x a dy co ti ro u 4 B ch v 2 G w T a2 dy2 co2 ti2 ro2 u2 n2 B2 ch2 v2 nb2 G2 w2 T2) hP hD hS hA hE ⟨hx, hb, hml, hown, hts⟩ (va_cwS 2 hts gL_law_L_cell rfl rfl rfl (by decide +kernel) ⟨(Nat.le_of_ble_eq_true rfl), (Nat.le_of_ble_eq_true rfl)⟩) rfl hl.1 rfl (Nat.le_of_ble_eq_true rfl) dL_law_25 ⟨(Nat.le_of_ble_eq_true rfl), (Nat.le_of_ble_eq_true rfl)⟩) (fun _ => rfl) (fun r_25 u_25 H locs hw_25 hP hD hS => ?_)
  have hP : va_P D vwCl (wX cA x a dy co ti ro u 4 B ch v 2 G w T a2 dy2 co2 ti2 ro2 u2 n2 B2 ch2 v2 nb2 G2 w2 T2) H := hP
  have hD : va_D A (wX cA x a dy co ti ro u 4 B ch v 2 G w T a2 dy2 co2 ti2 ro2 u2 n2 B2 ch2 v2 nb2 G2 w2 T2) := hD
  refine w_eqi (show r_25 = cellV sa (5 + i) from hw_25) ?_
  refine lv_iconst (v := 2) hx hb dL_law_28 (by decide) ?_
  refine lv_ishr hx hb dL_law_29 ?_
  refine lv_topi (fun xv hxv => ?_)
  refine lv_istore (lv' := [(5, .int xv), (0, .ref sa.1), (1, .ref x), (2, .int cu), (3, .int ti), (4, .int (nI i))]) hx hb dL_law_30 hl (by decide) rfl (fun ls hl => ?_)
  refine lv_iload hx hb dL_law_32 (lv_at hl 0 rfl) ?_
  refine lv_iconst (v := 4) hx hb dL_law_34 (by decide) ?_
  refine goI ([]) (wX cA x a dy co ti ro u 4 B ch v 2 G w T a2 dy2 co2 ti2 ro2 u2 n2 B2 ch2 v2 nb2 G2 w2 T2) hP hD hS hA (rnS (rest := []) (c_below sa tb D cA cL l xv 4 (show 0 < 4 from by first | omega | assumption | decide) (show 4 < 2 ^ 31 from by first | omega | assumption | decide)) ([]) (wX cA x a dy co ti ro u 4 B ch v 2 G w T a2 dy2 co2 ti2 ro2 u2 n2 B2 ch2 v2 nb2 G2 w2 T2) hP hD hS hA hE ⟨hx, hb, hml, hown, hts⟩ (va_cwS 2 hts gL_law_L_below rfl rfl rfl (by decide +kernel) ⟨(Nat.le_of_ble_eq_true rfl), (Nat.le_of_ble_eq_true rfl)⟩) rfl hl.1 rfl (Nat.le_of_ble_eq_true rfl) dL_law_35 ⟨(Nat.le_of_ble_eq_true rfl), (Nat.le_of_ble_eq_true rfl)⟩) (fun _ => rfl) (fun r_35 u_35 H locs hw_35 hP hD hS => ?_)
  have hP : va_P D vwCl (wX cA x a dy co ti ro u 4 B ch v 2 G w T a2 dy2 co2 ti2 ro2 u2 n2 B2 ch2 v2 nb2 G2 w2 T2) H := hP
  have hD : va_D A (wX cA x a dy co ti ro u 4 B ch v 2 G w T a2 dy2 co2 ti2 ro2 u2 n2 B2 ch2 v2 nb2 G2 w2 T2) := hD
  refine w_eqi (show r_35 = nI (bel xv 4) from hw_35) ?_
  have hk : bel xv 4 < 4 := bel_lt (by decide)
  have hba : bel (xv >>> (3 &&& 31)) 2 < 2 := bel_lt (by decide)
  refine lv_istore (lv' := [(6, .int (nI (bel xv 4))), (5, .int xv), (0, .ref sa.1), (1, .ref x), (2, .int cu), (3, .int ti), (4, .int (nI i))]) hx hb dL_law_38 hl (by decide) rfl (fun ls hl => ?_)
  refine lv_aload_n hx hb dL_law_40 rfl (lv_at hl 3 rfl) ?_
  refine goL ([]) ([]) hP hD hS hA (rnV (rest := []) (c_digest sa tb D cA cL l x a dy co ti ro u 4 B ch v 2 G w T a2 dy2 co2 ti2 ro2 u2 n2 B2 ch2 v2 nb2 G2 w2 T2 (show 4 ≤ 8 from by first | omega | assumption | decide) (show 2 ≤ 3 from by first | omega | assumption | decide)) ([]) ([]) hP hD hS hA hE ⟨hx, hb, hml, hown, hts⟩ (cwV 0 hts gL_law_X4_digest rfl rfl rfl (by decide +kernel) ⟨(Nat.le_of_ble_eq_true rfl), (Nat.le_of_ble_eq_true rfl)⟩) 4 0 rfl rfl rfl rfl hl.1 rfl (Nat.le_of_ble_eq_true rfl) dL_law_41 ⟨(Nat.le_of_ble_eq_true rfl), (Nat.le_of_ble_eq_true rfl)⟩) (fun _ => rfl) (fun r_41 u_41 H locs hw_41 hP hD hS => ?_)
  have hP : va_P D vwCl (wX cA x a dy co ti ro u 4 B ch v 2 G w T a2 dy2 co2 ti2 ro2 u2 n2 B2 ch2 v2 nb2 G2 w2 T2) H := hP
  have hD : va_D A (wX cA x a dy co ti ro u 4 B ch v 2 G w T a2 dy2 co2 ti2 ro2 u2 n2 B2 ch2 v2 nb2 G2 w2 T2) := hD
  obtain rfl : r_41 = digF dy co ti ro 4 B 2 G T := hw_41
  refine lv_topl (fun dg0 hdg0 => ?_)
  refine lv_lstore (lv' := [(7, .long dg0), (6, .int (nI (bel xv 4))), (5, .int xv), (0, .ref sa.1), (1, .ref x), (2, .int cu), (3, .int ti), (4, .int (nI i))]) hx hb dL_law_44 hl (by decide) rfl (fun ls hl => ?_)
  refine lv_aload_n hx hb dL_law_46 rfl (lv_at hl 4 rfl) ?_
  refine lv_bipush (v := 20) hx hb dL_law_47 (by decide) ?_
  refine lv_iconst (v := 5) hx hb dL_law_49 (by decide) ?_
  refine goI ([]) ([]) hP hD hS hA (rnV (rest := []) (c_foresee sa tb D cA cL l x a dy co ti ro u 4 B ch v 2 G w T a2 dy2 co2 ti2 ro2 u2 n2 B2 ch2 v2 nb2 G2 w2 T2 20 5 (show 4 ≤ 8 from by first | omega | assumption | decide) (show 2 ≤ 3 from by first | omega | assumption | decide) (show 1 ≤ 20 from by first | omega | assumption | decide) (show 20 ≤ 200 from by first | omega | assumption | decide) (show 5 = 4 ∨ 5 = 5 ∨ 5 = 9 ∨ 5 = 10 from by first | omega | assumption | decide)) ([]) ([]) hP hD hS hA hE ⟨hx, hb, hml, hown, hts⟩ (cwV 2 hts gL_law_X4_foresee rfl rfl rfl (by decide +kernel) ⟨(Nat.le_of_ble_eq_true rfl), (Nat.le_of_ble_eq_true rfl)⟩) 4 0 rfl rfl rfl rfl hl.1 rfl (Nat.le_of_ble_eq_true rfl) dL_law_50 ⟨(Nat.le_of_ble_eq_true rfl), (Nat.le_of_ble_eq_true rfl)⟩) (fun _ => (show List.map Prod.fst _ = [x, a 0, a 1, u 0, u 1, u 2, u 3, u 4, u 5, u 6, u 7, u 8, a 2, v 0, v 1, v 2, v 3, v 4, a 3, w, a2 0, a2 1, u2 0, u2 1, u2 2, u2 3, u2 4, u2 5, u2 6, u2 7, u2 8, a2 2, v2 0, v2 1, v2 2, v2 3, v2 4, a2 3, w2] from rfl).trans (show [x, a 0, a 1, u 0, u 1, u 2, u 3, u 4, u 5, u 6, u 7, u 8, a 2, v 0, v 1, v 2, v 3, v 4, a 3, w, a2 0, a2 1, u2 0, u2 1, u2 2, u2 3, u2 4, u2 5, u2 6, u2 7, u2 8, a2 2, v2 0, v2 1, v2 2, v2 3, v2 4, a2 3, w2] = List.map Prod.fst _ from rfl)) (fun r_50 u_50 H locs hw_50 hP hD hS => ?_)
  have hP : va_P D vwCl (wX cA x a dy co ti ro u 4 B ch v 2 G w T a2 u_50.1 u_50.2.1 u_50.2.2.1 u_50.2.2.2.1 u2 4 u_50.2.2.2.2.1 u_50.2.2.2.2.2.1 v2 2 u_50.2.2.2.2.2.2.1 w2 u_50.2.2.2.2.2.2.2) H := hP
  have hD : va_D A (wX cA x a dy co ti ro u 4 B ch v 2 G w T a2 u_50.1 u_50.2.1 u_50.2.2.1 u_50.2.2.2.1 u2 4 u_50.2.2.2.2.1 u_50.2.2.2.2.2.1 v2 2 u_50.2.2.2.2.2.2.1 w2 u_50.2.2.2.2.2.2.2) := hD
  refine w_eqi (show r_50 = tellW (daysS 4 2 20 (dy, ro, cpB 4 B B2, cpG 2 G G2, cpT T T2)).1 co ti (daysS 4 2 20 (dy, ro, cpB 4 B B2, cpG 2 G G2, cpT T T2)).2.1 4 (daysS 4 2 20 (dy, ro, cpB 4 B B2, cpG 2 G G2, cpT T T2)).2.2.1 2 (daysS 4 2 20 (dy, ro, cpB 4 B B2, cpG 2 G G2, cpT T T2)).2.2.2.1 (daysS 4 2 20 (dy, ro, cpB 4 B B2, cpG 2 G G2, cpT T T2)).2.2.2.2 5 from hw_50) ?_
  refine lv_topi (fun sn hsn => ?_)
  have hs : sn = fsee dy ro B G T := hsn.trans fore_eq
  refine lv_istore (lv' := [(9, .int sn), (7, .long dg0), (6, .int (nI (bel xv 4))), (5, .int xv), (0, .ref sa.1), (1, .ref x), (2, .int cu), (3, .int ti), (4, .int (nI i))]) hx hb dL_law_53 hl (by decide) rfl (fun ls hl => ?_)
  refine lv_aload_n hx hb dL_law_55 rfl (lv_at hl 5 rfl) ?_
  refine lv_iload hx hb dL_law_56 (lv_at hl 2 rfl) ?_
  refine goI ([]) ([]) hP hD hS hA (rnV (rest := []) (c_best sa tb D cA cL l x a dy co ti ro u 4 B ch v 2 G w T a2 u_50.1 u_50.2.1 u_50.2.2.1 u_50.2.2.2.1 u2 4 u_50.2.2.2.2.1 u_50.2.2.2.2.2.1 v2 2 u_50.2.2.2.2.2.2.1 w2 u_50.2.2.2.2.2.2.2 (bel xv 4) (show (bel xv 4) < 4 from by first | omega | assumption | decide) (show 4 ≤ 8 from by first | omega | assumption | decide)) ([]) ([]) hP hD hS hA hE ⟨hx, hb, hml, hown, hts⟩ (cwV 1 hts gL_law_X4_best rfl rfl rfl (by decide +kernel) ⟨(Nat.le_of_ble_eq_true rfl), (Nat.le_of_ble_eq_true rfl)⟩) 4 0 rfl rfl rfl rfl hl.1 rfl (Nat.le_of_ble_eq_true rfl) dL_law_58 ⟨(Nat.le_of_ble_eq_true rfl), (Nat.le_of_ble_eq_true rfl)⟩) (fun _ => (show List.map Prod.fst _ = [x, a 0, a 1, u 0, u 1, u 2, u 3, u 4, u 5, u 6, u 7, u 8, a 2, v 0, v 1, v 2, v 3, v 4, a 3, w, a2 0, a2 1, u2 0, u2 1, u2 2, u2 3, u2 4, u2 5, u2 6, u2 7, u2 8, a2 2, v2 0, v2 1, v2 2, v2 3, v2 4, a2 3, w2] from rfl).trans (show [x, a 0, a 1, u 0, u 1, u 2, u 3, u 4, u 5, u 6, u 7, u 8, a 2, v 0, v 1, v 2, v 3, v 4, a 3, w, a2 0, a2 1, u2 0, u2 1, u2 2, u2 3, u2 4, u2 5, u2 6, u2 7, u2 8, a2 2, v2 0, v2 1, v2 2, v2 3, v2 4, a2 3, w2] = List.map Prod.fst _ from rfl)) (fun r_58 u_58 H locs hw_58 hP hD hS => ?_)
  have hP : va_P D vwCl (wX cA x a dy co ti ro u 4 B ch v 2 G w T a2 u_50.1 u_50.2.1 u_50.2.2.1 u_50.2.2.2.1 u2 4 u_58.1 u_58.2 v2 2 u_50.2.2.2.2.2.2.1 w2 u_50.2.2.2.2.2.2.2) H := hP
  have hD : va_D A (wX cA x a dy co ti ro u 4 B ch v 2 G w T a2 u_50.1 u_50.2.1 u_50.2.2.1 u_50.2.2.2.1 u2 4 u_58.1 u_58.2 v2 2 u_50.2.2.2.2.2.2.1 w2 u_50.2.2.2.2.2.2.2) := hD
  refine w_eqi (show r_58 = (bestS 4 (cpB 4 B u_50.2.2.2.2.1) (bel xv 4) 9).2 from hw_58) ?_
  refine lv_topi (fun bst hbst => ?_)
  have hbs0 : ¬ bst < 0 := by rw [hbst]; exact best_0
  have hbs9 : ¬ 9 < bst := by rw [hbst]; exact best_9
  refine lv_istore (lv' := [(10, .int bst), (9, .int sn), (7, .long dg0), (6, .int (nI (bel xv 4))), (5, .int xv), (0, .ref sa.1), (1, .ref x), (2, .int cu), (3, .int ti), (4, .int (nI i))]) hx hb dL_law_61 hl (by decide) rfl (fun ls hl => ?_)
  refine lv_aload_n hx hb dL_law_63 rfl (lv_at hl 6 rfl) ?_
  refine lv_iload hx hb dL_law_64 (lv_at hl 4 rfl) ?_
  refine lv_iconst (v := 3) hx hb dL_law_66 (by decide) ?_
  refine lv_ishr hx hb dL_law_67 ?_
  refine lv_iconst (v := 2) hx hb dL_law_68 (by decide) ?_
  refine goI ([]) (wX cA x a dy co ti ro u 4 B ch v 2 G w T a2 u_50.1 u_50.2.1 u_50.2.2.1 u_50.2.2.2.1 u2 4 u_58.1 u_58.2 v2 2 u_50.2.2.2.2.2.2.1 w2 u_50.2.2.2.2.2.2.2) hP hD hS hA (rnS (rest := [.ref x]) (c_below sa tb D cA cL l (xv >>> (3 &&& 31)) 2 (show 0 < 2 from by first | omega | assumption | decide) (show 2 < 2 ^ 31 from by first | omega | assumption | decide)) ([]) (wX cA x a dy co ti ro u 4 B ch v 2 G w T a2 u_50.1 u_50.2.1 u_50.2.2.1 u_50.2.2.2.1 u2 4 u_58.1 u_58.2 v2 2 u_50.2.2.2.2.2.2.1 w2 u_50.2.2.2.2.2.2.2) hP hD hS hA hE ⟨hx, hb, hml, hown, hts⟩ (va_cwS 2 hts gL_law_L_below rfl rfl rfl (by decide +kernel) ⟨(Nat.le_of_ble_eq_true rfl), (Nat.le_of_ble_eq_true rfl)⟩) rfl hl.1 rfl (Nat.le_of_ble_eq_true rfl) dL_law_69 ⟨(Nat.le_of_ble_eq_true rfl), (Nat.le_of_ble_eq_true rfl)⟩) (fun _ => rfl) (fun r_69 u_69 H locs hw_69 hP hD hS => ?_)
  have hP : va_P D vwCl (wX cA x a dy co ti ro u 4 B ch v 2 G w T a2 u_50.1 u_50.2.1 u_50.2.2.1 u_50.2.2.2.1 u2 4 u_58.1 u_58.2 v2 2 u_50.2.2.2.2.2.2.1 w2 u_50.2.2.2.2.2.2.2) H := hP
  have hD : va_D A (wX cA x a dy co ti ro u 4 B ch v 2 G w T a2 u_50.1 u_50.2.1 u_50.2.2.1 u_50.2.2.2.1 u2 4 u_58.1 u_58.2 v2 2 u_50.2.2.2.2.2.2.1 w2 u_50.2.2.2.2.2.2.2) := hD
  refine w_eqi (show r_69 = nI (bel (xv >>> (3 &&& 31)) 2) from hw_69) ?_
  refine goI ([]) ([]) hP hD hS hA (rnV (rest := []) (c_advise sa tb D cA cL l x a dy co ti ro u 4 B ch v 2 G w T a2 u_50.1 u_50.2.1 u_50.2.2.1 u_50.2.2.2.1 u2 4 u_58.1 u_58.2 v2 2 u_50.2.2.2.2.2.2.1 w2 u_50.2.2.2.2.2.2.2 (bel (xv >>> (3 &&& 31)) 2) (show (bel (xv >>> (3 &&& 31)) 2) < 2 from by first | omega | assumption | decide) (show 4 ≤ 8 from by first | omega | assumption | decide) (show 2 ≤ 3 from by first | omega | assumption | decide) (show ∃ p, p < 31 ∧ G 0 (bel (xv >>> (3 &&& 31)) 2) = nI p from (hG.1.2.1 _ hba).place)) ([]) ([]) hP hD hS hA hE ⟨hx, hb, hml, hown, hts⟩ (cwV 1 hts gL_law_X4_advise rfl rfl rfl (by decide +kernel) ⟨(Nat.le_of_ble_eq_true rfl), (Nat.le_of_ble_eq_true rfl)⟩) 4 0 rfl rfl rfl rfl hl.1 rfl (Nat.le_of_ble_eq_true rfl) dL_law_72 ⟨(Nat.le_of_ble_eq_true rfl), (Nat.le_of_ble_eq_true rfl)⟩) (fun _ => (show List.map Prod.fst _ = [x, a 0, a 1, u 0, u 1, u 2, u 3, u 4, u 5, u 6, u 7, u 8, a 2, v 0, v 1, v 2, v 3, v 4, a 3, w, a2 0, a2 1, u2 0, u2 1, u2 2, u2 3, u2 4, u2 5, u2 6, u2 7, u2 8, a2 2, v2 0, v2 1, v2 2, v2 3, v2 4, a2 3, w2] from rfl).trans (show [x, a 0, a 1, u 0, u 1, u 2, u 3, u 4, u 5, u 6, u 7, u 8, a 2, v 0, v 1, v 2, v 3, v 4, a 3, w, a2 0, a2 1, u2 0, u2 1, u2 2, u2 3, u2 4, u2 5, u2 6, u2 7, u2 8, a2 2, v2 0, v2 1, v2 2, v2 3, v2 4, a2 3, w2] = List.map Prod.fst _ from rfl)) (fun r_72 u_72 H locs hw_72 hP hD hS => ?_)
  have hP : va_P D vwCl (wX cA x a dy co ti ro u 4 B ch v 2 G w T a2 u_72.1 u_72.2.1 u_72.2.2.1 u_72.2.2.2.1 u2 4 u_72.2.2.2.2.1 u_72.2.2.2.2.2.1 v2 2 u_72.2.2.2.2.2.2.1 w2 u_72.2.2.2.2.2.2.2) H := hP
  have hD : va_D A (wX cA x a dy co ti ro u 4 B ch v 2 G w T a2 u_72.1 u_72.2.1 u_72.2.2.1 u_72.2.2.2.1 u2 4 u_72.2.2.2.2.1 u_72.2.2.2.2.2.1 v2 2 u_72.2.2.2.2.2.2.1 w2 u_72.2.2.2.2.2.2.2) := hD
  refine w_eqi (show r_72 = advF G T (bel (xv >>> (3 &&& 31)) 2) from hw_72) ?_
  refine lv_topi (fun adv hadv => ?_)
  have had0 : ¬ adv < 0 := by rw [hadv]; exact adv_0
  have had2 : adv ≤ 2 := by rw [hadv]; exact adv_2
  refine lv_istore (lv' := [(11, .int adv), (10, .int bst), (9, .int sn), (7, .long dg0), (6, .int (nI (bel xv 4))), (5, .int xv), (0, .ref sa.1), (1, .ref x), (2, .int cu), (3, .int ti), (4, .int (nI i))]) hx hb dL_law_75 hl (by decide) rfl (fun ls hl => ?_)
  refine lv_aload_n hx hb dL_law_77 rfl (lv_at hl 7 rfl) ?_
  refine goL ([]) ([]) hP hD hS hA (rnV (rest := []) (c_digest sa tb D cA cL l x a dy co ti ro u 4 B ch v 2 G w T a2 u_72.1 u_72.2.1 u_72.2.2.1 u_72.2.2.2.1 u2 4 u_72.2.2.2.2.1 u_72.2.2.2.2.2.1 v2 2 u_72.2.2.2.2.2.2.1 w2 u_72.2.2.2.2.2.2.2 (show 4 ≤ 8 from by first | omega | assumption | decide) (show 2 ≤ 3 from by first | omega | assumption | decide)) ([]) ([]) hP hD hS hA hE ⟨hx, hb, hml, hown, hts⟩ (cwV 0 hts gL_law_X4_digest rfl rfl rfl (by decide +kernel) ⟨(Nat.le_of_ble_eq_true rfl), (Nat.le_of_ble_eq_true rfl)⟩) 4 0 rfl rfl rfl rfl hl.1 rfl (Nat.le_of_ble_eq_true rfl) dL_law_78 ⟨(Nat.le_of_ble_eq_true rfl), (Nat.le_of_ble_eq_true rfl)⟩) (fun _ => rfl) (fun r_78 u_78 H locs hw_78 hP hD hS => ?_)
  have hP : va_P D vwCl (wX cA x a dy co ti ro u 4 B ch v 2 G w T a2 u_72.1 u_72.2.1 u_72.2.2.1 u_72.2.2.2.1 u2 4 u_72.2.2.2.2.1 u_72.2.2.2.2.2.1 v2 2 u_72.2.2.2.2.2.2.1 w2 u_72.2.2.2.2.2.2.2) H := hP
  have hD : va_D A (wX cA x a dy co ti ro u 4 B ch v 2 G w T a2 u_72.1 u_72.2.1 u_72.2.2.1 u_72.2.2.2.1 u2 4 u_72.2.2.2.2.1 u_72.2.2.2.2.2.1 v2 2 u_72.2.2.2.2.2.2.1 w2 u_72.2.2.2.2.2.2.2) := hD
  obtain rfl : r_78 = digF dy co ti ro 4 B 2 G T := hw_78
  refine lv_lload hx hb dL_law_81 (lv_at hl 3 rfl) ?_
  refine W.lcmp hx hb dL_law_83 ?_
  refine w_eqi (show lg_cmp (digF dy co ti ro 4 B 2 G T) dg0 = 0 from by rw [hdg0]; exact cmp_0 _) ?_
  refine lv_if_ne (tgt := 110) hx hb dL_law_84 (by decide) (fun q => absurd q (by decide)) (fun _ => ?_)
  refine lv_iload hx hb dL_law_87 (lv_at hl 1 rfl) ?_
  refine lv_if_lt (tgt := 110) hx hb dL_law_89 (by decide) (fun c_89 => False.elim (by exact hbs0 c_89)) (fun c_89 => ?_)
  refine lv_iload hx hb dL_law_92 (lv_at hl 1 rfl) ?_
  refine lv_bipush (v := 9) hx hb dL_law_94 (by decide) ?_
  refine lv_icmp_gt (tgt := 110) hx hb dL_law_96 (by decide) (fun c_96 => False.elim (by exact hbs9 c_96)) (fun c_96 => ?_)
  refine lv_iload hx hb dL_law_99 (lv_at hl 0 rfl) ?_
  refine lv_if_lt (tgt := 110) hx hb dL_law_101 (by decide) (fun c_101 => False.elim (by exact had0 c_101)) (fun c_101 => ?_)
  refine lv_iload hx hb dL_law_104 (lv_at hl 0 rfl) ?_
  refine lv_iconst (v := 2) hx hb dL_law_106 (by decide) ?_
  refine lv_icmp_le (tgt := 112) hx hb dL_law_107 (by decide) (fun c_107 => ?_) (fun c_107 => False.elim (by exact c_107 had2))
  exact K xv (bel xv 4) sn hk hs _ H locs ls ⟨_, _, _, _, _, _, _, _, _, _, _, _, _, _, _, _, _, _, _, rfl⟩ hP hD hS (lv_sub hl [6, 7, 8, 9, 10, 5, 4, 2] rfl)
