set_option maxRecDepth 100000 in
set_option maxHeartbeats 4000000 in
theorem J_cut {p : Program} {l : Launch} {e : Env} {s : State} {m : MethodId} {below : List Frame} {meth : Method} {c : Code} {Q : State → Prop} {sa : Nat × Nat × (Nat → Int32)} {tb : Nat → Nat} {D : va_G} {cA cL : ClassId} {A : Nat → Prop} {x i : Nat} {cu dy co ti ro : Int32} {B G : Nat → Nat → Int32} {T : Nat → Int32} {kb : Nat} (C : LawC p s m c sa tb D cA cL A) (hk : kb < 4) (ha : ¬ B 2 kb = 0) (K : KT p l e s m below meth c Q sa D cA A x 305 (lvT sa x (cu + given B kb) ti i) dy co ti ro (cutB B kb) G T) : KT p l e s m below meth c Q sa D cA A x 134 (lvT sa x cu ti i ++ [(6, .int (nI kb))]) dy co ti ro B G T := by
  obtain ⟨hx, hb, hml, hown, hts, hA, hE⟩ := id C
  intro Wd H locs ls hW hP hD hS hl
  obtain ⟨a, u, ch, v, w, a2, dy2, co2, ti2, ro2, u2, n2, B2, ch2, v2, nb2, G2, w2, T2, rfl⟩ := hW
  have hl : lv_has ls 14 [(0, .ref sa.1), (1, .ref x), (2, .int cu), (3, .int ti), (4, .int (nI i)), (6, .int (nI kb))] := hl
  refine lv_iload_n hx hb dL_law_134 rfl (lv_at hl 2 rfl) ?_
  refine lv_aload_n hx hb dL_law_135 rfl (lv_at hl 1 rfl) ?_
  refine lv_iload hx hb dL_law_136 (lv_at hl 5 rfl) ?_
  refine goI ([]) ([]) hP hD hS hA (rnV (rest := [.int cu]) (c_cut sa tb D cA cL l x a dy co ti ro u 4 B ch v 2 G w T a2 dy2 co2 ti2 ro2 u2 n2 B2 ch2 v2 nb2 G2 w2 T2 kb (show kb < 4 from by first | omega | assumption | decide) (show 4 ≤ 8 from by first | omega | assumption | decide) (show ¬ B 2 kb = 0 from ha)) ([]) ([]) hP hD hS hA hE ⟨hx, hb, hml, hown, hts⟩ (cwV 1 hts gL_law_X4_cut rfl rfl rfl (by decide +kernel) ⟨(Nat.le_of_ble_eq_true rfl), (Nat.le_of_ble_eq_true rfl)⟩) 4 0 rfl rfl rfl rfl hl.1 rfl (Nat.le_of_ble_eq_true rfl) dL_law_138 ⟨(Nat.le_of_ble_eq_true rfl), (Nat.le_of_ble_eq_true rfl)⟩) (fun _ => (show List.map Prod.fst _ = [x, a 0, a 1, u 0, u 1, u 2, u 3, u 4, u 5, u 6, u 7, u 8, a 2, v 0, v 1, v 2, v 3, v 4, a 3, w, a2 0, a2 1, u2 0, u2 1, u2 2, u2 3, u2 4, u2 5, u2 6, u2 7, u2 8, a2 2, v2 0, v2 1, v2 2, v2 3, v2 4, a2 3, w2] from rfl).trans (show [x, a 0, a 1, u 0, u 1, u 2, u 3, u 4, u 5, u 6, u 7, u 8, a 2, v 0, v 1, v 2, v 3, v 4, a 3, w, a2 0, a2 1, u2 0, u2 1, u2 2, u2 3, u2 4, u2 5, u2 6, u2 7, u2 8, a2 2, v2 0, v2 1, v2 2, v2 3, v2 4, a2 3, w2] = List.map Prod.fst _ from rfl)) (fun r_138 u_138 H locs hw_138 hP hD hS => ?_)
  have hP : va_P D vwCl (wX cA x a dy co ti ro u 4 (cutB B kb) ch v 2 G w T a2 dy2 co2 ti2 ro2 u2 n2 B2 ch2 v2 nb2 G2 w2 T2) H := hP
  have hD : va_D A (wX cA x a dy co ti ro u 4 (cutB B kb) ch v 2 G w T a2 dy2 co2 ti2 ro2 u2 n2 B2 ch2 v2 nb2 G2 w2 T2) := hD
  refine w_eqi (show r_138 = given B kb from hw_138) ?_
  refine lv_iadd hx hb dL_law_141 ?_
  refine lv_topi (fun z_1 hz_1 => ?_)
  refine lv_istore_n (lv' := [(2, .int z_1), (0, .ref sa.1), (1, .ref x), (3, .int ti), (4, .int (nI i)), (6, .int (nI kb))]) hx hb dL_law_142 rfl hl (by decide) rfl (fun ls hl => ?_)
  refine lv_goto (tgt := 305) hx hb dL_law_143 (by decide) ?_
  subst hz_1
  exact K _ H locs ls ⟨_, _, _, _, _, _, _, _, _, _, _, _, _, _, _, _, _, _, _, rfl⟩ hP hD hS (lv_sub hl [1, 2, 0, 3, 4] rfl)
set_option maxRecDepth 100000 in
set_option maxHeartbeats 4000000 in
theorem J_tie {p : Program} {l : Launch} {e : Env} {s : State} {m : MethodId} {below : List Frame} {meth : Method} {c : Code} {Q : State → Prop} {sa : Nat × Nat × (Nat → Int32)} {tb : Nat → Nat} {D : va_G} {cA cL : ClassId} {A : Nat → Prop} {x i : Nat} {cu dy co ti ro : Int32} {B G : Nat → Nat → Int32} {T : Nat → Int32} {kb : Nat} (C : LawC p s m c sa tb D cA cL A) (hk : kb < 4) (K : KT p l e s m below meth c Q sa D cA A x 305 (lvT sa x cu (ti - (tieS B kb ti + tieR B kb ti)) i) dy co (ti - (tieS B kb ti + tieR B kb ti)) ro (tieB B kb ti) G T) : KT p l e s m below meth c Q sa D cA A x 159 (lvT sa x cu ti i ++ [(6, .int (nI kb))]) dy co ti ro B G T := by
  obtain ⟨hx, hb, hml, hown, hts, hA, hE⟩ := id C
  intro Wd H locs ls hW hP hD hS hl
  obtain ⟨a, u, ch, v, w, a2, dy2, co2, ti2, ro2, u2, n2, B2, ch2, v2, nb2, G2, w2, T2, rfl⟩ := hW
  have hl : lv_has ls 14 [(0, .ref sa.1), (1, .ref x), (2, .int cu), (3, .int ti), (4, .int (nI i)), (6, .int (nI kb))] := hl
  refine lv_iload_n hx hb dL_law_159 rfl (lv_at hl 3 rfl) ?_
  refine lv_aload_n hx hb dL_law_160 rfl (lv_at hl 1 rfl) ?_
  refine lv_iload hx hb dL_law_161 (lv_at hl 5 rfl) ?_
  refine goI ([]) ([]) hP hD hS hA (rnV (rest := [.int ti]) (c_tie sa tb D cA cL l x a dy co ti ro u 4 B ch v 2 G w T a2 dy2 co2 ti2 ro2 u2 n2 B2 ch2 v2 nb2 G2 w2 T2 kb (show kb < 4 from by first | omega | assumption | decide) (show 4 ≤ 8 from by first | omega | assumption | decide)) ([]) ([]) hP hD hS hA hE ⟨hx, hb, hml, hown, hts⟩ (cwV 1 hts gL_law_X4_tie rfl rfl rfl (by decide +kernel) ⟨(Nat.le_of_ble_eq_true rfl), (Nat.le_of_ble_eq_true rfl)⟩) 4 0 rfl rfl rfl rfl hl.1 rfl (Nat.le_of_ble_eq_true rfl) dL_law_163 ⟨(Nat.le_of_ble_eq_true rfl), (Nat.le_of_ble_eq_true rfl)⟩) (fun _ => (show List.map Prod.fst _ = [x, a 0, a 1, u 0, u 1, u 2, u 3, u 4, u 5, u 6, u 7, u 8, a 2, v 0, v 1, v 2, v 3, v 4, a 3, w, a2 0, a2 1, u2 0, u2 1, u2 2, u2 3, u2 4, u2 5, u2 6, u2 7, u2 8, a2 2, v2 0, v2 1, v2 2, v2 3, v2 4, a2 3, w2] from rfl).trans (show [x, a 0, a 1, u 0, u 1, u 2, u 3, u 4, u 5, u 6, u 7, u 8, a 2, v 0, v 1, v 2, v 3, v 4, a 3, w, a2 0, a2 1, u2 0, u2 1, u2 2, u2 3, u2 4, u2 5, u2 6, u2 7, u2 8, a2 2, v2 0, v2 1, v2 2, v2 3, v2 4, a2 3, w2] = List.map Prod.fst _ from rfl)) (fun r_163 u_163 H locs hw_163 hP hD hS => ?_)
  have hP : va_P D vwCl (wX cA x a dy co (ti - (tieS B kb ti + tieR B kb ti)) ro u 4 (tieB B kb ti) ch v 2 G w T a2 dy2 co2 ti2 ro2 u2 n2 B2 ch2 v2 nb2 G2 w2 T2) H := hP
  have hD : va_D A (wX cA x a dy co (ti - (tieS B kb ti + tieR B kb ti)) ro u 4 (tieB B kb ti) ch v 2 G w T a2 dy2 co2 ti2 ro2 u2 n2 B2 ch2 v2 nb2 G2 w2 T2) := hD
  refine w_eqi (show r_163 = tieS B kb ti + tieR B kb ti from hw_163) ?_
  refine lv_isub hx hb dL_law_166 ?_
  refine lv_topi (fun z_1 hz_1 => ?_)
  refine lv_istore_n (lv' := [(3, .int z_1), (0, .ref sa.1), (1, .ref x), (2, .int cu), (4, .int (nI i)), (6, .int (nI kb))]) hx hb dL_law_167 rfl hl (by decide) rfl (fun ls hl => ?_)
  refine lv_goto (tgt := 305) hx hb dL_law_168 (by decide) ?_
  subst hz_1
  exact K _ H locs ls ⟨_, _, _, _, _, _, _, _, _, _, _, _, _, _, _, _, _, _, _, rfl⟩ hP hD hS (lv_sub hl [1, 2, 3, 0, 4] rfl)
