set_option maxRecDepth 100000 in
set_option maxHeartbeats 4000000 in
theorem J_pass {p : Program} {l : Launch} {e : Env} {s : State} {m : MethodId} {below : List Frame} {meth : Method} {c : Code} {Q : State → Prop} {sa : Nat × Nat × (Nat → Int32)} {tb : Nat → Nat} {D : va_G} {cA cL : ClassId} {A : Nat → Prop} {x i : Nat} {cu dy co ti ro : Int32} {B G : Nat → Nat → Int32} {T : Nat → Int32} {sn : Int32} (C : LawC p s m c sa tb D cA cL A) (hi : i < 16) (hG : GS i cu co ti ro B G T) (hs : sn = fsee dy ro B G T) (K : KT p l e s m below meth c Q sa D cA A x 305 (lvT sa x cu ti i) (daysS 4 2 20 (dy, ro, B, G, T)).1 co ti (daysS 4 2 20 (dy, ro, B, G, T)).2.1 (daysS 4 2 20 (dy, ro, B, G, T)).2.2.1 (daysS 4 2 20 (dy, ro, B, G, T)).2.2.2.1 (daysS 4 2 20 (dy, ro, B, G, T)).2.2.2.2) : KT p l e s m below meth c Q sa D cA A x 284 (lvT sa x cu ti i ++ [(9, .int sn)]) dy co ti ro B G T := by
  obtain ⟨hx, hb, hml, hown, hts, hA, hE⟩ := id C
  intro Wd H locs ls hW hP hD hS hl
  obtain ⟨a, u, ch, v, w, a2, dy2, co2, ti2, ro2, u2, n2, B2, ch2, v2, nb2, G2, w2, T2, rfl⟩ := hW
  have hl : lv_has ls 14 [(0, .ref sa.1), (1, .ref x), (2, .int cu), (3, .int ti), (4, .int (nI i)), (9, .int sn)] := hl
  refine lv_aload_n hx hb dL_law_284 rfl (lv_at hl 1 rfl) ?_
  refine lv_bipush (v := 20) hx hb dL_law_285 (by decide) ?_
  refine goI ([]) ([]) hP hD hS hA (rnV (rest := []) (c_pass sa tb D cA cL l x a dy co ti ro u 4 B ch v 2 G w T a2 dy2 co2 ti2 ro2 u2 n2 B2 ch2 v2 nb2 G2 w2 T2 20 (show 4 ≤ 8 from by first | omega | assumption | decide) (show 2 ≤ 3 from by first | omega | assumption | decide) (show 1 ≤ 20 from by first | omega | assumption | decide) (show 20 ≤ 200 from by first | omega | assumption | decide)) ([]) ([]) hP hD hS hA hE ⟨hx, hb, hml, hown, hts⟩ (cwV 1 hts gL_law_X4_pass rfl rfl rfl (by decide +kernel) ⟨(Nat.le_of_ble_eq_true rfl), (Nat.le_of_ble_eq_true rfl)⟩) 4 0 rfl rfl rfl rfl hl.1 rfl (Nat.le_of_ble_eq_true rfl) dL_law_287 ⟨(Nat.le_of_ble_eq_true rfl), (Nat.le_of_ble_eq_true rfl)⟩) (fun _ => (show List.map Prod.fst _ = [x, a 0, a 1, u 0, u 1, u 2, u 3, u 4, u 5, u 6, u 7, u 8, a 2, v 0, v 1, v 2, v 3, v 4, a 3, w, a2 0, a2 1, u2 0, u2 1, u2 2, u2 3, u2 4, u2 5, u2 6, u2 7, u2 8, a2 2, v2 0, v2 1, v2 2, v2 3, v2 4, a2 3, w2] from rfl).trans (show [x, a 0, a 1, u 0, u 1, u 2, u 3, u 4, u 5, u 6, u 7, u 8, a 2, v 0, v 1, v 2, v 3, v 4, a 3, w, a2 0, a2 1, u2 0, u2 1, u2 2, u2 3, u2 4, u2 5, u2 6, u2 7, u2 8, a2 2, v2 0, v2 1, v2 2, v2 3, v2 4, a2 3, w2] = List.map Prod.fst _ from rfl)) (fun r_287 u_287 H locs hw_287 hP hD hS => ?_)
  have hP : va_P D vwCl (wX cA x a ((daysS 4 2 20 (dy, ro, B, G, T)).1) co ti ((daysS 4 2 20 (dy, ro, B, G, T)).2.1) u 4 ((daysS 4 2 20 (dy, ro, B, G, T)).2.2.1) u_287 v 2 ((daysS 4 2 20 (dy, ro, B, G, T)).2.2.2.1) w ((daysS 4 2 20 (dy, ro, B, G, T)).2.2.2.2) a2 dy2 co2 ti2 ro2 u2 n2 B2 ch2 v2 nb2 G2 w2 T2) H := hP
  have hD : va_D A (wX cA x a ((daysS 4 2 20 (dy, ro, B, G, T)).1) co ti ((daysS 4 2 20 (dy, ro, B, G, T)).2.1) u 4 ((daysS 4 2 20 (dy, ro, B, G, T)).2.2.1) u_287 v 2 ((daysS 4 2 20 (dy, ro, B, G, T)).2.2.2.1) w ((daysS 4 2 20 (dy, ro, B, G, T)).2.2.2.2) a2 dy2 co2 ti2 ro2 u2 n2 B2 ch2 v2 nb2 G2 w2 T2) := hD
  refine w_eqi (show r_287 = (daysS 4 2 20 (dy, ro, B, G, T)).2.1 - ro from hw_287) ?_
  have hr0 := hG.rot0 (dy := dy) hi 20
  have hs2 : sn = sumF (untF (daysS 4 2 20 (dy, ro, B, G, T)).2.2.1) 4 := hs
  generalize daysS 4 2 20 (dy, ro, B, G, T) = X20 at hP hD K hr0 hs2 ⊢
  have hP : va_P D vwCl (wX cA x a X20.1 co ti X20.2.1 u 4 X20.2.2.1 u_287 v 2 X20.2.2.2.1 w X20.2.2.2.2 a2 dy2 co2 ti2 ro2 u2 n2 B2 ch2 v2 nb2 G2 w2 T2) H := hP
  have hD : va_D A (wX cA x a X20.1 co ti X20.2.1 u 4 X20.2.2.1 u_287 v 2 X20.2.2.2.1 w X20.2.2.2.2 a2 dy2 co2 ti2 ro2 u2 n2 B2 ch2 v2 nb2 G2 w2 T2) := hD
  refine lv_if_lt (tgt := 303) hx hb dL_law_290 (by decide) (fun c_290 => False.elim (by exact hr0 c_290)) (fun c_290 => ?_)
  refine lv_aload_n hx hb dL_law_293 rfl (lv_at hl 1 rfl) ?_
  refine lv_iconst (v := 5) hx hb dL_law_294 (by decide) ?_
  refine goI ([]) ([]) hP hD hS hA (rnV (rest := []) (c_count sa tb D cA cL l x a X20.1 co ti X20.2.1 u 4 X20.2.2.1 u_287 v 2 X20.2.2.2.1 w X20.2.2.2.2 a2 dy2 co2 ti2 ro2 u2 n2 B2 ch2 v2 nb2 G2 w2 T2 5 (show 4 ≤ 8 from by first | omega | assumption | decide) (show 2 ≤ 3 from by first | omega | assumption | decide) (show 5 < 11 from by first | omega | assumption | decide)) ([]) ([]) hP hD hS hA hE ⟨hx, hb, hml, hown, hts⟩ (cwV 1 hts gL_law_X4_count rfl rfl rfl (by decide +kernel) ⟨(Nat.le_of_ble_eq_true rfl), (Nat.le_of_ble_eq_true rfl)⟩) 4 0 rfl rfl rfl rfl hl.1 rfl (Nat.le_of_ble_eq_true rfl) dL_law_295 ⟨(Nat.le_of_ble_eq_true rfl), (Nat.le_of_ble_eq_true rfl)⟩) (fun _ => rfl) (fun r_295 u_295 H locs hw_295 hP hD hS => ?_)
  have hP : va_P D vwCl (wX cA x a X20.1 co ti X20.2.1 u 4 X20.2.2.1 u_287 v 2 X20.2.2.2.1 w X20.2.2.2.2 a2 dy2 co2 ti2 ro2 u2 n2 B2 ch2 v2 nb2 G2 w2 T2) H := hP
  have hD : va_D A (wX cA x a X20.1 co ti X20.2.1 u 4 X20.2.2.1 u_287 v 2 X20.2.2.2.1 w X20.2.2.2.2 a2 dy2 co2 ti2 ro2 u2 n2 B2 ch2 v2 nb2 G2 w2 T2) := hD
  refine w_eqi (show r_295 = tellW X20.1 co ti X20.2.1 4 X20.2.2.1 2 X20.2.2.2.1 X20.2.2.2.2 5 from hw_295) ?_
  refine lv_iload hx hb dL_law_298 (lv_at hl 5 rfl) ?_
  refine lv_icmp_eq (tgt := 305) hx hb dL_law_300 (by decide) (fun c_300 => ?_) (fun c_300 => False.elim (by exact c_300 hs2.symm))
  exact K _ H locs ls ⟨_, _, _, _, _, _, _, _, _, _, _, _, _, _, _, _, _, _, _, rfl⟩ hP hD hS (lv_sub hl [0, 1, 2, 3, 4] rfl)
