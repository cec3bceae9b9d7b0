set_option maxRecDepth 100000 in
set_option maxHeartbeats 4000000 in
theorem J_turn {p : Program} {l : Launch} {e : Env} {s : State} {m : MethodId} {below : List Frame} {meth : Method} {c : Code} {Q : State → Prop} {sa : Nat × Nat × (Nat → Int32)} {tb : Nat → Nat} {D : va_G} {cA cL : ClassId} {A : Nat → Prop} {x i : Nat} {cu dy co ti ro : Int32} {B G : Nat → Nat → Int32} {T : Nat → Int32} {kb : Nat} {xv sn : Int32} (C : LawC p s m c sa tb D cA cL A) (hi : i < 16) (hk : kb < 4) (hG : GS i cu co ti ro B G T) (hs : sn = fsee dy ro B G T) (K : ∀ (cu dy co ti ro : Int32) (B G : Nat → Nat → Int32) (T : Nat → Int32), GS (i + 1) cu co ti ro B G T → KT p l e s m below meth c Q sa D cA A x 305 (lvT sa x cu ti i) dy co ti ro B G T) : KT p l e s m below meth c Q sa D cA A x 112 (lvT sa x cu ti i ++ [(5, .int xv), (6, .int (nI kb)), (9, .int sn)]) dy co ti ro B G T := by
  obtain ⟨hx, hb, hml, hown, hts, hA, hE⟩ := id C
  intro Wd H locs ls hW hP hD hS hl
  obtain ⟨a, u, ch, v, w, a2, dy2, co2, ti2, ro2, u2, n2, B2, ch2, v2, nb2, G2, w2, T2, rfl⟩ := hW
  have hl : lv_has ls 14 [(0, .ref sa.1), (1, .ref x), (2, .int cu), (3, .int ti), (4, .int (nI i)), (5, .int xv), (6, .int (nI kb)), (9, .int sn)] := hl
  have hbb : bel (xv >>> (5 &&& 31)) 2 < 2 := bel_lt (by decide)
  have hb6 : bel (xv >>> (2 &&& 31)) 6 < 6 := bel_lt (by decide)
  refine lv_iload hx hb dL_law_112 (lv_at hl 5 rfl) ?_
  refine lv_iconst (v := 2) hx hb dL_law_114 (by decide) ?_
  refine lv_ishr hx hb dL_law_115 ?_
  refine lv_bipush (v := 6) hx hb dL_law_116 (by decide) ?_
  refine goI ([]) (wX cA x a dy co ti ro u 4 B ch v 2 G w T a2 dy2 co2 ti2 ro2 u2 n2 B2 ch2 v2 nb2 G2 w2 T2) hP hD hS hA (rnS (rest := []) (c_below sa tb D cA cL l (xv >>> (2 &&& 31)) 6 (show 0 < 6 from by first | omega | assumption | decide) (show 6 < 2 ^ 31 from by first | omega | assumption | decide)) ([]) (wX cA x a dy co ti ro u 4 B ch v 2 G w T a2 dy2 co2 ti2 ro2 u2 n2 B2 ch2 v2 nb2 G2 w2 T2) hP hD hS hA hE ⟨hx, hb, hml, hown, hts⟩ (va_cwS 2 hts gL_law_L_below rfl rfl rfl (by decide +kernel) ⟨(Nat.le_of_ble_eq_true rfl), (Nat.le_of_ble_eq_true rfl)⟩) rfl hl.1 rfl (Nat.le_of_ble_eq_true rfl) dL_law_118 ⟨(Nat.le_of_ble_eq_true rfl), (Nat.le_of_ble_eq_true rfl)⟩) (fun _ => rfl) (fun r_118 u_118 H locs hw_118 hP hD hS => ?_)
  have hP : va_P D vwCl (wX cA x a dy co ti ro u 4 B ch v 2 G w T a2 dy2 co2 ti2 ro2 u2 n2 B2 ch2 v2 nb2 G2 w2 T2) H := hP
  have hD : va_D A (wX cA x a dy co ti ro u 4 B ch v 2 G w T a2 dy2 co2 ti2 ro2 u2 n2 B2 ch2 v2 nb2 G2 w2 T2) := hD
  refine w_eqi (show r_118 = nI (bel (xv >>> (2 &&& 31)) 6) from hw_118) ?_
  refine rz_ne (tgt := 146) (a := bel (xv >>> (2 &&& 31)) 6) hx hb (by omega) dL_law_121 (by decide) (fun c_121 => ?_) (fun c_121 => ?_)
  · refine lv_iload hx hb dL_law_146 (lv_at hl 5 rfl) ?_
    refine lv_iconst (v := 2) hx hb dL_law_148 (by decide) ?_
    refine lv_ishr hx hb dL_law_149 ?_
    refine lv_bipush (v := 6) hx hb dL_law_150 (by decide) ?_
    refine goI ([]) (wX cA x a dy co ti ro u 4 B ch v 2 G w T a2 dy2 co2 ti2 ro2 u2 n2 B2 ch2 v2 nb2 G2 w2 T2) hP hD hS hA (rnS (rest := []) (c_below sa tb D cA cL l (xv >>> (2 &&& 31)) 6 (show 0 < 6 from by first | omega | assumption | decide) (show 6 < 2 ^ 31 from by first | omega | assumption | decide)) ([]) (wX cA x a dy co ti ro u 4 B ch v 2 G w T a2 dy2 co2 ti2 ro2 u2 n2 B2 ch2 v2 nb2 G2 w2 T2) hP hD hS hA hE ⟨hx, hb, hml, hown, hts⟩ (va_cwS 2 hts gL_law_L_below rfl rfl rfl (by decide +kernel) ⟨(Nat.le_of_ble_eq_true rfl), (Nat.le_of_ble_eq_true rfl)⟩) rfl hl.1 rfl (Nat.le_of_ble_eq_true rfl) dL_law_152 ⟨(Nat.le_of_ble_eq_true rfl), (Nat.le_of_ble_eq_true rfl)⟩) (fun _ => rfl) (fun r_152 u_152 H locs hw_152 hP hD hS => ?_)
    have hP : va_P D vwCl (wX cA x a dy co ti ro u 4 B ch v 2 G w T a2 dy2 co2 ti2 ro2 u2 n2 B2 ch2 v2 nb2 G2 w2 T2) H := hP
    have hD : va_D A (wX cA x a dy co ti ro u 4 B ch v 2 G w T a2 dy2 co2 ti2 ro2 u2 n2 B2 ch2 v2 nb2 G2 w2 T2) := hD
    refine w_eqi (show r_152 = nI (bel (xv >>> (2 &&& 31)) 6) from hw_152) ?_
    refine lv_iconst (v := 1) hx hb dL_law_155 (by decide) ?_
    refine rc_ne (tgt := 171) (a := bel (xv >>> (2 &&& 31)) 6) (b := 1) hx hb (by omega) (by omega) dL_law_156 (by decide) (fun c_156 => ?_) (fun c_156 => ?_)
    · refine lv_iload hx hb dL_law_171 (lv_at hl 5 rfl) ?_
      refine lv_iconst (v := 2) hx hb dL_law_173 (by decide) ?_
      refine lv_ishr hx hb dL_law_174 ?_
      refine lv_bipush (v := 6) hx hb dL_law_175 (by decide) ?_
      refine goI ([]) (wX cA x a dy co ti ro u 4 B ch v 2 G w T a2 dy2 co2 ti2 ro2 u2 n2 B2 ch2 v2 nb2 G2 w2 T2) hP hD hS hA (rnS (rest := []) (c_below sa tb D cA cL l (xv >>> (2 &&& 31)) 6 (show 0 < 6 from by first | omega | assumption | decide) (show 6 < 2 ^ 31 from by first | omega | assumption | decide)) ([]) (wX cA x a dy co ti ro u 4 B ch v 2 G w T a2 dy2 co2 ti2 ro2 u2 n2 B2 ch2 v2 nb2 G2 w2 T2) hP hD hS hA hE ⟨hx, hb, hml, hown, hts⟩ (va_cwS 2 hts gL_law_L_below rfl rfl rfl (by decide +kernel) ⟨(Nat.le_of_ble_eq_true rfl), (Nat.le_of_ble_eq_true rfl)⟩) rfl hl.1 rfl (Nat.le_of_ble_eq_true rfl) dL_law_177 ⟨(Nat.le_of_ble_eq_true rfl), (Nat.le_of_ble_eq_true rfl)⟩) (fun _ => rfl) (fun r_177 u_177 H locs hw_177 hP hD hS => ?_)
      have hP : va_P D vwCl (wX cA x a dy co ti ro u 4 B ch v 2 G w T a2 dy2 co2 ti2 ro2 u2 n2 B2 ch2 v2 nb2 G2 w2 T2) H := hP
      have hD : va_D A (wX cA x a dy co ti ro u 4 B ch v 2 G w T a2 dy2 co2 ti2 ro2 u2 n2 B2 ch2 v2 nb2 G2 w2 T2) := hD
      refine w_eqi (show r_177 = nI (bel (xv >>> (2 &&& 31)) 6) from hw_177) ?_
      refine lv_iconst (v := 2) hx hb dL_law_180 (by decide) ?_
      refine rc_ne (tgt := 253) (a := bel (xv >>> (2 &&& 31)) 6) (b := 2) hx hb (by omega) (by omega) dL_law_181 (by decide) (fun c_181 => ?_) (fun c_181 => ?_)
      · refine lv_iload hx hb dL_law_253 (lv_at hl 5 rfl) ?_
        refine lv_iconst (v := 2) hx hb dL_law_255 (by decide) ?_
        refine lv_ishr hx hb dL_law_256 ?_
        refine lv_bipush (v := 6) hx hb dL_law_257 (by decide) ?_
        refine goI ([]) (wX cA x a dy co ti ro u 4 B ch v 2 G w T a2 dy2 co2 ti2 ro2 u2 n2 B2 ch2 v2 nb2 G2 w2 T2) hP hD hS hA (rnS (rest := []) (c_below sa tb D cA cL l (xv >>> (2 &&& 31)) 6 (show 0 < 6 from by first | omega | assumption | decide) (show 6 < 2 ^ 31 from by first | omega | assumption | decide)) ([]) (wX cA x a dy co ti ro u 4 B ch v 2 G w T a2 dy2 co2 ti2 ro2 u2 n2 B2 ch2 v2 nb2 G2 w2 T2) hP hD hS hA hE ⟨hx, hb, hml, hown, hts⟩ (va_cwS 2 hts gL_law_L_below rfl rfl rfl (by decide +kernel) ⟨(Nat.le_of_ble_eq_true rfl), (Nat.le_of_ble_eq_true rfl)⟩) rfl hl.1 rfl (Nat.le_of_ble_eq_true rfl) dL_law_259 ⟨(Nat.le_of_ble_eq_true rfl), (Nat.le_of_ble_eq_true rfl)⟩) (fun _ => rfl) (fun r_259 u_259 H locs hw_259 hP hD hS => ?_)
        have hP : va_P D vwCl (wX cA x a dy co ti ro u 4 B ch v 2 G w T a2 dy2 co2 ti2 ro2 u2 n2 B2 ch2 v2 nb2 G2 w2 T2) H := hP
        have hD : va_D A (wX cA x a dy co ti ro u 4 B ch v 2 G w T a2 dy2 co2 ti2 ro2 u2 n2 B2 ch2 v2 nb2 G2 w2 T2) := hD
        refine w_eqi (show r_259 = nI (bel (xv >>> (2 &&& 31)) 6) from hw_259) ?_
        refine lv_iconst (v := 3) hx hb dL_law_262 (by decide) ?_
        refine rc_ne (tgt := 284) (a := bel (xv >>> (2 &&& 31)) 6) (b := 3) hx hb (by omega) (by omega) dL_law_263 (by decide) (fun c_263 => ?_) (fun c_263 => ?_)
        · exact J_pass C hi hG hs (K _ _ _ _ _ _ _ _ ((hG.days hi 20).next)) _ H locs ls ⟨_, _, _, _, _, _, _, _, _, _, _, _, _, _, _, _, _, _, _, rfl⟩ hP hD hS (lv_sub hl [0, 1, 2, 3, 4, 7] rfl)
        · refine lv_aload_n hx hb dL_law_266 rfl (lv_at hl 1 rfl) ?_
          refine lv_iconst (v := 0) hx hb dL_law_267 (by decide) ?_
          refine lv_iconst (v := 4) hx hb dL_law_268 (by decide) ?_
          refine goI ([]) ([]) hP hD hS hA (rnV (rest := []) (c_told sa tb D cA cL l x a dy co ti ro u 4 B ch v 2 G w T a2 dy2 co2 ti2 ro2 u2 n2 B2 ch2 v2 nb2 G2 w2 T2 0 4 (show 0 < 2 from by first | omega | assumption | decide) (show 2 ≤ 3 from by first | omega | assumption | decide) (show 4 < 6 from by first | omega | assumption | decide)) ([]) ([]) hP hD hS hA hE ⟨hx, hb, hml, hown, hts⟩ (cwV 2 hts gL_law_X4_told rfl rfl rfl (by decide +kernel) ⟨(Nat.le_of_ble_eq_true rfl), (Nat.le_of_ble_eq_true rfl)⟩) 4 0 rfl rfl rfl rfl hl.1 rfl (Nat.le_of_ble_eq_true rfl) dL_law_269 ⟨(Nat.le_of_ble_eq_true rfl), (Nat.le_of_ble_eq_true rfl)⟩) (fun _ => rfl) (fun r_269 u_269 H locs hw_269 hP hD hS => ?_)
          have hP : va_P D vwCl (wX cA x a dy co ti ro u 4 B ch v 2 G w T a2 dy2 co2 ti2 ro2 u2 n2 B2 ch2 v2 nb2 G2 w2 T2) H := hP
          have hD : va_D A (wX cA x a dy co ti ro u 4 B ch v 2 G w T a2 dy2 co2 ti2 ro2 u2 n2 B2 ch2 v2 nb2 G2 w2 T2) := hD
          refine w_eqi (show r_269 = tellG G 0 4 from hw_269) ?_
          refine lv_if_lt (tgt := 284) hx hb dL_law_272 (by decide) (fun c_272 => ?_) (fun c_272 => ?_)
          · exact J_pass C hi hG hs (K _ _ _ _ _ _ _ _ ((hG.days hi 20).next)) _ H locs ls ⟨_, _, _, _, _, _, _, _, _, _, _, _, _, _, _, _, _, _, _, rfl⟩ hP hD hS (lv_sub hl [0, 1, 2, 3, 4, 7] rfl)
          · obtain ⟨j0, hj, hq⟩ := land_ix c_272
            exact J_sell C hj hq (K _ _ _ _ _ _ _ _ (hG.sell hi hj)) _ H locs ls ⟨_, _, _, _, _, _, _, _, _, _, _, _, _, _, _, _, _, _, _, rfl⟩ hP hD hS (lv_sub hl [0, 1, 2, 3, 4] rfl)
      · exact J_sail C hi hk hG (K _ _ _ _ _ _ _ _ (((hG.send hbb hk).days hi 7).load hi hbb hk)) _ H locs ls ⟨_, _, _, _, _, _, _, _, _, _, _, _, _, _, _, _, _, _, _, rfl⟩ hP hD hS (lv_sub hl [0, 1, 2, 3, 4, 5, 6] rfl)
    · exact J_tie C hk (K _ _ _ _ _ _ _ _ (hG.tie hi hk)) _ H locs ls ⟨_, _, _, _, _, _, _, _, _, _, _, _, _, _, _, _, _, _, _, rfl⟩ hP hD hS (lv_sub hl [0, 1, 2, 3, 4, 6] rfl)
  · refine lv_aload_n hx hb dL_law_124 rfl (lv_at hl 1 rfl) ?_
    refine lv_iload hx hb dL_law_125 (lv_at hl 6 rfl) ?_
    refine lv_iconst (v := 2) hx hb dL_law_127 (by decide) ?_
    refine goI ([]) ([]) hP hD hS hA (rnV (rest := []) (c_about sa tb D cA cL l x a dy co ti ro u 4 B ch v 2 G w T a2 dy2 co2 ti2 ro2 u2 n2 B2 ch2 v2 nb2 G2 w2 T2 kb 2 (show kb < 4 from by first | omega | assumption | decide) (show 4 ≤ 8 from by first | omega | assumption | decide) (show 2 < 10 from by first | omega | assumption | decide)) ([]) ([]) hP hD hS hA hE ⟨hx, hb, hml, hown, hts⟩ (cwV 2 hts gL_law_X4_about rfl rfl rfl (by decide +kernel) ⟨(Nat.le_of_ble_eq_true rfl), (Nat.le_of_ble_eq_true rfl)⟩) 4 0 rfl rfl rfl rfl hl.1 rfl (Nat.le_of_ble_eq_true rfl) dL_law_128 ⟨(Nat.le_of_ble_eq_true rfl), (Nat.le_of_ble_eq_true rfl)⟩) (fun _ => rfl) (fun r_128 u_128 H locs hw_128 hP hD hS => ?_)
    have hP : va_P D vwCl (wX cA x a dy co ti ro u 4 B ch v 2 G w T a2 dy2 co2 ti2 ro2 u2 n2 B2 ch2 v2 nb2 G2 w2 T2) H := hP
    have hD : va_D A (wX cA x a dy co ti ro u 4 B ch v 2 G w T a2 dy2 co2 ti2 ro2 u2 n2 B2 ch2 v2 nb2 G2 w2 T2) := hD
    refine w_eqi (show r_128 = tellB B kb 2 from hw_128) ?_
    refine lv_if_le (tgt := 146) hx hb dL_law_131 (by decide) (fun c_131 => ?_) (fun c_131 => ?_)
    · refine lv_iload hx hb dL_law_146 (lv_at hl 5 rfl) ?_
      refine lv_iconst (v := 2) hx hb dL_law_148 (by decide) ?_
      refine lv_ishr hx hb dL_law_149 ?_
      refine lv_bipush (v := 6) hx hb dL_law_150 (by decide) ?_
      refine goI ([]) (wX cA x a dy co ti ro u 4 B ch v 2 G w T a2 dy2 co2 ti2 ro2 u2 n2 B2 ch2 v2 nb2 G2 w2 T2) hP hD hS hA (rnS (rest := []) (c_below sa tb D cA cL l (xv >>> (2 &&& 31)) 6 (show 0 < 6 from by first | omega | assumption | decide) (show 6 < 2 ^ 31 from by first | omega | assumption | decide)) ([]) (wX cA x a dy co ti ro u 4 B ch v 2 G w T a2 dy2 co2 ti2 ro2 u2 n2 B2 ch2 v2 nb2 G2 w2 T2) hP hD hS hA hE ⟨hx, hb, hml, hown, hts⟩ (va_cwS 2 hts gL_law_L_below rfl rfl rfl (by decide +kernel) ⟨(Nat.le_of_ble_eq_true rfl), (Nat.le_of_ble_eq_true rfl)⟩) rfl hl.1 rfl (Nat.le_of_ble_eq_true rfl) dL_law_152 ⟨(Nat.le_of_ble_eq_true rfl), (Nat.le_of_ble_eq_true rfl)⟩) (fun _ => rfl) (fun r_152 u_152 H locs hw_152 hP hD hS => ?_)
      have hP : va_P D vwCl (wX cA x a dy co ti ro u 4 B ch v 2 G w T a2 dy2 co2 ti2 ro2 u2 n2 B2 ch2 v2 nb2 G2 w2 T2) H := hP
      have hD : va_D A (wX cA x a dy co ti ro u 4 B ch v 2 G w T a2 dy2 co2 ti2 ro2 u2 n2 B2 ch2 v2 nb2 G2 w2 T2) := hD
      refine w_eqi (show r_152 = nI (bel (xv >>> (2 &&& 31)) 6) from hw_152) ?_
      refine lv_iconst (v := 1) hx hb dL_law_155 (by decide) ?_
      refine rc_ne (tgt := 171) (a := bel (xv >>> (2 &&& 31)) 6) (b := 1) hx hb (by omega) (by omega) dL_law_156 (by decide) (fun c_156 => ?_) (fun c_156 => ?_)
      · refine lv_iload hx hb dL_law_171 (lv_at hl 5 rfl) ?_
        refine lv_iconst (v := 2) hx hb dL_law_173 (by decide) ?_
        refine lv_ishr hx hb dL_law_174 ?_
        refine lv_bipush (v := 6) hx hb dL_law_175 (by decide) ?_
        refine goI ([]) (wX cA x a dy co ti ro u 4 B ch v 2 G w T a2 dy2 co2 ti2 ro2 u2 n2 B2 ch2 v2 nb2 G2 w2 T2) hP hD hS hA (rnS (rest := []) (c_below sa tb D cA cL l (xv >>> (2 &&& 31)) 6 (show 0 < 6 from by first | omega | assumption | decide) (show 6 < 2 ^ 31 from by first | omega | assumption | decide)) ([]) (wX cA x a dy co ti ro u 4 B ch v 2 G w T a2 dy2 co2 ti2 ro2 u2 n2 B2 ch2 v2 nb2 G2 w2 T2) hP hD hS hA hE ⟨hx, hb, hml, hown, hts⟩ (va_cwS 2 hts gL_law_L_below rfl rfl rfl (by decide +kernel) ⟨(Nat.le_of_ble_eq_true rfl), (Nat.le_of_ble_eq_true rfl)⟩) rfl hl.1 rfl (Nat.le_of_ble_eq_true rfl) dL_law_177 ⟨(Nat.le_of_ble_eq_true rfl), (Nat.le_of_ble_eq_true rfl)⟩) (fun _ => rfl) (fun r_177 u_177 H locs hw_177 hP hD hS => ?_)
        have hP : va_P D vwCl (wX cA x a dy co ti ro u 4 B ch v 2 G w T a2 dy2 co2 ti2 ro2 u2 n2 B2 ch2 v2 nb2 G2 w2 T2) H := hP
        have hD : va_D A (wX cA x a dy co ti ro u 4 B ch v 2 G w T a2 dy2 co2 ti2 ro2 u2 n2 B2 ch2 v2 nb2 G2 w2 T2) := hD
        refine w_eqi (show r_177 = nI (bel (xv >>> (2 &&& 31)) 6) from hw_177) ?_
        refine lv_iconst (v := 2) hx hb dL_law_180 (by decide) ?_
        refine rc_ne (tgt := 253) (a := bel (xv >>> (2 &&& 31)) 6) (b := 2) hx hb (by omega) (by omega) dL_law_181 (by decide) (fun c_181 => ?_) (fun c_181 => ?_)
        · refine lv_iload hx hb dL_law_253 (lv_at hl 5 rfl) ?_
          refine lv_iconst (v := 2) hx hb dL_law_255 (by decide) ?_
          refine lv_ishr hx hb dL_law_256 ?_
          refine lv_bipush (v := 6) hx hb dL_law_257 (by decide) ?_
          refine goI ([]) (wX cA x a dy co ti ro u 4 B ch v 2 G w T a2 dy2 co2 ti2 ro2 u2 n2 B2 ch2 v2 nb2 G2 w2 T2) hP hD hS hA (rnS (rest := []) (c_below sa tb D cA cL l (xv >>> (2 &&& 31)) 6 (show 0 < 6 from by first | omega | assumption | decide) (show 6 < 2 ^ 31 from by first | omega | assumption | decide)) ([]) (wX cA x a dy co ti ro u 4 B ch v 2 G w T a2 dy2 co2 ti2 ro2 u2 n2 B2 ch2 v2 nb2 G2 w2 T2) hP hD hS hA hE ⟨hx, hb, hml, hown, hts⟩ (va_cwS 2 hts gL_law_L_below rfl rfl rfl (by decide +kernel) ⟨(Nat.le_of_ble_eq_true rfl), (Nat.le_of_ble_eq_true rfl)⟩) rfl hl.1 rfl (Nat.le_of_ble_eq_true rfl) dL_law_259 ⟨(Nat.le_of_ble_eq_true rfl), (Nat.le_of_ble_eq_true rfl)⟩) (fun _ => rfl) (fun r_259 u_259 H locs hw_259 hP hD hS => ?_)
          have hP : va_P D vwCl (wX cA x a dy co ti ro u 4 B ch v 2 G w T a2 dy2 co2 ti2 ro2 u2 n2 B2 ch2 v2 nb2 G2 w2 T2) H := hP
          have hD : va_D A (wX cA x a dy co ti ro u 4 B ch v 2 G w T a2 dy2 co2 ti2 ro2 u2 n2 B2 ch2 v2 nb2 G2 w2 T2) := hD
          refine w_eqi (show r_259 = nI (bel (xv >>> (2 &&& 31)) 6) from hw_259) ?_
          refine lv_iconst (v := 3) hx hb dL_law_262 (by decide) ?_
          refine rc_ne (tgt := 284) (a := bel (xv >>> (2 &&& 31)) 6) (b := 3) hx hb (by omega) (by omega) dL_law_263 (by decide) (fun c_263 => ?_) (fun c_263 => ?_)
          · exact J_pass C hi hG hs (K _ _ _ _ _ _ _ _ ((hG.days hi 20).next)) _ H locs ls ⟨_, _, _, _, _, _, _, _, _, _, _, _, _, _, _, _, _, _, _, rfl⟩ hP hD hS (lv_sub hl [0, 1, 2, 3, 4, 7] rfl)
          · refine lv_aload_n hx hb dL_law_266 rfl (lv_at hl 1 rfl) ?_
            refine lv_iconst (v := 0) hx hb dL_law_267 (by decide) ?_
            refine lv_iconst (v := 4) hx hb dL_law_268 (by decide) ?_
            refine goI ([]) ([]) hP hD hS hA (rnV (rest := []) (c_told sa tb D cA cL l x a dy co ti ro u 4 B ch v 2 G w T a2 dy2 co2 ti2 ro2 u2 n2 B2 ch2 v2 nb2 G2 w2 T2 0 4 (show 0 < 2 from by first | omega | assumption | decide) (show 2 ≤ 3 from by first | omega | assumption | decide) (show 4 < 6 from by first | omega | assumption | decide)) ([]) ([]) hP hD hS hA hE ⟨hx, hb, hml, hown, hts⟩ (cwV 2 hts gL_law_X4_told rfl rfl rfl (by decide +kernel) ⟨(Nat.le_of_ble_eq_true rfl), (Nat.le_of_ble_eq_true rfl)⟩) 4 0 rfl rfl rfl rfl hl.1 rfl (Nat.le_of_ble_eq_true rfl) dL_law_269 ⟨(Nat.le_of_ble_eq_true rfl), (Nat.le_of_ble_eq_true rfl)⟩) (fun _ => rfl) (fun r_269 u_269 H locs hw_269 hP hD hS => ?_)
            have hP : va_P D vwCl (wX cA x a dy co ti ro u 4 B ch v 2 G w T a2 dy2 co2 ti2 ro2 u2 n2 B2 ch2 v2 nb2 G2 w2 T2) H := hP
            have hD : va_D A (wX cA x a dy co ti ro u 4 B ch v 2 G w T a2 dy2 co2 ti2 ro2 u2 n2 B2 ch2 v2 nb2 G2 w2 T2) := hD
            refine w_eqi (show r_269 = tellG G 0 4 from hw_269) ?_
            refine lv_if_lt (tgt := 284) hx hb dL_law_272 (by decide) (fun c_272 => ?_) (fun c_272 => ?_)
            · exact J_pass C hi hG hs (K _ _ _ _ _ _ _ _ ((hG.days hi 20).next)) _ H locs ls ⟨_, _, _, _, _, _, _, _, _, _, _, _, _, _, _, _, _, _, _, rfl⟩ hP hD hS (lv_sub hl [0, 1, 2, 3, 4, 7] rfl)
            · obtain ⟨j0, hj, hq⟩ := land_ix c_272
              exact J_sell C hj hq (K _ _ _ _ _ _ _ _ (hG.sell hi hj)) _ H locs ls ⟨_, _, _, _, _, _, _, _, _, _, _, _, _, _, _, _, _, _, _, rfl⟩ hP hD hS (lv_sub hl [0, 1, 2, 3, 4] rfl)
        · exact J_sail C hi hk hG (K _ _ _ _ _ _ _ _ (((hG.send hbb hk).days hi 7).load hi hbb hk)) _ H locs ls ⟨_, _, _, _, _, _, _, _, _, _, _, _, _, _, _, _, _, _, _, rfl⟩ hP hD hS (lv_sub hl [0, 1, 2, 3, 4, 5, 6] rfl)
      · exact J_tie C hk (K _ _ _ _ _ _ _ _ (hG.tie hi hk)) _ H locs ls ⟨_, _, _, _, _, _, _, _, _, _, _, _, _, _, _, _, _, _, _, rfl⟩ hP hD hS (lv_sub hl [0, 1, 2, 3, 4, 6] rfl)
    · exact J_cut C hk (bOk.age c_131) (K _ _ _ _ _ _ _ _ (hG.cut hi hk)) _ H locs ls ⟨_, _, _, _, _, _, _, _, _, _, _, _, _, _, _, _, _, _, _, rfl⟩ hP hD hS (lv_sub hl [0, 1, 2, 3, 4, 6] rfl)
