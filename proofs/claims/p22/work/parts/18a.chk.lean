/-! 18: the law's walk -/
theorem m_worth : Cond.fieldLink RL 77 "SedgeBargesLaw" "WORTH" "[I" ∈ wsL_law := List.mem_append_left _ (List.mem_append_left _ (List.mem_append_left _ (List.mem_append_left _ (List.mem_append_left _ (List.mem_append_left _ (List.mem_append_left _ (List.mem_append_left _ (List.mem_append_left _ (List.mem_append_left _ (List.mem_of_getElem? (i := 0) rfl))))))))))
/-- what holds wherever the law is -/
def LawC (p : Program) (s : State) (m : MethodId) (c : Code) (sa : Nat × Nat × (Nat → Int32)) (tb : Nat → Nat) (D : va_G) (cA cL : ClassId) (A : Nat → Prop) : Prop := p.tables.exec = Jvm.exec ∧ c.code = code ∧ c.maxLocals = 14 ∧ s.vm.findClass RL = some m.cls ∧ (∀ w ∈ wsL_law, w.before #[Value.ref sa.1] s = true) ∧ (∀ q : Nat, s.heap.size ≤ q → A q) ∧ En sa tb D cA cL A s s.heap
abbrev lvT (sa : Nat × Nat × (Nat → Int32)) (x : Nat) (cu ti : Int32) (i : Nat) : List (Nat × Value) := [(0, .ref sa.1), (1, .ref x), (2, .int cu), (3, .int ti), (4, .int (nI i))]
/-- the law goes on from here, in this state -/
def KT (p : Program) (l : Launch) (e : Env) (s : State) (m : MethodId) (below : List Frame) (meth : Method) (c : Code) (Q : State → Prop) (sa : Nat × Nat × (Nat → Int32)) (D : va_G) (cA : ClassId) (A : Nat → Prop) (x pc : Nat) (lv : List (Nat × Value)) (dy co ti ro : Int32) (B G : Nat → Nat → Int32) (T : Nat → Int32) : Prop := ∀ (Wd : va_W) (H : Heap) (locs : List Loc) (ls : Array Slot), GW cA x dy co ti ro B G T Wd → va_P D vwCl Wd H → va_D A Wd → va_S A s.heap H locs → lv_has ls 14 lv → W p l e room_1 s m #[Value.ref sa.1] below meth c H locs 39 230 Q (F0 m pc ls [])
set_option maxRecDepth 100000 in
set_option maxHeartbeats 4000000 in
theorem J_chkA {p : Program} {l : Launch} {e : Env} {s : State} {m : MethodId} {below : List Frame} {meth : Method} {c : Code} {Q : State → Prop} {sa : Nat × Nat × (Nat → Int32)} {tb : Nat → Nat} {D : va_G} {cA cL : ClassId} {A : Nat → Prop} {x i : Nat} {cu dy co ti ro : Int32} {B G : Nat → Nat → Int32} {T : Nat → Int32}  (C : LawC p s m c sa tb D cA cL A) (hi : i < 16) (hG : GS (i + 1) cu co ti ro B G T) (K : KT p l e s m below meth c Q sa D cA A x 385 (lvT sa x cu ti i) dy co ti ro B G T) : KT p l e s m below meth c Q sa D cA A x 305 (lvT sa x cu ti i) dy co ti ro B G T := by
  obtain ⟨hx, hb, hml, hown, hts, hA, hE⟩ := id C
  intro Wd H locs ls hW hP hD hS hl
  obtain ⟨a, u, ch, v, w, a2, dy2, co2, ti2, ro2, u2, n2, B2, ch2, v2, nb2, G2, w2, T2, rfl⟩ := hW
  have hl : lv_has ls 14 [(0, .ref sa.1), (1, .ref x), (2, .int cu), (3, .int ti), (4, .int (nI i))] := hl
  refine lv_aload_n hx hb dL_law_305 rfl (lv_at hl 1 rfl) ?_
  refine lv_iconst (v := 5) hx hb dL_law_306 (by decide) ?_
  refine goI ([]) ([]) hP hD hS hA (rnV (rest := []) (c_count sa tb D cA cL l x a dy co ti ro u 4 B ch v 2 G w T a2 dy2 co2 ti2 ro2 u2 n2 B2 ch2 v2 nb2 G2 w2 T2 5 (show 4 ≤ 8 from by first | omega | assumption | decide) (show 2 ≤ 3 from by first | omega | assumption | decide) (show 5 < 11 from by first | omega | assumption | decide)) ([]) ([]) hP hD hS hA hE ⟨hx, hb, hml, hown, hts⟩ (cwV 1 hts gL_law_X4_count rfl rfl rfl (by decide +kernel) ⟨(Nat.le_of_ble_eq_true rfl), (Nat.le_of_ble_eq_true rfl)⟩) 4 0 rfl rfl rfl rfl hl.1 rfl (Nat.le_of_ble_eq_true rfl) dL_law_307 ⟨(Nat.le_of_ble_eq_true rfl), (Nat.le_of_ble_eq_true rfl)⟩) (fun _ => rfl) (fun r_307 u_307 H locs hw_307 hP hD hS => ?_)
  have hP : va_P D vwCl (wX cA x a dy co ti ro u 4 B ch v 2 G w T a2 dy2 co2 ti2 ro2 u2 n2 B2 ch2 v2 nb2 G2 w2 T2) H := hP
  have hD : va_D A (wX cA x a dy co ti ro u 4 B ch v 2 G w T a2 dy2 co2 ti2 ro2 u2 n2 B2 ch2 v2 nb2 G2 w2 T2) := hD
  refine w_eqi (show r_307 = tellW dy co ti ro 4 B 2 G T 5 from hw_307) ?_
  refine lv_aload_n hx hb dL_law_310 rfl (lv_at hl 1 rfl) ?_
  refine lv_bipush (v := 6) hx hb dL_law_311 (by decide) ?_
  refine goI ([]) ([]) hP hD hS hA (rnV (rest := [.int (tellW dy co ti ro 4 B 2 G T 5)]) (c_count sa tb D cA cL l x a dy co ti ro u 4 B ch v 2 G w T a2 dy2 co2 ti2 ro2 u2 n2 B2 ch2 v2 nb2 G2 w2 T2 6 (show 4 ≤ 8 from by first | omega | assumption | decide) (show 2 ≤ 3 from by first | omega | assumption | decide) (show 6 < 11 from by first | omega | assumption | decide)) ([]) ([]) hP hD hS hA hE ⟨hx, hb, hml, hown, hts⟩ (cwV 1 hts gL_law_X4_count rfl rfl rfl (by decide +kernel) ⟨(Nat.le_of_ble_eq_true rfl), (Nat.le_of_ble_eq_true rfl)⟩) 4 0 rfl rfl rfl rfl hl.1 rfl (Nat.le_of_ble_eq_true rfl) dL_law_313 ⟨(Nat.le_of_ble_eq_true rfl), (Nat.le_of_ble_eq_true rfl)⟩) (fun _ => rfl) (fun r_313 u_313 H locs hw_313 hP hD hS => ?_)
  have hP : va_P D vwCl (wX cA x a dy co ti ro u 4 B ch v 2 G w T a2 dy2 co2 ti2 ro2 u2 n2 B2 ch2 v2 nb2 G2 w2 T2) H := hP
  have hD : va_D A (wX cA x a dy co ti ro u 4 B ch v 2 G w T a2 dy2 co2 ti2 ro2 u2 n2 B2 ch2 v2 nb2 G2 w2 T2) := hD
  refine w_eqi (show r_313 = tellW dy co ti ro 4 B 2 G T 6 from hw_313) ?_
  refine lv_iadd hx hb dL_law_316 ?_
  refine lv_aload_n hx hb dL_law_317 rfl (lv_at hl 1 rfl) ?_
  refine lv_bipush (v := 8) hx hb dL_law_318 (by decide) ?_
  refine goI ([]) ([]) hP hD hS hA (rnV (rest := [.int ((tellW dy co ti ro 4 B 2 G T 5) + (tellW dy co ti ro 4 B 2 G T 6))]) (c_count sa tb D cA cL l x a dy co ti ro u 4 B ch v 2 G w T a2 dy2 co2 ti2 ro2 u2 n2 B2 ch2 v2 nb2 G2 w2 T2 8 (show 4 ≤ 8 from by first | omega | assumption | decide) (show 2 ≤ 3 from by first | omega | assumption | decide) (show 8 < 11 from by first | omega | assumption | decide)) ([]) ([]) hP hD hS hA hE ⟨hx, hb, hml, hown, hts⟩ (cwV 1 hts gL_law_X4_count rfl rfl rfl (by decide +kernel) ⟨(Nat.le_of_ble_eq_true rfl), (Nat.le_of_ble_eq_true rfl)⟩) 4 0 rfl rfl rfl rfl hl.1 rfl (Nat.le_of_ble_eq_true rfl) dL_law_320 ⟨(Nat.le_of_ble_eq_true rfl), (Nat.le_of_ble_eq_true rfl)⟩) (fun _ => rfl) (fun r_320 u_320 H locs hw_320 hP hD hS => ?_)
  have hP : va_P D vwCl (wX cA x a dy co ti ro u 4 B ch v 2 G w T a2 dy2 co2 ti2 ro2 u2 n2 B2 ch2 v2 nb2 G2 w2 T2) H := hP
  have hD : va_D A (wX cA x a dy co ti ro u 4 B ch v 2 G w T a2 dy2 co2 ti2 ro2 u2 n2 B2 ch2 v2 nb2 G2 w2 T2) := hD
  refine w_eqi (show r_320 = tellW dy co ti ro 4 B 2 G T 8 from hw_320) ?_
  refine lv_iadd hx hb dL_law_323 ?_
  refine lv_aload_n hx hb dL_law_324 rfl (lv_at hl 1 rfl) ?_
  refine lv_bipush (v := 9) hx hb dL_law_325 (by decide) ?_
  refine goI ([]) ([]) hP hD hS hA (rnV (rest := [.int (((tellW dy co ti ro 4 B 2 G T 5) + (tellW dy co ti ro 4 B 2 G T 6)) + (tellW dy co ti ro 4 B 2 G T 8))]) (c_count sa tb D cA cL l x a dy co ti ro u 4 B ch v 2 G w T a2 dy2 co2 ti2 ro2 u2 n2 B2 ch2 v2 nb2 G2 w2 T2 9 (show 4 ≤ 8 from by first | omega | assumption | decide) (show 2 ≤ 3 from by first | omega | assumption | decide) (show 9 < 11 from by first | omega | assumption | decide)) ([]) ([]) hP hD hS hA hE ⟨hx, hb, hml, hown, hts⟩ (cwV 1 hts gL_law_X4_count rfl rfl rfl (by decide +kernel) ⟨(Nat.le_of_ble_eq_true rfl), (Nat.le_of_ble_eq_true rfl)⟩) 4 0 rfl rfl rfl rfl hl.1 rfl (Nat.le_of_ble_eq_true rfl) dL_law_327 ⟨(Nat.le_of_ble_eq_true rfl), (Nat.le_of_ble_eq_true rfl)⟩) (fun _ => rfl) (fun r_327 u_327 H locs hw_327 hP hD hS => ?_)
  have hP : va_P D vwCl (wX cA x a dy co ti ro u 4 B ch v 2 G w T a2 dy2 co2 ti2 ro2 u2 n2 B2 ch2 v2 nb2 G2 w2 T2) H := hP
  have hD : va_D A (wX cA x a dy co ti ro u 4 B ch v 2 G w T a2 dy2 co2 ti2 ro2 u2 n2 B2 ch2 v2 nb2 G2 w2 T2) := hD
  refine w_eqi (show r_327 = tellW dy co ti ro 4 B 2 G T 9 from hw_327) ?_
  refine lv_iadd hx hb dL_law_330 ?_
  refine lv_aload_n hx hb dL_law_331 rfl (lv_at hl 1 rfl) ?_
  refine lv_bipush (v := 10) hx hb dL_law_332 (by decide) ?_
  refine goI ([]) ([]) hP hD hS hA (rnV (rest := [.int ((((tellW dy co ti ro 4 B 2 G T 5) + (tellW dy co ti ro 4 B 2 G T 6)) + (tellW dy co ti ro 4 B 2 G T 8)) + (tellW dy co ti ro 4 B 2 G T 9))]) (c_count sa tb D cA cL l x a dy co ti ro u 4 B ch v 2 G w T a2 dy2 co2 ti2 ro2 u2 n2 B2 ch2 v2 nb2 G2 w2 T2 10 (show 4 ≤ 8 from by first | omega | assumption | decide) (show 2 ≤ 3 from by first | omega | assumption | decide) (show 10 < 11 from by first | omega | assumption | decide)) ([]) ([]) hP hD hS hA hE ⟨hx, hb, hml, hown, hts⟩ (cwV 1 hts gL_law_X4_count rfl rfl rfl (by decide +kernel) ⟨(Nat.le_of_ble_eq_true rfl), (Nat.le_of_ble_eq_true rfl)⟩) 4 0 rfl rfl rfl rfl hl.1 rfl (Nat.le_of_ble_eq_true rfl) dL_law_334 ⟨(Nat.le_of_ble_eq_true rfl), (Nat.le_of_ble_eq_true rfl)⟩) (fun _ => rfl) (fun r_334 u_334 H locs hw_334 hP hD hS => ?_)
  have hP : va_P D vwCl (wX cA x a dy co ti ro u 4 B ch v 2 G w T a2 dy2 co2 ti2 ro2 u2 n2 B2 ch2 v2 nb2 G2 w2 T2) H := hP
  have hD : va_D A (wX cA x a dy co ti ro u 4 B ch v 2 G w T a2 dy2 co2 ti2 ro2 u2 n2 B2 ch2 v2 nb2 G2 w2 T2) := hD
  refine w_eqi (show r_334 = tellW dy co ti ro 4 B 2 G T 10 from hw_334) ?_
  refine lv_iadd hx hb dL_law_337 ?_
  refine lv_topi (fun z_1 hz_1 => ?_)
  refine lv_istore (lv' := [(12, .int z_1), (0, .ref sa.1), (1, .ref x), (2, .int cu), (3, .int ti), (4, .int (nI i))]) hx hb dL_law_338 hl (by decide) rfl (fun ls hl => ?_)
  refine lv_iload hx hb dL_law_340 (lv_at hl 0 rfl) ?_
  refine lv_iload_n hx hb dL_law_342 rfl (lv_at hl 3 rfl) ?_
  refine lv_icmp_gt (tgt := 383) hx hb dL_law_343 (by decide) (fun c_343 => False.elim (by rw [hz_1] at c_343; exact hG.there (by omega) c_343)) (fun c_343 => ?_)
  refine lv_aload_n hx hb dL_law_346 rfl (lv_at hl 2 rfl) ?_
  refine lv_iconst (v := 2) hx hb dL_law_347 (by decide) ?_
  refine goI ([]) ([]) hP hD hS hA (rnV (rest := []) (c_count sa tb D cA cL l x a dy co ti ro u 4 B ch v 2 G w T a2 dy2 co2 ti2 ro2 u2 n2 B2 ch2 v2 nb2 G2 w2 T2 2 (show 4 ≤ 8 from by first | omega | assumption | decide) (show 2 ≤ 3 from by first | omega | assumption | decide) (show 2 < 11 from by first | omega | assumption | decide)) ([]) ([]) hP hD hS hA hE ⟨hx, hb, hml, hown, hts⟩ (cwV 1 hts gL_law_X4_count rfl rfl rfl (by decide +kernel) ⟨(Nat.le_of_ble_eq_true rfl), (Nat.le_of_ble_eq_true rfl)⟩) 4 0 rfl rfl rfl rfl hl.1 rfl (Nat.le_of_ble_eq_true rfl) dL_law_348 ⟨(Nat.le_of_ble_eq_true rfl), (Nat.le_of_ble_eq_true rfl)⟩) (fun _ => rfl) (fun r_348 u_348 H locs hw_348 hP hD hS => ?_)
  have hP : va_P D vwCl (wX cA x a dy co ti ro u 4 B ch v 2 G w T a2 dy2 co2 ti2 ro2 u2 n2 B2 ch2 v2 nb2 G2 w2 T2) H := hP
  have hD : va_D A (wX cA x a dy co ti ro u 4 B ch v 2 G w T a2 dy2 co2 ti2 ro2 u2 n2 B2 ch2 v2 nb2 G2 w2 T2) := hD
  refine w_eqi (show r_348 = tellW dy co ti ro 4 B 2 G T 2 from hw_348) ?_
  refine lv_iload_n hx hb dL_law_351 rfl (lv_at hl 4 rfl) ?_
  refine lv_icmp_ne (tgt := 383) hx hb dL_law_352 (by decide) (fun c_352 => False.elim (by exact c_352 rfl)) (fun c_352 => ?_)
  refine lv_iload_n hx hb dL_law_355 rfl (lv_at hl 4 rfl) ?_
  refine lv_if_lt (tgt := 383) hx hb dL_law_356 (by decide) (fun c_356 => False.elim (by exact t_nlt (by rw [t_n0]; exact hG.2.2.1) c_356)) (fun c_356 => ?_)
  refine lv_aload_n hx hb dL_law_359 rfl (lv_at hl 2 rfl) ?_
  refine lv_iconst (v := 1) hx hb dL_law_360 (by decide) ?_
  refine goI ([]) ([]) hP hD hS hA (rnV (rest := []) (c_count sa tb D cA cL l x a dy co ti ro u 4 B ch v 2 G w T a2 dy2 co2 ti2 ro2 u2 n2 B2 ch2 v2 nb2 G2 w2 T2 1 (show 4 ≤ 8 from by first | omega | assumption | decide) (show 2 ≤ 3 from by first | omega | assumption | decide) (show 1 < 11 from by first | omega | assumption | decide)) ([]) ([]) hP hD hS hA hE ⟨hx, hb, hml, hown, hts⟩ (cwV 1 hts gL_law_X4_count rfl rfl rfl (by decide +kernel) ⟨(Nat.le_of_ble_eq_true rfl), (Nat.le_of_ble_eq_true rfl)⟩) 4 0 rfl rfl rfl rfl hl.1 rfl (Nat.le_of_ble_eq_true rfl) dL_law_361 ⟨(Nat.le_of_ble_eq_true rfl), (Nat.le_of_ble_eq_true rfl)⟩) (fun _ => rfl) (fun r_361 u_361 H locs hw_361 hP hD hS => ?_)
  have hP : va_P D vwCl (wX cA x a dy co ti ro u 4 B ch v 2 G w T a2 dy2 co2 ti2 ro2 u2 n2 B2 ch2 v2 nb2 G2 w2 T2) H := hP
  have hD : va_D A (wX cA x a dy co ti ro u 4 B ch v 2 G w T a2 dy2 co2 ti2 ro2 u2 n2 B2 ch2 v2 nb2 G2 w2 T2) := hD
  refine w_eqi (show r_361 = tellW dy co ti ro 4 B 2 G T 1 from hw_361) ?_
  refine lv_bipush (v := 20) hx hb dL_law_364 (by decide) ?_
  refine lv_aload_n hx hb dL_law_366 rfl (lv_at hl 2 rfl) ?_
  refine lv_iconst (v := 0) hx hb dL_law_367 (by decide) ?_
  refine lv_iconst (v := 5) hx hb dL_law_368 (by decide) ?_
  refine goI ([]) ([]) hP hD hS hA (rnV (rest := [.int 20, .int (tellW dy co ti ro 4 B 2 G T 1)]) (c_told sa tb D cA cL l x a dy co ti ro u 4 B ch v 2 G w T a2 dy2 co2 ti2 ro2 u2 n2 B2 ch2 v2 nb2 G2 w2 T2 0 5 (show 0 < 2 from by first | omega | assumption | decide) (show 2 ≤ 3 from by first | omega | assumption | decide) (show 5 < 6 from by first | omega | assumption | decide)) ([]) ([]) hP hD hS hA hE ⟨hx, hb, hml, hown, hts⟩ (cwV 2 hts gL_law_X4_told rfl rfl rfl (by decide +kernel) ⟨(Nat.le_of_ble_eq_true rfl), (Nat.le_of_ble_eq_true rfl)⟩) 4 0 rfl rfl rfl rfl hl.1 rfl (Nat.le_of_ble_eq_true rfl) dL_law_369 ⟨(Nat.le_of_ble_eq_true rfl), (Nat.le_of_ble_eq_true rfl)⟩) (fun _ => rfl) (fun r_369 u_369 H locs hw_369 hP hD hS => ?_)
  have hP : va_P D vwCl (wX cA x a dy co ti ro u 4 B ch v 2 G w T a2 dy2 co2 ti2 ro2 u2 n2 B2 ch2 v2 nb2 G2 w2 T2) H := hP
  have hD : va_D A (wX cA x a dy co ti ro u 4 B ch v 2 G w T a2 dy2 co2 ti2 ro2 u2 n2 B2 ch2 v2 nb2 G2 w2 T2) := hD
  refine w_eqi (show r_369 = tellG G 0 5 from hw_369) ?_
  refine lv_iadd hx hb dL_law_372 ?_
  refine lv_aload_n hx hb dL_law_373 rfl (lv_at hl 2 rfl) ?_
  refine lv_iconst (v := 1) hx hb dL_law_374 (by decide) ?_
  refine lv_iconst (v := 5) hx hb dL_law_375 (by decide) ?_
  refine goI ([]) ([]) hP hD hS hA (rnV (rest := [.int (20 + (tellG G 0 5)), .int (tellW dy co ti ro 4 B 2 G T 1)]) (c_told sa tb D cA cL l x a dy co ti ro u 4 B ch v 2 G w T a2 dy2 co2 ti2 ro2 u2 n2 B2 ch2 v2 nb2 G2 w2 T2 1 5 (show 1 < 2 from by first | omega | assumption | decide) (show 2 ≤ 3 from by first | omega | assumption | decide) (show 5 < 6 from by first | omega | assumption | decide)) ([]) ([]) hP hD hS hA hE ⟨hx, hb, hml, hown, hts⟩ (cwV 2 hts gL_law_X4_told rfl rfl rfl (by decide +kernel) ⟨(Nat.le_of_ble_eq_true rfl), (Nat.le_of_ble_eq_true rfl)⟩) 4 0 rfl rfl rfl rfl hl.1 rfl (Nat.le_of_ble_eq_true rfl) dL_law_376 ⟨(Nat.le_of_ble_eq_true rfl), (Nat.le_of_ble_eq_true rfl)⟩) (fun _ => rfl) (fun r_376 u_376 H locs hw_376 hP hD hS => ?_)
  have hP : va_P D vwCl (wX cA x a dy co ti ro u 4 B ch v 2 G w T a2 dy2 co2 ti2 ro2 u2 n2 B2 ch2 v2 nb2 G2 w2 T2) H := hP
  have hD : va_D A (wX cA x a dy co ti ro u 4 B ch v 2 G w T a2 dy2 co2 ti2 ro2 u2 n2 B2 ch2 v2 nb2 G2 w2 T2) := hD
  refine w_eqi (show r_376 = tellG G 1 5 from hw_376) ?_
  refine lv_iadd hx hb dL_law_379 ?_
  refine lv_icmp_eq (tgt := 385) hx hb dL_law_380 (by decide) (fun c_380 => ?_) (fun c_380 => False.elim (by exact c_380 hG.2.2.2))
  exact K _ H locs ls ⟨_, _, _, _, _, _, _, _, _, _, _, _, _, _, _, _, _, _, _, rfl⟩ hP hD hS (lv_sub hl [1, 2, 3, 4, 5] rfl)
set_option maxRecDepth 100000 in
set_option maxHeartbeats 4000000 in
theorem J_chkB {p : Program} {l : Launch} {e : Env} {s : State} {m : MethodId} {below : List Frame} {meth : Method} {c : Code} {Q : State → Prop} {sa : Nat × Nat × (Nat → Int32)} {tb : Nat → Nat} {D : va_G} {cA cL : ClassId} {A : Nat → Prop} {x i : Nat} {cu dy co ti ro : Int32} {B G : Nat → Nat → Int32} {T : Nat → Int32}  (C : LawC p s m c sa tb D cA cL A) (hi : i < 16) (hG : GS (i + 1) cu co ti ro B G T) (K : KT p l e s m below meth c Q sa D cA A x 475 (lvT sa x cu ti i) dy co ti ro B G T) : KT p l e s m below meth c Q sa D cA A x 385 (lvT sa x cu ti i) dy co ti ro B G T := by
  obtain ⟨hx, hb, hml, hown, hts, hA, hE⟩ := id C
  intro Wd H locs ls hW hP hD hS hl
  obtain ⟨a, u, ch, v, w, a2, dy2, co2, ti2, ro2, u2, n2, B2, ch2, v2, nb2, G2, w2, T2, rfl⟩ := hW
  have hl : lv_has ls 14 [(0, .ref sa.1), (1, .ref x), (2, .int cu), (3, .int ti), (4, .int (nI i))] := hl
  refine lv_iconst (v := 0) hx hb dL_law_385 (by decide) ?_
  refine lv_istore (lv' := [(13, .int 0), (0, .ref sa.1), (1, .ref x), (2, .int cu), (3, .int ti), (4, .int (nI i))]) hx hb dL_law_386 hl (by decide) rfl (fun ls hl => ?_)
  refine lv_iload hx hb dL_law_388 (lv_at hl 0 rfl) ?_
  refine lv_iconst (v := 4) hx hb dL_law_390 (by decide) ?_
  refine lv_icmp_ge (tgt := 475) hx hb dL_law_391 (by decide) (fun q => absurd q (by decide)) (fun _ => ?_)
  refine lv_aload_n hx hb dL_law_394 rfl (lv_at hl 2 rfl) ?_
  refine lv_iload hx hb dL_law_395 (lv_at hl 0 rfl) ?_
  refine lv_iconst (v := 2) hx hb dL_law_397 (by decide) ?_
  refine goI ([]) ([]) hP hD hS hA (rnV (rest := []) (c_about sa tb D cA cL l x a dy co ti ro u 4 B ch v 2 G w T a2 dy2 co2 ti2 ro2 u2 n2 B2 ch2 v2 nb2 G2 w2 T2 0 2 (show 0 < 4 from by first | omega | assumption | decide) (show 4 ≤ 8 from by first | omega | assumption | decide) (show 2 < 10 from by first | omega | assumption | decide)) ([]) ([]) hP hD hS hA hE ⟨hx, hb, hml, hown, hts⟩ (cwV 2 hts gL_law_X4_about rfl rfl rfl (by decide +kernel) ⟨(Nat.le_of_ble_eq_true rfl), (Nat.le_of_ble_eq_true rfl)⟩) 4 0 rfl rfl rfl rfl hl.1 rfl (Nat.le_of_ble_eq_true rfl) dL_law_398 ⟨(Nat.le_of_ble_eq_true rfl), (Nat.le_of_ble_eq_true rfl)⟩) (fun _ => rfl) (fun r_398 u_398 H locs hw_398 hP hD hS => ?_)
  have hP : va_P D vwCl (wX cA x a dy co ti ro u 4 B ch v 2 G w T a2 dy2 co2 ti2 ro2 u2 n2 B2 ch2 v2 nb2 G2 w2 T2) H := hP
  have hD : va_D A (wX cA x a dy co ti ro u 4 B ch v 2 G w T a2 dy2 co2 ti2 ro2 u2 n2 B2 ch2 v2 nb2 G2 w2 T2) := hD
  refine w_eqi (show r_398 = tellB B 0 2 from hw_398) ?_
  refine lv_bipush (v := 9) hx hb dL_law_401 (by decide) ?_
  refine lv_icmp_gt (tgt := 467) hx hb dL_law_403 (by decide) (fun c_403 => False.elim (by exact (hG.1.1 0 (by decide)).a2 c_403)) (fun c_403 => ?_)
  refine lv_aload_n hx hb dL_law_406 rfl (lv_at hl 2 rfl) ?_
  refine lv_iload hx hb dL_law_407 (lv_at hl 0 rfl) ?_
  refine lv_iconst (v := 3) hx hb dL_law_409 (by decide) ?_
  refine goI ([]) ([]) hP hD hS hA (rnV (rest := []) (c_about sa tb D cA cL l x a dy co ti ro u 4 B ch v 2 G w T a2 dy2 co2 ti2 ro2 u2 n2 B2 ch2 v2 nb2 G2 w2 T2 0 3 (show 0 < 4 from by first | omega | assumption | decide) (show 4 ≤ 8 from by first | omega | assumption | decide) (show 3 < 10 from by first | omega | assumption | decide)) ([]) ([]) hP hD hS hA hE ⟨hx, hb, hml, hown, hts⟩ (cwV 2 hts gL_law_X4_about rfl rfl rfl (by decide +kernel) ⟨(Nat.le_of_ble_eq_true rfl), (Nat.le_of_ble_eq_true rfl)⟩) 4 0 rfl rfl rfl rfl hl.1 rfl (Nat.le_of_ble_eq_true rfl) dL_law_410 ⟨(Nat.le_of_ble_eq_true rfl), (Nat.le_of_ble_eq_true rfl)⟩) (fun _ => rfl) (fun r_410 u_410 H locs hw_410 hP hD hS => ?_)
  have hP : va_P D vwCl (wX cA x a dy co ti ro u 4 B ch v 2 G w T a2 dy2 co2 ti2 ro2 u2 n2 B2 ch2 v2 nb2 G2 w2 T2) H := hP
  have hD : va_D A (wX cA x a dy co ti ro u 4 B ch v 2 G w T a2 dy2 co2 ti2 ro2 u2 n2 B2 ch2 v2 nb2 G2 w2 T2) := hD
  refine w_eqi (show r_410 = tellB B 0 3 from hw_410) ?_
  refine lv_if_lt (tgt := 467) hx hb dL_law_413 (by decide) (fun c_413 => False.elim (by exact (hG.1.1 0 (by decide)).a3 c_413)) (fun c_413 => ?_)
  refine lv_aload_n hx hb dL_law_416 rfl (lv_at hl 2 rfl) ?_
  refine lv_iload hx hb dL_law_417 (lv_at hl 0 rfl) ?_
  refine lv_iconst (v := 3) hx hb dL_law_419 (by decide) ?_
  refine goI ([]) ([]) hP hD hS hA (rnV (rest := []) (c_about sa tb D cA cL l x a dy co ti ro u 4 B ch v 2 G w T a2 dy2 co2 ti2 ro2 u2 n2 B2 ch2 v2 nb2 G2 w2 T2 0 3 (show 0 < 4 from by first | omega | assumption | decide) (show 4 ≤ 8 from by first | omega | assumption | decide) (show 3 < 10 from by first | omega | assumption | decide)) ([]) ([]) hP hD hS hA hE ⟨hx, hb, hml, hown, hts⟩ (cwV 2 hts gL_law_X4_about rfl rfl rfl (by decide +kernel) ⟨(Nat.le_of_ble_eq_true rfl), (Nat.le_of_ble_eq_true rfl)⟩) 4 0 rfl rfl rfl rfl hl.1 rfl (Nat.le_of_ble_eq_true rfl) dL_law_420 ⟨(Nat.le_of_ble_eq_true rfl), (Nat.le_of_ble_eq_true rfl)⟩) (fun _ => rfl) (fun r_420 u_420 H locs hw_420 hP hD hS => ?_)
  have hP : va_P D vwCl (wX cA x a dy co ti ro u 4 B ch v 2 G w T a2 dy2 co2 ti2 ro2 u2 n2 B2 ch2 v2 nb2 G2 w2 T2) H := hP
  have hD : va_D A (wX cA x a dy co ti ro u 4 B ch v 2 G w T a2 dy2 co2 ti2 ro2 u2 n2 B2 ch2 v2 nb2 G2 w2 T2) := hD
  refine w_eqi (show r_420 = tellB B 0 3 from hw_420) ?_
  refine lv_bipush (v := 100) hx hb dL_law_423 (by decide) ?_
  refine lv_icmp_gt (tgt := 467) hx hb dL_law_425 (by decide) (fun c_425 => False.elim (by exact (hG.1.1 0 (by decide)).a100 c_425)) (fun c_425 => ?_)
  refine lv_aload_n hx hb dL_law_428 rfl (lv_at hl 2 rfl) ?_
  refine lv_iload hx hb dL_law_429 (lv_at hl 0 rfl) ?_
  refine lv_iconst (v := 5) hx hb dL_law_431 (by decide) ?_
  refine goI ([]) ([]) hP hD hS hA (rnV (rest := []) (c_about sa tb D cA cL l x a dy co ti ro u 4 B ch v 2 G w T a2 dy2 co2 ti2 ro2 u2 n2 B2 ch2 v2 nb2 G2 w2 T2 0 5 (show 0 < 4 from by first | omega | assumption | decide) (show 4 ≤ 8 from by first | omega | assumption | decide) (show 5 < 10 from by first | omega | assumption | decide)) ([]) ([]) hP hD hS hA hE ⟨hx, hb, hml, hown, hts⟩ (cwV 2 hts gL_law_X4_about rfl rfl rfl (by decide +kernel) ⟨(Nat.le_of_ble_eq_true rfl), (Nat.le_of_ble_eq_true rfl)⟩) 4 0 rfl rfl rfl rfl hl.1 rfl (Nat.le_of_ble_eq_true rfl) dL_law_432 ⟨(Nat.le_of_ble_eq_true rfl), (Nat.le_of_ble_eq_true rfl)⟩) (fun _ => rfl) (fun r_432 u_432 H locs hw_432 hP hD hS => ?_)
  have hP : va_P D vwCl (wX cA x a dy co ti ro u 4 B ch v 2 G w T a2 dy2 co2 ti2 ro2 u2 n2 B2 ch2 v2 nb2 G2 w2 T2) H := hP
  have hD : va_D A (wX cA x a dy co ti ro u 4 B ch v 2 G w T a2 dy2 co2 ti2 ro2 u2 n2 B2 ch2 v2 nb2 G2 w2 T2) := hD
  refine w_eqi (show r_432 = tellB B 0 5 from hw_432) ?_
  refine lv_aload_n hx hb dL_law_435 rfl (lv_at hl 2 rfl) ?_
  refine lv_iload hx hb dL_law_436 (lv_at hl 0 rfl) ?_
  refine lv_iconst (v := 4) hx hb dL_law_438 (by decide) ?_
  refine goI ([]) ([]) hP hD hS hA (rnV (rest := [.int (tellB B 0 5)]) (c_about sa tb D cA cL l x a dy co ti ro u 4 B ch v 2 G w T a2 dy2 co2 ti2 ro2 u2 n2 B2 ch2 v2 nb2 G2 w2 T2 0 4 (show 0 < 4 from by first | omega | assumption | decide) (show 4 ≤ 8 from by first | omega | assumption | decide) (show 4 < 10 from by first | omega | assumption | decide)) ([]) ([]) hP hD hS hA hE ⟨hx, hb, hml, hown, hts⟩ (cwV 2 hts gL_law_X4_about rfl rfl rfl (by decide +kernel) ⟨(Nat.le_of_ble_eq_true rfl), (Nat.le_of_ble_eq_true rfl)⟩) 4 0 rfl rfl rfl rfl hl.1 rfl (Nat.le_of_ble_eq_true rfl) dL_law_439 ⟨(Nat.le_of_ble_eq_true rfl), (Nat.le_of_ble_eq_true rfl)⟩) (fun _ => rfl) (fun r_439 u_439 H locs hw_439 hP hD hS => ?_)
  have hP : va_P D vwCl (wX cA x a dy co ti ro u 4 B ch v 2 G w T a2 dy2 co2 ti2 ro2 u2 n2 B2 ch2 v2 nb2 G2 w2 T2) H := hP
  have hD : va_D A (wX cA x a dy co ti ro u 4 B ch v 2 G w T a2 dy2 co2 ti2 ro2 u2 n2 B2 ch2 v2 nb2 G2 w2 T2) := hD
  refine w_eqi (show r_439 = tellB B 0 4 from hw_439) ?_
  refine lv_icmp_gt (tgt := 467) hx hb dL_law_442 (by decide) (fun c_442 => False.elim (by exact (hG.1.1 0 (by decide)).a5 c_442)) (fun c_442 => ?_)
  refine lv_aload_n hx hb dL_law_445 rfl (lv_at hl 2 rfl) ?_
  refine lv_iload hx hb dL_law_446 (lv_at hl 0 rfl) ?_
  refine lv_bipush (v := 6) hx hb dL_law_448 (by decide) ?_
  refine goI ([]) ([]) hP hD hS hA (rnV (rest := []) (c_about sa tb D cA cL l x a dy co ti ro u 4 B ch v 2 G w T a2 dy2 co2 ti2 ro2 u2 n2 B2 ch2 v2 nb2 G2 w2 T2 0 6 (show 0 < 4 from by first | omega | assumption | decide) (show 4 ≤ 8 from by first | omega | assumption | decide) (show 6 < 10 from by first | omega | assumption | decide)) ([]) ([]) hP hD hS hA hE ⟨hx, hb, hml, hown, hts⟩ (cwV 2 hts gL_law_X4_about rfl rfl rfl (by decide +kernel) ⟨(Nat.le_of_ble_eq_true rfl), (Nat.le_of_ble_eq_true rfl)⟩) 4 0 rfl rfl rfl rfl hl.1 rfl (Nat.le_of_ble_eq_true rfl) dL_law_450 ⟨(Nat.le_of_ble_eq_true rfl), (Nat.le_of_ble_eq_true rfl)⟩) (fun _ => rfl) (fun r_450 u_450 H locs hw_450 hP hD hS => ?_)
  have hP : va_P D vwCl (wX cA x a dy co ti ro u 4 B ch v 2 G w T a2 dy2 co2 ti2 ro2 u2 n2 B2 ch2 v2 nb2 G2 w2 T2) H := hP
  have hD : va_D A (wX cA x a dy co ti ro u 4 B ch v 2 G w T a2 dy2 co2 ti2 ro2 u2 n2 B2 ch2 v2 nb2 G2 w2 T2) := hD
  refine w_eqi (show r_450 = tellB B 0 6 from hw_450) ?_
  refine lv_if_lt (tgt := 467) hx hb dL_law_453 (by decide) (fun c_453 => False.elim (by exact (hG.1.1 0 (by decide)).a6 c_453)) (fun c_453 => ?_)
  refine lv_aload_n hx hb dL_law_456 rfl (lv_at hl 2 rfl) ?_
  refine lv_iload hx hb dL_law_457 (lv_at hl 0 rfl) ?_
  refine lv_bipush (v := 7) hx hb dL_law_459 (by decide) ?_
  refine goI ([]) ([]) hP hD hS hA (rnV (rest := []) (c_about sa tb D cA cL l x a dy co ti ro u 4 B ch v 2 G w T a2 dy2 co2 ti2 ro2 u2 n2 B2 ch2 v2 nb2 G2 w2 T2 0 7 (show 0 < 4 from by first | omega | assumption | decide) (show 4 ≤ 8 from by first | omega | assumption | decide) (show 7 < 10 from by first | omega | assumption | decide)) ([]) ([]) hP hD hS hA hE ⟨hx, hb, hml, hown, hts⟩ (cwV 2 hts gL_law_X4_about rfl rfl rfl (by decide +kernel) ⟨(Nat.le_of_ble_eq_true rfl), (Nat.le_of_ble_eq_true rfl)⟩) 4 0 rfl rfl rfl rfl hl.1 rfl (Nat.le_of_ble_eq_true rfl) dL_law_461 ⟨(Nat.le_of_ble_eq_true rfl), (Nat.le_of_ble_eq_true rfl)⟩) (fun _ => rfl) (fun r_461 u_461 H locs hw_461 hP hD hS => ?_)
  have hP : va_P D vwCl (wX cA x a dy co ti ro u 4 B ch v 2 G w T a2 dy2 co2 ti2 ro2 u2 n2 B2 ch2 v2 nb2 G2 w2 T2) H := hP
  have hD : va_D A (wX cA x a dy co ti ro u 4 B ch v 2 G w T a2 dy2 co2 ti2 ro2 u2 n2 B2 ch2 v2 nb2 G2 w2 T2) := hD
  refine w_eqi (show r_461 = tellB B 0 7 from hw_461) ?_
  refine lv_if_ge (tgt := 469) hx hb dL_law_464 (by decide) (fun c_464 => ?_) (fun c_464 => False.elim (by exact c_464 (hG.1.1 0 (by decide)).a7))
  refine lv_iinc (v := 1) (lv' := [(13, .int 1), (0, .ref sa.1), (1, .ref x), (2, .int cu), (3, .int ti), (4, .int (nI i))]) (k := 0) hx hb dL_law_469 hl rfl (by decide) (by decide) rfl (fun ls hl => ?_)
  refine lv_goto (tgt := 388) hx hb dL_law_472 (by decide) ?_
  refine lv_iload hx hb dL_law_388 (lv_at hl 0 rfl) ?_
  refine lv_iconst (v := 4) hx hb dL_law_390 (by decide) ?_
  refine lv_icmp_ge (tgt := 475) hx hb dL_law_391 (by decide) (fun q => absurd q (by decide)) (fun _ => ?_)
  refine lv_aload_n hx hb dL_law_394 rfl (lv_at hl 2 rfl) ?_
  refine lv_iload hx hb dL_law_395 (lv_at hl 0 rfl) ?_
  refine lv_iconst (v := 2) hx hb dL_law_397 (by decide) ?_
  refine goI ([]) ([]) hP hD hS hA (rnV (rest := []) (c_about sa tb D cA cL l x a dy co ti ro u 4 B ch v 2 G w T a2 dy2 co2 ti2 ro2 u2 n2 B2 ch2 v2 nb2 G2 w2 T2 1 2 (show 1 < 4 from by first | omega | assumption | decide) (show 4 ≤ 8 from by first | omega | assumption | decide) (show 2 < 10 from by first | omega | assumption | decide)) ([]) ([]) hP hD hS hA hE ⟨hx, hb, hml, hown, hts⟩ (cwV 2 hts gL_law_X4_about rfl rfl rfl (by decide +kernel) ⟨(Nat.le_of_ble_eq_true rfl), (Nat.le_of_ble_eq_true rfl)⟩) 4 0 rfl rfl rfl rfl hl.1 rfl (Nat.le_of_ble_eq_true rfl) dL_law_398 ⟨(Nat.le_of_ble_eq_true rfl), (Nat.le_of_ble_eq_true rfl)⟩) (fun _ => rfl) (fun r_398 u_398 H locs hw_398 hP hD hS => ?_)
  have hP : va_P D vwCl (wX cA x a dy co ti ro u 4 B ch v 2 G w T a2 dy2 co2 ti2 ro2 u2 n2 B2 ch2 v2 nb2 G2 w2 T2) H := hP
  have hD : va_D A (wX cA x a dy co ti ro u 4 B ch v 2 G w T a2 dy2 co2 ti2 ro2 u2 n2 B2 ch2 v2 nb2 G2 w2 T2) := hD
  refine w_eqi (show r_398 = tellB B 1 2 from hw_398) ?_
  refine lv_bipush (v := 9) hx hb dL_law_401 (by decide) ?_
  refine lv_icmp_gt (tgt := 467) hx hb dL_law_403 (by decide) (fun c_403_2 => False.elim (by exact (hG.1.1 1 (by decide)).a2 c_403_2)) (fun c_403_2 => ?_)
  refine lv_aload_n hx hb dL_law_406 rfl (lv_at hl 2 rfl) ?_
  refine lv_iload hx hb dL_law_407 (lv_at hl 0 rfl) ?_
  refine lv_iconst (v := 3) hx hb dL_law_409 (by decide) ?_
  refine goI ([]) ([]) hP hD hS hA (rnV (rest := []) (c_about sa tb D cA cL l x a dy co ti ro u 4 B ch v 2 G w T a2 dy2 co2 ti2 ro2 u2 n2 B2 ch2 v2 nb2 G2 w2 T2 1 3 (show 1 < 4 from by first | omega | assumption | decide) (show 4 ≤ 8 from by first | omega | assumption | decide) (show 3 < 10 from by first | omega | assumption | decide)) ([]) ([]) hP hD hS hA hE ⟨hx, hb, hml, hown, hts⟩ (cwV 2 hts gL_law_X4_about rfl rfl rfl (by decide +kernel) ⟨(Nat.le_of_ble_eq_true rfl), (Nat.le_of_ble_eq_true rfl)⟩) 4 0 rfl rfl rfl rfl hl.1 rfl (Nat.le_of_ble_eq_true rfl) dL_law_410 ⟨(Nat.le_of_ble_eq_true rfl), (Nat.le_of_ble_eq_true rfl)⟩) (fun _ => rfl) (fun r_410 u_410 H locs hw_410 hP hD hS => ?_)
  have hP : va_P D vwCl (wX cA x a dy co ti ro u 4 B ch v 2 G w T a2 dy2 co2 ti2 ro2 u2 n2 B2 ch2 v2 nb2 G2 w2 T2) H := hP
  have hD : va_D A (wX cA x a dy co ti ro u 4 B ch v 2 G w T a2 dy2 co2 ti2 ro2 u2 n2 B2 ch2 v2 nb2 G2 w2 T2) := hD
  refine w_eqi (show r_410 = tellB B 1 3 from hw_410) ?_
  refine lv_if_lt (tgt := 467) hx hb dL_law_413 (by decide) (fun c_413_2 => False.elim (by exact (hG.1.1 1 (by decide)).a3 c_413_2)) (fun c_413_2 => ?_)
  refine lv_aload_n hx hb dL_law_416 rfl (lv_at hl 2 rfl) ?_
  refine lv_iload hx hb dL_law_417 (lv_at hl 0 rfl) ?_
  refine lv_iconst (v := 3) hx hb dL_law_419 (by decide) ?_
  refine goI ([]) ([]) hP hD hS hA (rnV (rest := []) (c_about sa tb D cA cL l x a dy co ti ro u 4 B ch v 2 G w T a2 dy2 co2 ti2 ro2 u2 n2 B2 ch2 v2 nb2 G2 w2 T2 1 3 (show 1 < 4 from by first | omega | assumption | decide) (show 4 ≤ 8 from by first | omega | assumption | decide) (show 3 < 10 from by first | omega | assumption | decide)) ([]) ([]) hP hD hS hA hE ⟨hx, hb, hml, hown, hts⟩ (cwV 2 hts gL_law_X4_about rfl rfl rfl (by decide +kernel) ⟨(Nat.le_of_ble_eq_true rfl), (Nat.le_of_ble_eq_true rfl)⟩) 4 0 rfl rfl rfl rfl hl.1 rfl (Nat.le_of_ble_eq_true rfl) dL_law_420 ⟨(Nat.le_of_ble_eq_true rfl), (Nat.le_of_ble_eq_true rfl)⟩) (fun _ => rfl) (fun r_420 u_420 H locs hw_420 hP hD hS => ?_)
  have hP : va_P D vwCl (wX cA x a dy co ti ro u 4 B ch v 2 G w T a2 dy2 co2 ti2 ro2 u2 n2 B2 ch2 v2 nb2 G2 w2 T2) H := hP
  have hD : va_D A (wX cA x a dy co ti ro u 4 B ch v 2 G w T a2 dy2 co2 ti2 ro2 u2 n2 B2 ch2 v2 nb2 G2 w2 T2) := hD
  refine w_eqi (show r_420 = tellB B 1 3 from hw_420) ?_
  refine lv_bipush (v := 100) hx hb dL_law_423 (by decide) ?_
  refine lv_icmp_gt (tgt := 467) hx hb dL_law_425 (by decide) (fun c_425_2 => False.elim (by exact (hG.1.1 1 (by decide)).a100 c_425_2)) (fun c_425_2 => ?_)
  refine lv_aload_n hx hb dL_law_428 rfl (lv_at hl 2 rfl) ?_
  refine lv_iload hx hb dL_law_429 (lv_at hl 0 rfl) ?_
  refine lv_iconst (v := 5) hx hb dL_law_431 (by decide) ?_
  refine goI ([]) ([]) hP hD hS hA (rnV (rest := []) (c_about sa tb D cA cL l x a dy co ti ro u 4 B ch v 2 G w T a2 dy2 co2 ti2 ro2 u2 n2 B2 ch2 v2 nb2 G2 w2 T2 1 5 (show 1 < 4 from by first | omega | assumption | decide) (show 4 ≤ 8 from by first | omega | assumption | decide) (show 5 < 10 from by first | omega | assumption | decide)) ([]) ([]) hP hD hS hA hE ⟨hx, hb, hml, hown, hts⟩ (cwV 2 hts gL_law_X4_about rfl rfl rfl (by decide +kernel) ⟨(Nat.le_of_ble_eq_true rfl), (Nat.le_of_ble_eq_true rfl)⟩) 4 0 rfl rfl rfl rfl hl.1 rfl (Nat.le_of_ble_eq_true rfl) dL_law_432 ⟨(Nat.le_of_ble_eq_true rfl), (Nat.le_of_ble_eq_true rfl)⟩) (fun _ => rfl) (fun r_432 u_432 H locs hw_432 hP hD hS => ?_)
  have hP : va_P D vwCl (wX cA x a dy co ti ro u 4 B ch v 2 G w T a2 dy2 co2 ti2 ro2 u2 n2 B2 ch2 v2 nb2 G2 w2 T2) H := hP
  have hD : va_D A (wX cA x a dy co ti ro u 4 B ch v 2 G w T a2 dy2 co2 ti2 ro2 u2 n2 B2 ch2 v2 nb2 G2 w2 T2) := hD
  refine w_eqi (show r_432 = tellB B 1 5 from hw_432) ?_
  refine lv_aload_n hx hb dL_law_435 rfl (lv_at hl 2 rfl) ?_
  refine lv_iload hx hb dL_law_436 (lv_at hl 0 rfl) ?_
  refine lv_iconst (v := 4) hx hb dL_law_438 (by decide) ?_
  refine goI ([]) ([]) hP hD hS hA (rnV (rest := [.int (tellB B 1 5)]) (c_about sa tb D cA cL l x a dy co ti ro u 4 B ch v 2 G w T a2 dy2 co2 ti2 ro2 u2 n2 B2 ch2 v2 nb2 G2 w2 T2 1 4 (show 1 < 4 from by first | omega | assumption | decide) (show 4 ≤ 8 from by first | omega | assumption | decide) (show 4 < 10 from by first | omega | assumption | decide)) ([]) ([]) hP hD hS hA hE ⟨hx, hb, hml, hown, hts⟩ (cwV 2 hts gL_law_X4_about rfl rfl rfl (by decide +kernel) ⟨(Nat.le_of_ble_eq_true rfl), (Nat.le_of_ble_eq_true rfl)⟩) 4 0 rfl rfl rfl rfl hl.1 rfl (Nat.le_of_ble_eq_true rfl) dL_law_439 ⟨(Nat.le_of_ble_eq_true rfl), (Nat.le_of_ble_eq_true rfl)⟩) (fun _ => rfl) (fun r_439 u_439 H locs hw_439 hP hD hS => ?_)
  have hP : va_P D vwCl (wX cA x a dy co ti ro u 4 B ch v 2 G w T a2 dy2 co2 ti2 ro2 u2 n2 B2 ch2 v2 nb2 G2 w2 T2) H := hP
  have hD : va_D A (wX cA x a dy co ti ro u 4 B ch v 2 G w T a2 dy2 co2 ti2 ro2 u2 n2 B2 ch2 v2 nb2 G2 w2 T2) := hD
  refine w_eqi (show r_439 = tellB B 1 4 from hw_439) ?_
  refine lv_icmp_gt (tgt := 467) hx hb dL_law_442 (by decide) (fun c_442_2 => False.elim (by exact (hG.1.1 1 (by decide)).a5 c_442_2)) (fun c_442_2 => ?_)
  refine lv_aload_n hx hb dL_law_445 rfl (lv_at hl 2 rfl) ?_
  refine lv_iload hx hb dL_law_446 (lv_at hl 0 rfl) ?_
  refine lv_bipush (v := 6) hx hb dL_law_448 (by decide) ?_
  refine goI ([]) ([]) hP hD hS hA (rnV (rest := []) (c_about sa tb D cA cL l x a dy co ti ro u 4 B ch v 2 G w T a2 dy2 co2 ti2 ro2 u2 n2 B2 ch2 v2 nb2 G2 w2 T2 1 6 (show 1 < 4 from by first | omega | assumption | decide) (show 4 ≤ 8 from by first | omega | assumption | decide) (show 6 < 10 from by first | omega | assumption | decide)) ([]) ([]) hP hD hS hA hE ⟨hx, hb, hml, hown, hts⟩ (cwV 2 hts gL_law_X4_about rfl rfl rfl (by decide +kernel) ⟨(Nat.le_of_ble_eq_true rfl), (Nat.le_of_ble_eq_true rfl)⟩) 4 0 rfl rfl rfl rfl hl.1 rfl (Nat.le_of_ble_eq_true rfl) dL_law_450 ⟨(Nat.le_of_ble_eq_true rfl), (Nat.le_of_ble_eq_true rfl)⟩) (fun _ => rfl) (fun r_450 u_450 H locs hw_450 hP hD hS => ?_)
  have hP : va_P D vwCl (wX cA x a dy co ti ro u 4 B ch v 2 G w T a2 dy2 co2 ti2 ro2 u2 n2 B2 ch2 v2 nb2 G2 w2 T2) H := hP
  have hD : va_D A (wX cA x a dy co ti ro u 4 B ch v 2 G w T a2 dy2 co2 ti2 ro2 u2 n2 B2 ch2 v2 nb2 G2 w2 T2) := hD
  refine w_eqi (show r_450 = tellB B 1 6 from hw_450) ?_
  refine lv_if_lt (tgt := 467) hx hb dL_law_453 (by decide) (fun c_453_2 => False.elim (by exact (hG.1.1 1 (by decide)).a6 c_453_2)) (fun c_453_2 => ?_)
  refine lv_aload_n hx hb dL_law_456 rfl (lv_at hl 2 rfl) ?_
  refine lv_iload hx hb dL_law_457 (lv_at hl 0 rfl) ?_
  refine lv_bipush (v := 7) hx hb dL_law_459 (by decide) ?_
  refine goI ([]) ([]) hP hD hS hA (rnV (rest := []) (c_about sa tb D cA cL l x a dy co ti ro u 4 B ch v 2 G w T a2 dy2 co2 ti2 ro2 u2 n2 B2 ch2 v2 nb2 G2 w2 T2 1 7 (show 1 < 4 from by first | omega | assumption | decide) (show 4 ≤ 8 from by first | omega | assumption | decide) (show 7 < 10 from by first | omega | assumption | decide)) ([]) ([]) hP hD hS hA hE ⟨hx, hb, hml, hown, hts⟩ (cwV 2 hts gL_law_X4_about rfl rfl rfl (by decide +kernel) ⟨(Nat.le_of_ble_eq_true rfl), (Nat.le_of_ble_eq_true rfl)⟩) 4 0 rfl rfl rfl rfl hl.1 rfl (Nat.le_of_ble_eq_true rfl) dL_law_461 ⟨(Nat.le_of_ble_eq_true rfl), (Nat.le_of_ble_eq_true rfl)⟩) (fun _ => rfl) (fun r_461 u_461 H locs hw_461 hP hD hS => ?_)
  have hP : va_P D vwCl (wX cA x a dy co ti ro u 4 B ch v 2 G w T a2 dy2 co2 ti2 ro2 u2 n2 B2 ch2 v2 nb2 G2 w2 T2) H := hP
  have hD : va_D A (wX cA x a dy co ti ro u 4 B ch v 2 G w T a2 dy2 co2 ti2 ro2 u2 n2 B2 ch2 v2 nb2 G2 w2 T2) := hD
  refine w_eqi (show r_461 = tellB B 1 7 from hw_461) ?_
  refine lv_if_ge (tgt := 469) hx hb dL_law_464 (by decide) (fun c_464_2 => ?_) (fun c_464_2 => False.elim (by exact c_464_2 (hG.1.1 1 (by decide)).a7))
  refine lv_iinc (v := 2) (lv' := [(13, .int 2), (0, .ref sa.1), (1, .ref x), (2, .int cu), (3, .int ti), (4, .int (nI i))]) (k := 0) hx hb dL_law_469 hl rfl (by decide) (by decide) rfl (fun ls hl => ?_)
  refine lv_goto (tgt := 388) hx hb dL_law_472 (by decide) ?_
  refine lv_iload hx hb dL_law_388 (lv_at hl 0 rfl) ?_
  refine lv_iconst (v := 4) hx hb dL_law_390 (by decide) ?_
  refine lv_icmp_ge (tgt := 475) hx hb dL_law_391 (by decide) (fun q => absurd q (by decide)) (fun _ => ?_)
  refine lv_aload_n hx hb dL_law_394 rfl (lv_at hl 2 rfl) ?_
  refine lv_iload hx hb dL_law_395 (lv_at hl 0 rfl) ?_
  refine lv_iconst (v := 2) hx hb dL_law_397 (by decide) ?_
  refine goI ([]) ([]) hP hD hS hA (rnV (rest := []) (c_about sa tb D cA cL l x a dy co ti ro u 4 B ch v 2 G w T a2 dy2 co2 ti2 ro2 u2 n2 B2 ch2 v2 nb2 G2 w2 T2 2 2 (show 2 < 4 from by first | omega | assumption | decide) (show 4 ≤ 8 from by first | omega | assumption | decide) (show 2 < 10 from by first | omega | assumption | decide)) ([]) ([]) hP hD hS hA hE ⟨hx, hb, hml, hown, hts⟩ (cwV 2 hts gL_law_X4_about rfl rfl rfl (by decide +kernel) ⟨(Nat.le_of_ble_eq_true rfl), (Nat.le_of_ble_eq_true rfl)⟩) 4 0 rfl rfl rfl rfl hl.1 rfl (Nat.le_of_ble_eq_true rfl) dL_law_398 ⟨(Nat.le_of_ble_eq_true rfl), (Nat.le_of_ble_eq_true rfl)⟩) (fun _ => rfl) (fun r_398 u_398 H locs hw_398 hP hD hS => ?_)
  have hP : va_P D vwCl (wX cA x a dy co ti ro u 4 B ch v 2 G w T a2 dy2 co2 ti2 ro2 u2 n2 B2 ch2 v2 nb2 G2 w2 T2) H := hP
  have hD : va_D A (wX cA x a dy co ti ro u 4 B ch v 2 G w T a2 dy2 co2 ti2 ro2 u2 n2 B2 ch2 v2 nb2 G2 w2 T2) := hD
  refine w_eqi (show r_398 = tellB B 2 2 from hw_398) ?_
  refine lv_bipush (v := 9) hx hb dL_law_401 (by decide) ?_
  refine lv_icmp_gt (tgt := 467) hx hb dL_law_403 (by decide) (fun c_403_3 => False.elim (by exact (hG.1.1 2 (by decide)).a2 c_403_3)) (fun c_403_3 => ?_)
  refine lv_aload_n hx hb dL_law_406 rfl (lv_at hl 2 rfl) ?_
  refine lv_iload hx hb dL_law_407 (lv_at hl 0 rfl) ?_
  refine lv_iconst (v := 3) hx hb dL_law_409 (by decide) ?_
  refine goI ([]) ([]) hP hD hS hA (rnV (rest := []) (c_about sa tb D cA cL l x a dy co ti ro u 4 B ch v 2 G w T a2 dy2 co2 ti2 ro2 u2 n2 B2 ch2 v2 nb2 G2 w2 T2 2 3 (show 2 < 4 from by first | omega | assumption | decide) (show 4 ≤ 8 from by first | omega | assumption | decide) (show 3 < 10 from by first | omega | assumption | decide)) ([]) ([]) hP hD hS hA hE ⟨hx, hb, hml, hown, hts⟩ (cwV 2 hts gL_law_X4_about rfl rfl rfl (by decide +kernel) ⟨(Nat.le_of_ble_eq_true rfl), (Nat.le_of_ble_eq_true rfl)⟩) 4 0 rfl rfl rfl rfl hl.1 rfl (Nat.le_of_ble_eq_true rfl) dL_law_410 ⟨(Nat.le_of_ble_eq_true rfl), (Nat.le_of_ble_eq_true rfl)⟩) (fun _ => rfl) (fun r_410 u_410 H locs hw_410 hP hD hS => ?_)
  have hP : va_P D vwCl (wX cA x a dy co ti ro u 4 B ch v 2 G w T a2 dy2 co2 ti2 ro2 u2 n2 B2 ch2 v2 nb2 G2 w2 T2) H := hP
  have hD : va_D A (wX cA x a dy co ti ro u 4 B ch v 2 G w T a2 dy2 co2 ti2 ro2 u2 n2 B2 ch2 v2 nb2 G2 w2 T2) := hD
  refine w_eqi (show r_410 = tellB B 2 3 from hw_410) ?_
  refine lv_if_lt (tgt := 467) hx hb dL_law_413 (by decide) (fun c_413_3 => False.elim (by exact (hG.1.1 2 (by decide)).a3 c_413_3)) (fun c_413_3 => ?_)
  refine lv_aload_n hx hb dL_law_416 rfl (lv_at hl 2 rfl) ?_
  refine lv_iload hx hb dL_law_417 (lv_at hl 0 rfl) ?_
  refine lv_iconst (v := 3) hx hb dL_law_419 (by decide) ?_
  refine goI ([]) ([]) hP hD hS hA (rnV (rest := []) (c_about sa tb D cA cL l x a dy co ti ro u 4 B ch v 2 G w T a2 dy2 co2 ti2 ro2 u2 n2 B2 ch2 v2 nb2 G2 w2 T2 2 3 (show 2 < 4 from by first | omega | assumption | decide) (show 4 ≤ 8 from by first | omega | assumption | decide) (show 3 < 10 from by first | omega | assumption | decide)) ([]) ([]) hP hD hS hA hE ⟨hx, hb, hml, hown, hts⟩ (cwV 2 hts gL_law_X4_about rfl rfl rfl (by decide +kernel) ⟨(Nat.le_of_ble_eq_true rfl), (Nat.le_of_ble_eq_true rfl)⟩) 4 0 rfl rfl rfl rfl hl.1 rfl (Nat.le_of_ble_eq_true rfl) dL_law_420 ⟨(Nat.le_of_ble_eq_true rfl), (Nat.le_of_ble_eq_true rfl)⟩) (fun _ => rfl) (fun r_420 u_420 H locs hw_420 hP hD hS => ?_)
  have hP : va_P D vwCl (wX cA x a dy co ti ro u 4 B ch v 2 G w T a2 dy2 co2 ti2 ro2 u2 n2 B2 ch2 v2 nb2 G2 w2 T2) H := hP
  have hD : va_D A (wX cA x a dy co ti ro u 4 B ch v 2 G w T a2 dy2 co2 ti2 ro2 u2 n2 B2 ch2 v2 nb2 G2 w2 T2) := hD
  refine w_eqi (show r_420 = tellB B 2 3 from hw_420) ?_
  refine lv_bipush (v := 100) hx hb dL_law_423 (by decide) ?_
  refine lv_icmp_gt (tgt := 467) hx hb dL_law_425 (by decide) (fun c_425_3 => False.elim (by exact (hG.1.1 2 (by decide)).a100 c_425_3)) (fun c_425_3 => ?_)
  refine lv_aload_n hx hb dL_law_428 rfl (lv_at hl 2 rfl) ?_
  refine lv_iload hx hb dL_law_429 (lv_at hl 0 rfl) ?_
  refine lv_iconst (v := 5) hx hb dL_law_431 (by decide) ?_
  refine goI ([]) ([]) hP hD hS hA (rnV (rest := []) (c_about sa tb D cA cL l x a dy co ti ro u 4 B ch v 2 G w T a2 dy2 co2 ti2 ro2 u2 n2 B2 ch2 v2 nb2 G2 w2 T2 2 5 (show 2 < 4 from by first | omega | assumption | decide) (show 4 ≤ 8 from by first | omega | assumption | decide) (show 5 < 10 from by first | omega | assumption | decide)) ([]) ([]) hP hD hS hA hE ⟨hx, hb, hml, hown, hts⟩ (cwV 2 hts gL_law_X4_about rfl rfl rfl (by decide +kernel) ⟨(Nat.le_of_ble_eq_true rfl), (Nat.le_of_ble_eq_true rfl)⟩) 4 0 rfl rfl rfl rfl hl.1 rfl (Nat.le_of_ble_eq_true rfl) dL_law_432 ⟨(Nat.le_of_ble_eq_true rfl), (Nat.le_of_ble_eq_true rfl)⟩) (fun _ => rfl) (fun r_432 u_432 H locs hw_432 hP hD hS => ?_)
  have hP : va_P D vwCl (wX cA x a dy co ti ro u 4 B ch v 2 G w T a2 dy2 co2 ti2 ro2 u2 n2 B2 ch2 v2 nb2 G2 w2 T2) H := hP
  have hD : va_D A (wX cA x a dy co ti ro u 4 B ch v 2 G w T a2 dy2 co2 ti2 ro2 u2 n2 B2 ch2 v2 nb2 G2 w2 T2) := hD
  refine w_eqi (show r_432 = tellB B 2 5 from hw_432) ?_
  refine lv_aload_n hx hb dL_law_435 rfl (lv_at hl 2 rfl) ?_
  refine lv_iload hx hb dL_law_436 (lv_at hl 0 rfl) ?_
  refine lv_iconst (v := 4) hx hb dL_law_438 (by decide) ?_
  refine goI ([]) ([]) hP hD hS hA (rnV (rest := [.int (tellB B 2 5)]) (c_about sa tb D cA cL l x a dy co ti ro u 4 B ch v 2 G w T a2 dy2 co2 ti2 ro2 u2 n2 B2 ch2 v2 nb2 G2 w2 T2 2 4 (show 2 < 4 from by first | omega | assumption | decide) (show 4 ≤ 8 from by first | omega | assumption | decide) (show 4 < 10 from by first | omega | assumption | decide)) ([]) ([]) hP hD hS hA hE ⟨hx, hb, hml, hown, hts⟩ (cwV 2 hts gL_law_X4_about rfl rfl rfl (by decide +kernel) ⟨(Nat.le_of_ble_eq_true rfl), (Nat.le_of_ble_eq_true rfl)⟩) 4 0 rfl rfl rfl rfl hl.1 rfl (Nat.le_of_ble_eq_true rfl) dL_law_439 ⟨(Nat.le_of_ble_eq_true rfl), (Nat.le_of_ble_eq_true rfl)⟩) (fun _ => rfl) (fun r_439 u_439 H locs hw_439 hP hD hS => ?_)
  have hP : va_P D vwCl (wX cA x a dy co ti ro u 4 B ch v 2 G w T a2 dy2 co2 ti2 ro2 u2 n2 B2 ch2 v2 nb2 G2 w2 T2) H := hP
  have hD : va_D A (wX cA x a dy co ti ro u 4 B ch v 2 G w T a2 dy2 co2 ti2 ro2 u2 n2 B2 ch2 v2 nb2 G2 w2 T2) := hD
  refine w_eqi (show r_439 = tellB B 2 4 from hw_439) ?_
  refine lv_icmp_gt (tgt := 467) hx hb dL_law_442 (by decide) (fun c_442_3 => False.elim (by exact (hG.1.1 2 (by decide)).a5 c_442_3)) (fun c_442_3 => ?_)
  refine lv_aload_n hx hb dL_law_445 rfl (lv_at hl 2 rfl) ?_
  refine lv_iload hx hb dL_law_446 (lv_at hl 0 rfl) ?_
  refine lv_bipush (v := 6) hx hb dL_law_448 (by decide) ?_
  refine goI ([]) ([]) hP hD hS hA (rnV (rest := []) (c_about sa tb D cA cL l x a dy co ti ro u 4 B ch v 2 G w T a2 dy2 co2 ti2 ro2 u2 n2 B2 ch2 v2 nb2 G2 w2 T2 2 6 (show 2 < 4 from by first | omega | assumption | decide) (show 4 ≤ 8 from by first | omega | assumption | decide) (show 6 < 10 from by first | omega | assumption | decide)) ([]) ([]) hP hD hS hA hE ⟨hx, hb, hml, hown, hts⟩ (cwV 2 hts gL_law_X4_about rfl rfl rfl (by decide +kernel) ⟨(Nat.le_of_ble_eq_true rfl), (Nat.le_of_ble_eq_true rfl)⟩) 4 0 rfl rfl rfl rfl hl.1 rfl (Nat.le_of_ble_eq_true rfl) dL_law_450 ⟨(Nat.le_of_ble_eq_true rfl), (Nat.le_of_ble_eq_true rfl)⟩) (fun _ => rfl) (fun r_450 u_450 H locs hw_450 hP hD hS => ?_)
  have hP : va_P D vwCl (wX cA x a dy co ti ro u 4 B ch v 2 G w T a2 dy2 co2 ti2 ro2 u2 n2 B2 ch2 v2 nb2 G2 w2 T2) H := hP
  have hD : va_D A (wX cA x a dy co ti ro u 4 B ch v 2 G w T a2 dy2 co2 ti2 ro2 u2 n2 B2 ch2 v2 nb2 G2 w2 T2) := hD
  refine w_eqi (show r_450 = tellB B 2 6 from hw_450) ?_
  refine lv_if_lt (tgt := 467) hx hb dL_law_453 (by decide) (fun c_453_3 => False.elim (by exact (hG.1.1 2 (by decide)).a6 c_453_3)) (fun c_453_3 => ?_)
  refine lv_aload_n hx hb dL_law_456 rfl (lv_at hl 2 rfl) ?_
  refine lv_iload hx hb dL_law_457 (lv_at hl 0 rfl) ?_
  refine lv_bipush (v := 7) hx hb dL_law_459 (by decide) ?_
  refine goI ([]) ([]) hP hD hS hA (rnV (rest := []) (c_about sa tb D cA cL l x a dy co ti ro u 4 B ch v 2 G w T a2 dy2 co2 ti2 ro2 u2 n2 B2 ch2 v2 nb2 G2 w2 T2 2 7 (show 2 < 4 from by first | omega | assumption | decide) (show 4 ≤ 8 from by first | omega | assumption | decide) (show 7 < 10 from by first | omega | assumption | decide)) ([]) ([]) hP hD hS hA hE ⟨hx, hb, hml, hown, hts⟩ (cwV 2 hts gL_law_X4_about rfl rfl rfl (by decide +kernel) ⟨(Nat.le_of_ble_eq_true rfl), (Nat.le_of_ble_eq_true rfl)⟩) 4 0 rfl rfl rfl rfl hl.1 rfl (Nat.le_of_ble_eq_true rfl) dL_law_461 ⟨(Nat.le_of_ble_eq_true rfl), (Nat.le_of_ble_eq_true rfl)⟩) (fun _ => rfl) (fun r_461 u_461 H locs hw_461 hP hD hS => ?_)
  have hP : va_P D vwCl (wX cA x a dy co ti ro u 4 B ch v 2 G w T a2 dy2 co2 ti2 ro2 u2 n2 B2 ch2 v2 nb2 G2 w2 T2) H := hP
  have hD : va_D A (wX cA x a dy co ti ro u 4 B ch v 2 G w T a2 dy2 co2 ti2 ro2 u2 n2 B2 ch2 v2 nb2 G2 w2 T2) := hD
  refine w_eqi (show r_461 = tellB B 2 7 from hw_461) ?_
  refine lv_if_ge (tgt := 469) hx hb dL_law_464 (by decide) (fun c_464_3 => ?_) (fun c_464_3 => False.elim (by exact c_464_3 (hG.1.1 2 (by decide)).a7))
  refine lv_iinc (v := 3) (lv' := [(13, .int 3), (0, .ref sa.1), (1, .ref x), (2, .int cu), (3, .int ti), (4, .int (nI i))]) (k := 0) hx hb dL_law_469 hl rfl (by decide) (by decide) rfl (fun ls hl => ?_)
  refine lv_goto (tgt := 388) hx hb dL_law_472 (by decide) ?_
  refine lv_iload hx hb dL_law_388 (lv_at hl 0 rfl) ?_
  refine lv_iconst (v := 4) hx hb dL_law_390 (by decide) ?_
  refine lv_icmp_ge (tgt := 475) hx hb dL_law_391 (by decide) (fun q => absurd q (by decide)) (fun _ => ?_)
  refine lv_aload_n hx hb dL_law_394 rfl (lv_at hl 2 rfl) ?_
  refine lv_iload hx hb dL_law_395 (lv_at hl 0 rfl) ?_
  refine lv_iconst (v := 2) hx hb dL_law_397 (by decide) ?_
  refine goI ([]) ([]) hP hD hS hA (rnV (rest := []) (c_about sa tb D cA cL l x a dy co ti ro u 4 B ch v 2 G w T a2 dy2 co2 ti2 ro2 u2 n2 B2 ch2 v2 nb2 G2 w2 T2 3 2 (show 3 < 4 from by first | omega | assumption | decide) (show 4 ≤ 8 from by first | omega | assumption | decide) (show 2 < 10 from by first | omega | assumption | decide)) ([]) ([]) hP hD hS hA hE ⟨hx, hb, hml, hown, hts⟩ (cwV 2 hts gL_law_X4_about rfl rfl rfl (by decide +kernel) ⟨(Nat.le_of_ble_eq_true rfl), (Nat.le_of_ble_eq_true rfl)⟩) 4 0 rfl rfl rfl rfl hl.1 rfl (Nat.le_of_ble_eq_true rfl) dL_law_398 ⟨(Nat.le_of_ble_eq_true rfl), (Nat.le_of_ble_eq_true rfl)⟩) (fun _ => rfl) (fun r_398 u_398 H locs hw_398 hP hD hS => ?_)
  have hP : va_P D vwCl (wX cA x a dy co ti ro u 4 B ch v 2 G w T a2 dy2 co2 ti2 ro2 u2 n2 B2 ch2 v2 nb2 G2 w2 T2) H := hP
  have hD : va_D A (wX cA x a dy co ti ro u 4 B ch v 2 G w T a2 dy2 co2 ti2 ro2 u2 n2 B2 ch2 v2 nb2 G2 w2 T2) := hD
  refine w_eqi (show r_398 = tellB B 3 2 from hw_398) ?_
  refine lv_bipush (v := 9) hx hb dL_law_401 (by decide) ?_
  refine lv_icmp_gt (tgt := 467) hx hb dL_law_403 (by decide) (fun c_403_4 => False.elim (by exact (hG.1.1 3 (by decide)).a2 c_403_4)) (fun c_403_4 => ?_)
  refine lv_aload_n hx hb dL_law_406 rfl (lv_at hl 2 rfl) ?_
  refine lv_iload hx hb dL_law_407 (lv_at hl 0 rfl) ?_
  refine lv_iconst (v := 3) hx hb dL_law_409 (by decide) ?_
  refine goI ([]) ([]) hP hD hS hA (rnV (rest := []) (c_about sa tb D cA cL l x a dy co ti ro u 4 B ch v 2 G w T a2 dy2 co2 ti2 ro2 u2 n2 B2 ch2 v2 nb2 G2 w2 T2 3 3 (show 3 < 4 from by first | omega | assumption | decide) (show 4 ≤ 8 from by first | omega | assumption | decide) (show 3 < 10 from by first | omega | assumption | decide)) ([]) ([]) hP hD hS hA hE ⟨hx, hb, hml, hown, hts⟩ (cwV 2 hts gL_law_X4_about rfl rfl rfl (by decide +kernel) ⟨(Nat.le_of_ble_eq_true rfl), (Nat.le_of_ble_eq_true rfl)⟩) 4 0 rfl rfl rfl rfl hl.1 rfl (Nat.le_of_ble_eq_true rfl) dL_law_410 ⟨(Nat.le_of_ble_eq_true rfl), (Nat.le_of_ble_eq_true rfl)⟩) (fun _ => rfl) (fun r_410 u_410 H locs hw_410 hP hD hS => ?_)
  have hP : va_P D vwCl (wX cA x a dy co ti ro u 4 B ch v 2 G w T a2 dy2 co2 ti2 ro2 u2 n2 B2 ch2 v2 nb2 G2 w2 T2) H := hP
  have hD : va_D A (wX cA x a dy co ti ro u 4 B ch v 2 G w T a2 dy2 co2 ti2 ro2 u2 n2 B2 ch2 v2 nb2 G2 w2 T2) := hD
  refine w_eqi (show r_410 = tellB B 3 3 from hw_410) ?_
  refine lv_if_lt (tgt := 467) hx hb dL_law_413 (by decide) (fun c_413_4 => False.elim (by exact (hG.1.1 3 (by decide)).a3 c_413_4)) (fun c_413_4 => ?_)
  refine lv_aload_n hx hb dL_law_416 rfl (lv_at hl 2 rfl) ?_
  refine lv_iload hx hb dL_law_417 (lv_at hl 0 rfl) ?_
  refine lv_iconst (v := 3) hx hb dL_law_419 (by decide) ?_
  refine goI ([]) ([]) hP hD hS hA (rnV (rest := []) (c_about sa tb D cA cL l x a dy co ti ro u 4 B ch v 2 G w T a2 dy2 co2 ti2 ro2 u2 n2 B2 ch2 v2 nb2 G2 w2 T2 3 3 (show 3 < 4 from by first | omega | assumption | decide) (show 4 ≤ 8 from by first | omega | assumption | decide) (show 3 < 10 from by first | omega | assumption | decide)) ([]) ([]) hP hD hS hA hE ⟨hx, hb, hml, hown, hts⟩ (cwV 2 hts gL_law_X4_about rfl rfl rfl (by decide +kernel) ⟨(Nat.le_of_ble_eq_true rfl), (Nat.le_of_ble_eq_true rfl)⟩) 4 0 rfl rfl rfl rfl hl.1 rfl (Nat.le_of_ble_eq_true rfl) dL_law_420 ⟨(Nat.le_of_ble_eq_true rfl), (Nat.le_of_ble_eq_true rfl)⟩) (fun _ => rfl) (fun r_420 u_420 H locs hw_420 hP hD hS => ?_)
  have hP : va_P D vwCl (wX cA x a dy co ti ro u 4 B ch v 2 G w T a2 dy2 co2 ti2 ro2 u2 n2 B2 ch2 v2 nb2 G2 w2 T2) H := hP
  have hD : va_D A (wX cA x a dy co ti ro u 4 B ch v 2 G w T a2 dy2 co2 ti2 ro2 u2 n2 B2 ch2 v2 nb2 G2 w2 T2) := hD
  refine w_eqi (show r_420 = tellB B 3 3 from hw_420) ?_
  refine lv_bipush (v := 100) hx hb dL_law_423 (by decide) ?_
  refine lv_icmp_gt (tgt := 467) hx hb dL_law_425 (by decide) (fun c_425_4 => False.elim (by exact (hG.1.1 3 (by decide)).a100 c_425_4)) (fun c_425_4 => ?_)
  refine lv_aload_n hx hb dL_law_428 rfl (lv_at hl 2 rfl) ?_
  refine lv_iload hx hb dL_law_429 (lv_at hl 0 rfl) ?_
  refine lv_iconst (v := 5) hx hb dL_law_431 (by decide) ?_
  refine goI ([]) ([]) hP hD hS hA (rnV (rest := []) (c_about sa tb D cA cL l x a dy co ti ro u 4 B ch v 2 G w T a2 dy2 co2 ti2 ro2 u2 n2 B2 ch2 v2 nb2 G2 w2 T2 3 5 (show 3 < 4 from by first | omega | assumption | decide) (show 4 ≤ 8 from by first | omega | assumption | decide) (show 5 < 10 from by first | omega | assumption | decide)) ([]) ([]) hP hD hS hA hE ⟨hx, hb, hml, hown, hts⟩ (cwV 2 hts gL_law_X4_about rfl rfl rfl (by decide +kernel) ⟨(Nat.le_of_ble_eq_true rfl), (Nat.le_of_ble_eq_true rfl)⟩) 4 0 rfl rfl rfl rfl hl.1 rfl (Nat.le_of_ble_eq_true rfl) dL_law_432 ⟨(Nat.le_of_ble_eq_true rfl), (Nat.le_of_ble_eq_true rfl)⟩) (fun _ => rfl) (fun r_432 u_432 H locs hw_432 hP hD hS => ?_)
  have hP : va_P D vwCl (wX cA x a dy co ti ro u 4 B ch v 2 G w T a2 dy2 co2 ti2 ro2 u2 n2 B2 ch2 v2 nb2 G2 w2 T2) H := hP
  have hD : va_D A (wX cA x a dy co ti ro u 4 B ch v 2 G w T a2 dy2 co2 ti2 ro2 u2 n2 B2 ch2 v2 nb2 G2 w2 T2) := hD
  refine w_eqi (show r_432 = tellB B 3 5 from hw_432) ?_
  refine lv_aload_n hx hb dL_law_435 rfl (lv_at hl 2 rfl) ?_
  refine lv_iload hx hb dL_law_436 (lv_at hl 0 rfl) ?_
  refine lv_iconst (v := 4) hx hb dL_law_438 (by decide) ?_
  refine goI ([]) ([]) hP hD hS hA (rnV (rest := [.int (tellB B 3 5)]) (c_about sa tb D cA cL l x a dy co ti ro u 4 B ch v 2 G w T a2 dy2 co2 ti2 ro2 u2 n2 B2 ch2 v2 nb2 G2 w2 T2 3 4 (show 3 < 4 from by first | omega | assumption | decide) (show 4 ≤ 8 from by first | omega | assumption | decide) (show 4 < 10 from by first | omega | assumption | decide)) ([]) ([]) hP hD hS hA hE ⟨hx, hb, hml, hown, hts⟩ (cwV 2 hts gL_law_X4_about rfl rfl rfl (by decide +kernel) ⟨(Nat.le_of_ble_eq_true rfl), (Nat.le_of_ble_eq_true rfl)⟩) 4 0 rfl rfl rfl rfl hl.1 rfl (Nat.le_of_ble_eq_true rfl) dL_law_439 ⟨(Nat.le_of_ble_eq_true rfl), (Nat.le_of_ble_eq_true rfl)⟩) (fun _ => rfl) (fun r_439 u_439 H locs hw_439 hP hD hS => ?_)
  have hP : va_P D vwCl (wX cA x a dy co ti ro u 4 B ch v 2 G w T a2 dy2 co2 ti2 ro2 u2 n2 B2 ch2 v2 nb2 G2 w2 T2) H := hP
  have hD : va_D A (wX cA x a dy co ti ro u 4 B ch v 2 G w T a2 dy2 co2 ti2 ro2 u2 n2 B2 ch2 v2 nb2 G2 w2 T2) := hD
  refine w_eqi (show r_439 = tellB B 3 4 from hw_439) ?_
  refine lv_icmp_gt (tgt := 467) hx hb dL_law_442 (by decide) (fun c_442_4 => False.elim (by exact (hG.1.1 3 (by decide)).a5 c_442_4)) (fun c_442_4 => ?_)
  refine lv_aload_n hx hb dL_law_445 rfl (lv_at hl 2 rfl) ?_
  refine lv_iload hx hb dL_law_446 (lv_at hl 0 rfl) ?_
  refine lv_bipush (v := 6) hx hb dL_law_448 (by decide) ?_
  refine goI ([]) ([]) hP hD hS hA (rnV (rest := []) (c_about sa tb D cA cL l x a dy co ti ro u 4 B ch v 2 G w T a2 dy2 co2 ti2 ro2 u2 n2 B2 ch2 v2 nb2 G2 w2 T2 3 6 (show 3 < 4 from by first | omega | assumption | decide) (show 4 ≤ 8 from by first | omega | assumption | decide) (show 6 < 10 from by first | omega | assumption | decide)) ([]) ([]) hP hD hS hA hE ⟨hx, hb, hml, hown, hts⟩ (cwV 2 hts gL_law_X4_about rfl rfl rfl (by decide +kernel) ⟨(Nat.le_of_ble_eq_true rfl), (Nat.le_of_ble_eq_true rfl)⟩) 4 0 rfl rfl rfl rfl hl.1 rfl (Nat.le_of_ble_eq_true rfl) dL_law_450 ⟨(Nat.le_of_ble_eq_true rfl), (Nat.le_of_ble_eq_true rfl)⟩) (fun _ => rfl) (fun r_450 u_450 H locs hw_450 hP hD hS => ?_)
  have hP : va_P D vwCl (wX cA x a dy co ti ro u 4 B ch v 2 G w T a2 dy2 co2 ti2 ro2 u2 n2 B2 ch2 v2 nb2 G2 w2 T2) H := hP
  have hD : va_D A (wX cA x a dy co ti ro u 4 B ch v 2 G w T a2 dy2 co2 ti2 ro2 u2 n2 B2 ch2 v2 nb2 G2 w2 T2) := hD
  refine w_eqi (show r_450 = tellB B 3 6 from hw_450) ?_
  refine lv_if_lt (tgt := 467) hx hb dL_law_453 (by decide) (fun c_453_4 => False.elim (by exact (hG.1.1 3 (by decide)).a6 c_453_4)) (fun c_453_4 => ?_)
  refine lv_aload_n hx hb dL_law_456 rfl (lv_at hl 2 rfl) ?_
  refine lv_iload hx hb dL_law_457 (lv_at hl 0 rfl) ?_
  refine lv_bipush (v := 7) hx hb dL_law_459 (by decide) ?_
  refine goI ([]) ([]) hP hD hS hA (rnV (rest := []) (c_about sa tb D cA cL l x a dy co ti ro u 4 B ch v 2 G w T a2 dy2 co2 ti2 ro2 u2 n2 B2 ch2 v2 nb2 G2 w2 T2 3 7 (show 3 < 4 from by first | omega | assumption | decide) (show 4 ≤ 8 from by first | omega | assumption | decide) (show 7 < 10 from by first | omega | assumption | decide)) ([]) ([]) hP hD hS hA hE ⟨hx, hb, hml, hown, hts⟩ (cwV 2 hts gL_law_X4_about rfl rfl rfl (by decide +kernel) ⟨(Nat.le_of_ble_eq_true rfl), (Nat.le_of_ble_eq_true rfl)⟩) 4 0 rfl rfl rfl rfl hl.1 rfl (Nat.le_of_ble_eq_true rfl) dL_law_461 ⟨(Nat.le_of_ble_eq_true rfl), (Nat.le_of_ble_eq_true rfl)⟩) (fun _ => rfl) (fun r_461 u_461 H locs hw_461 hP hD hS => ?_)
  have hP : va_P D vwCl (wX cA x a dy co ti ro u 4 B ch v 2 G w T a2 dy2 co2 ti2 ro2 u2 n2 B2 ch2 v2 nb2 G2 w2 T2) H := hP
  have hD : va_D A (wX cA x a dy co ti ro u 4 B ch v 2 G w T a2 dy2 co2 ti2 ro2 u2 n2 B2 ch2 v2 nb2 G2 w2 T2) := hD
  refine w_eqi (show r_461 = tellB B 3 7 from hw_461) ?_
  refine lv_if_ge (tgt := 469) hx hb dL_law_464 (by decide) (fun c_464_4 => ?_) (fun c_464_4 => False.elim (by exact c_464_4 (hG.1.1 3 (by decide)).a7))
  refine lv_iinc (v := 4) (lv' := [(13, .int 4), (0, .ref sa.1), (1, .ref x), (2, .int cu), (3, .int ti), (4, .int (nI i))]) (k := 0) hx hb dL_law_469 hl rfl (by decide) (by decide) rfl (fun ls hl => ?_)
  refine lv_goto (tgt := 388) hx hb dL_law_472 (by decide) ?_
  refine lv_iload hx hb dL_law_388 (lv_at hl 0 rfl) ?_
  refine lv_iconst (v := 4) hx hb dL_law_390 (by decide) ?_
  refine lv_icmp_ge (tgt := 475) hx hb dL_law_391 (by decide) (fun _ => ?_) (fun q => absurd (by decide) q)
  exact K _ H locs ls ⟨_, _, _, _, _, _, _, _, _, _, _, _, _, _, _, _, _, _, _, rfl⟩ hP hD hS (lv_sub hl [1, 2, 3, 4, 5] rfl)
set_option maxRecDepth 100000 in
set_option maxHeartbeats 4000000 in
theorem J_chkC {p : Program} {l : Launch} {e : Env} {s : State} {m : MethodId} {below : List Frame} {meth : Method} {c : Code} {Q : State → Prop} {sa : Nat × Nat × (Nat → Int32)} {tb : Nat → Nat} {D : va_G} {cA cL : ClassId} {A : Nat → Prop} {x i : Nat} {cu dy co ti ro : Int32} {B G : Nat → Nat → Int32} {T : Nat → Int32}  (C : LawC p s m c sa tb D cA cL A) (hi : i < 16) (hG : GS (i + 1) cu co ti ro B G T) (K : KT p l e s m below meth c Q sa D cA A x 530 (lvT sa x cu ti i) dy co ti ro B G T) : KT p l e s m below meth c Q sa D cA A x 475 (lvT sa x cu ti i) dy co ti ro B G T := by
  obtain ⟨hx, hb, hml, hown, hts, hA, hE⟩ := id C
  intro Wd H locs ls hW hP hD hS hl
  obtain ⟨a, u, ch, v, w, a2, dy2, co2, ti2, ro2, u2, n2, B2, ch2, v2, nb2, G2, w2, T2, rfl⟩ := hW
  have hl : lv_has ls 14 [(0, .ref sa.1), (1, .ref x), (2, .int cu), (3, .int ti), (4, .int (nI i))] := hl
  refine lv_iconst (v := 0) hx hb dL_law_475 (by decide) ?_
  refine lv_istore (lv' := [(13, .int 0), (0, .ref sa.1), (1, .ref x), (2, .int cu), (3, .int ti), (4, .int (nI i))]) hx hb dL_law_476 hl (by decide) rfl (fun ls hl => ?_)
  refine lv_iload hx hb dL_law_478 (lv_at hl 0 rfl) ?_
  refine lv_iconst (v := 2) hx hb dL_law_480 (by decide) ?_
  refine lv_icmp_ge (tgt := 530) hx hb dL_law_481 (by decide) (fun q => absurd q (by decide)) (fun _ => ?_)
  refine lv_aload_n hx hb dL_law_484 rfl (lv_at hl 2 rfl) ?_
  refine lv_iload hx hb dL_law_485 (lv_at hl 0 rfl) ?_
  refine lv_iconst (v := 2) hx hb dL_law_487 (by decide) ?_
  refine goI ([]) ([]) hP hD hS hA (rnV (rest := []) (c_told sa tb D cA cL l x a dy co ti ro u 4 B ch v 2 G w T a2 dy2 co2 ti2 ro2 u2 n2 B2 ch2 v2 nb2 G2 w2 T2 0 2 (show 0 < 2 from by first | omega | assumption | decide) (show 2 ≤ 3 from by first | omega | assumption | decide) (show 2 < 6 from by first | omega | assumption | decide)) ([]) ([]) hP hD hS hA hE ⟨hx, hb, hml, hown, hts⟩ (cwV 2 hts gL_law_X4_told rfl rfl rfl (by decide +kernel) ⟨(Nat.le_of_ble_eq_true rfl), (Nat.le_of_ble_eq_true rfl)⟩) 4 0 rfl rfl rfl rfl hl.1 rfl (Nat.le_of_ble_eq_true rfl) dL_law_488 ⟨(Nat.le_of_ble_eq_true rfl), (Nat.le_of_ble_eq_true rfl)⟩) (fun _ => rfl) (fun r_488 u_488 H locs hw_488 hP hD hS => ?_)
  have hP : va_P D vwCl (wX cA x a dy co ti ro u 4 B ch v 2 G w T a2 dy2 co2 ti2 ro2 u2 n2 B2 ch2 v2 nb2 G2 w2 T2) H := hP
  have hD : va_D A (wX cA x a dy co ti ro u 4 B ch v 2 G w T a2 dy2 co2 ti2 ro2 u2 n2 B2 ch2 v2 nb2 G2 w2 T2) := hD
  refine w_eqi (show r_488 = tellG G 0 2 from hw_488) ?_
  refine lv_aload_n hx hb dL_law_491 rfl (lv_at hl 2 rfl) ?_
  refine lv_iload hx hb dL_law_492 (lv_at hl 0 rfl) ?_
  refine lv_iconst (v := 3) hx hb dL_law_494 (by decide) ?_
  refine goI ([]) ([]) hP hD hS hA (rnV (rest := [.int (tellG G 0 2)]) (c_told sa tb D cA cL l x a dy co ti ro u 4 B ch v 2 G w T a2 dy2 co2 ti2 ro2 u2 n2 B2 ch2 v2 nb2 G2 w2 T2 0 3 (show 0 < 2 from by first | omega | assumption | decide) (show 2 ≤ 3 from by first | omega | assumption | decide) (show 3 < 6 from by first | omega | assumption | decide)) ([]) ([]) hP hD hS hA hE ⟨hx, hb, hml, hown, hts⟩ (cwV 2 hts gL_law_X4_told rfl rfl rfl (by decide +kernel) ⟨(Nat.le_of_ble_eq_true rfl), (Nat.le_of_ble_eq_true rfl)⟩) 4 0 rfl rfl rfl rfl hl.1 rfl (Nat.le_of_ble_eq_true rfl) dL_law_495 ⟨(Nat.le_of_ble_eq_true rfl), (Nat.le_of_ble_eq_true rfl)⟩) (fun _ => rfl) (fun r_495 u_495 H locs hw_495 hP hD hS => ?_)
  have hP : va_P D vwCl (wX cA x a dy co ti ro u 4 B ch v 2 G w T a2 dy2 co2 ti2 ro2 u2 n2 B2 ch2 v2 nb2 G2 w2 T2) H := hP
  have hD : va_D A (wX cA x a dy co ti ro u 4 B ch v 2 G w T a2 dy2 co2 ti2 ro2 u2 n2 B2 ch2 v2 nb2 G2 w2 T2) := hD
  refine w_eqi (show r_495 = tellG G 0 3 from hw_495) ?_
  refine lv_iadd hx hb dL_law_498 ?_
  refine lv_sipush (v := 150) hx hb dL_law_499 (by decide) ?_
  refine lv_icmp_gt (tgt := 522) hx hb dL_law_502 (by decide) (fun c_502 => False.elim (by exact (hG.1.2.1 0 (by decide)).a150 c_502)) (fun c_502 => ?_)
  refine lv_aload_n hx hb dL_law_505 rfl (lv_at hl 2 rfl) ?_
  refine lv_iload hx hb dL_law_506 (lv_at hl 0 rfl) ?_
  refine lv_iconst (v := 1) hx hb dL_law_508 (by decide) ?_
  refine goI ([]) ([]) hP hD hS hA (rnV (rest := []) (c_told sa tb D cA cL l x a dy co ti ro u 4 B ch v 2 G w T a2 dy2 co2 ti2 ro2 u2 n2 B2 ch2 v2 nb2 G2 w2 T2 0 1 (show 0 < 2 from by first | omega | assumption | decide) (show 2 ≤ 3 from by first | omega | assumption | decide) (show 1 < 6 from by first | omega | assumption | decide)) ([]) ([]) hP hD hS hA hE ⟨hx, hb, hml, hown, hts⟩ (cwV 2 hts gL_law_X4_told rfl rfl rfl (by decide +kernel) ⟨(Nat.le_of_ble_eq_true rfl), (Nat.le_of_ble_eq_true rfl)⟩) 4 0 rfl rfl rfl rfl hl.1 rfl (Nat.le_of_ble_eq_true rfl) dL_law_509 ⟨(Nat.le_of_ble_eq_true rfl), (Nat.le_of_ble_eq_true rfl)⟩) (fun _ => rfl) (fun r_509 u_509 H locs hw_509 hP hD hS => ?_)
  have hP : va_P D vwCl (wX cA x a dy co ti ro u 4 B ch v 2 G w T a2 dy2 co2 ti2 ro2 u2 n2 B2 ch2 v2 nb2 G2 w2 T2) H := hP
  have hD : va_D A (wX cA x a dy co ti ro u 4 B ch v 2 G w T a2 dy2 co2 ti2 ro2 u2 n2 B2 ch2 v2 nb2 G2 w2 T2) := hD
  refine w_eqi (show r_509 = tellG G 0 1 from hw_509) ?_
  refine lv_aload_n hx hb dL_law_512 rfl (lv_at hl 2 rfl) ?_
  refine lv_iload hx hb dL_law_513 (lv_at hl 0 rfl) ?_
  refine lv_iconst (v := 0) hx hb dL_law_515 (by decide) ?_
  refine goI ([]) ([]) hP hD hS hA (rnV (rest := [.int (tellG G 0 1)]) (c_told sa tb D cA cL l x a dy co ti ro u 4 B ch v 2 G w T a2 dy2 co2 ti2 ro2 u2 n2 B2 ch2 v2 nb2 G2 w2 T2 0 0 (show 0 < 2 from by first | omega | assumption | decide) (show 2 ≤ 3 from by first | omega | assumption | decide) (show 0 < 6 from by first | omega | assumption | decide)) ([]) ([]) hP hD hS hA hE ⟨hx, hb, hml, hown, hts⟩ (cwV 2 hts gL_law_X4_told rfl rfl rfl (by decide +kernel) ⟨(Nat.le_of_ble_eq_true rfl), (Nat.le_of_ble_eq_true rfl)⟩) 4 0 rfl rfl rfl rfl hl.1 rfl (Nat.le_of_ble_eq_true rfl) dL_law_516 ⟨(Nat.le_of_ble_eq_true rfl), (Nat.le_of_ble_eq_true rfl)⟩) (fun _ => rfl) (fun r_516 u_516 H locs hw_516 hP hD hS => ?_)
  have hP : va_P D vwCl (wX cA x a dy co ti ro u 4 B ch v 2 G w T a2 dy2 co2 ti2 ro2 u2 n2 B2 ch2 v2 nb2 G2 w2 T2) H := hP
  have hD : va_D A (wX cA x a dy co ti ro u 4 B ch v 2 G w T a2 dy2 co2 ti2 ro2 u2 n2 B2 ch2 v2 nb2 G2 w2 T2) := hD
  refine w_eqi (show r_516 = tellG G 0 0 from hw_516) ?_
  refine lv_icmp_ne (tgt := 524) hx hb dL_law_519 (by decide) (fun c_519 => ?_) (fun c_519 => False.elim (by exact (hG.1.2.1 0 (by decide)).goal c_519))
  refine lv_iinc (v := 1) (lv' := [(13, .int 1), (0, .ref sa.1), (1, .ref x), (2, .int cu), (3, .int ti), (4, .int (nI i))]) (k := 0) hx hb dL_law_524 hl rfl (by decide) (by decide) rfl (fun ls hl => ?_)
  refine lv_goto (tgt := 478) hx hb dL_law_527 (by decide) ?_
  refine lv_iload hx hb dL_law_478 (lv_at hl 0 rfl) ?_
  refine lv_iconst (v := 2) hx hb dL_law_480 (by decide) ?_
  refine lv_icmp_ge (tgt := 530) hx hb dL_law_481 (by decide) (fun q => absurd q (by decide)) (fun _ => ?_)
  refine lv_aload_n hx hb dL_law_484 rfl (lv_at hl 2 rfl) ?_
  refine lv_iload hx hb dL_law_485 (lv_at hl 0 rfl) ?_
  refine lv_iconst (v := 2) hx hb dL_law_487 (by decide) ?_
  refine goI ([]) ([]) hP hD hS hA (rnV (rest := []) (c_told sa tb D cA cL l x a dy co ti ro u 4 B ch v 2 G w T a2 dy2 co2 ti2 ro2 u2 n2 B2 ch2 v2 nb2 G2 w2 T2 1 2 (show 1 < 2 from by first | omega | assumption | decide) (show 2 ≤ 3 from by first | omega | assumption | decide) (show 2 < 6 from by first | omega | assumption | decide)) ([]) ([]) hP hD hS hA hE ⟨hx, hb, hml, hown, hts⟩ (cwV 2 hts gL_law_X4_told rfl rfl rfl (by decide +kernel) ⟨(Nat.le_of_ble_eq_true rfl), (Nat.le_of_ble_eq_true rfl)⟩) 4 0 rfl rfl rfl rfl hl.1 rfl (Nat.le_of_ble_eq_true rfl) dL_law_488 ⟨(Nat.le_of_ble_eq_true rfl), (Nat.le_of_ble_eq_true rfl)⟩) (fun _ => rfl) (fun r_488 u_488 H locs hw_488 hP hD hS => ?_)
  have hP : va_P D vwCl (wX cA x a dy co ti ro u 4 B ch v 2 G w T a2 dy2 co2 ti2 ro2 u2 n2 B2 ch2 v2 nb2 G2 w2 T2) H := hP
  have hD : va_D A (wX cA x a dy co ti ro u 4 B ch v 2 G w T a2 dy2 co2 ti2 ro2 u2 n2 B2 ch2 v2 nb2 G2 w2 T2) := hD
  refine w_eqi (show r_488 = tellG G 1 2 from hw_488) ?_
  refine lv_aload_n hx hb dL_law_491 rfl (lv_at hl 2 rfl) ?_
  refine lv_iload hx hb dL_law_492 (lv_at hl 0 rfl) ?_
  refine lv_iconst (v := 3) hx hb dL_law_494 (by decide) ?_
  refine goI ([]) ([]) hP hD hS hA (rnV (rest := [.int (tellG G 1 2)]) (c_told sa tb D cA cL l x a dy co ti ro u 4 B ch v 2 G w T a2 dy2 co2 ti2 ro2 u2 n2 B2 ch2 v2 nb2 G2 w2 T2 1 3 (show 1 < 2 from by first | omega | assumption | decide) (show 2 ≤ 3 from by first | omega | assumption | decide) (show 3 < 6 from by first | omega | assumption | decide)) ([]) ([]) hP hD hS hA hE ⟨hx, hb, hml, hown, hts⟩ (cwV 2 hts gL_law_X4_told rfl rfl rfl (by decide +kernel) ⟨(Nat.le_of_ble_eq_true rfl), (Nat.le_of_ble_eq_true rfl)⟩) 4 0 rfl rfl rfl rfl hl.1 rfl (Nat.le_of_ble_eq_true rfl) dL_law_495 ⟨(Nat.le_of_ble_eq_true rfl), (Nat.le_of_ble_eq_true rfl)⟩) (fun _ => rfl) (fun r_495 u_495 H locs hw_495 hP hD hS => ?_)
  have hP : va_P D vwCl (wX cA x a dy co ti ro u 4 B ch v 2 G w T a2 dy2 co2 ti2 ro2 u2 n2 B2 ch2 v2 nb2 G2 w2 T2) H := hP
  have hD : va_D A (wX cA x a dy co ti ro u 4 B ch v 2 G w T a2 dy2 co2 ti2 ro2 u2 n2 B2 ch2 v2 nb2 G2 w2 T2) := hD
  refine w_eqi (show r_495 = tellG G 1 3 from hw_495) ?_
  refine lv_iadd hx hb dL_law_498 ?_
  refine lv_sipush (v := 150) hx hb dL_law_499 (by decide) ?_
  refine lv_icmp_gt (tgt := 522) hx hb dL_law_502 (by decide) (fun c_502_2 => False.elim (by exact (hG.1.2.1 1 (by decide)).a150 c_502_2)) (fun c_502_2 => ?_)
  refine lv_aload_n hx hb dL_law_505 rfl (lv_at hl 2 rfl) ?_
  refine lv_iload hx hb dL_law_506 (lv_at hl 0 rfl) ?_
  refine lv_iconst (v := 1) hx hb dL_law_508 (by decide) ?_
  refine goI ([]) ([]) hP hD hS hA (rnV (rest := []) (c_told sa tb D cA cL l x a dy co ti ro u 4 B ch v 2 G w T a2 dy2 co2 ti2 ro2 u2 n2 B2 ch2 v2 nb2 G2 w2 T2 1 1 (show 1 < 2 from by first | omega | assumption | decide) (show 2 ≤ 3 from by first | omega | assumption | decide) (show 1 < 6 from by first | omega | assumption | decide)) ([]) ([]) hP hD hS hA hE ⟨hx, hb, hml, hown, hts⟩ (cwV 2 hts gL_law_X4_told rfl rfl rfl (by decide +kernel) ⟨(Nat.le_of_ble_eq_true rfl), (Nat.le_of_ble_eq_true rfl)⟩) 4 0 rfl rfl rfl rfl hl.1 rfl (Nat.le_of_ble_eq_true rfl) dL_law_509 ⟨(Nat.le_of_ble_eq_true rfl), (Nat.le_of_ble_eq_true rfl)⟩) (fun _ => rfl) (fun r_509 u_509 H locs hw_509 hP hD hS => ?_)
  have hP : va_P D vwCl (wX cA x a dy co ti ro u 4 B ch v 2 G w T a2 dy2 co2 ti2 ro2 u2 n2 B2 ch2 v2 nb2 G2 w2 T2) H := hP
  have hD : va_D A (wX cA x a dy co ti ro u 4 B ch v 2 G w T a2 dy2 co2 ti2 ro2 u2 n2 B2 ch2 v2 nb2 G2 w2 T2) := hD
  refine w_eqi (show r_509 = tellG G 1 1 from hw_509) ?_
  refine lv_aload_n hx hb dL_law_512 rfl (lv_at hl 2 rfl) ?_
  refine lv_iload hx hb dL_law_513 (lv_at hl 0 rfl) ?_
  refine lv_iconst (v := 0) hx hb dL_law_515 (by decide) ?_
  refine goI ([]) ([]) hP hD hS hA (rnV (rest := [.int (tellG G 1 1)]) (c_told sa tb D cA cL l x a dy co ti ro u 4 B ch v 2 G w T a2 dy2 co2 ti2 ro2 u2 n2 B2 ch2 v2 nb2 G2 w2 T2 1 0 (show 1 < 2 from by first | omega | assumption | decide) (show 2 ≤ 3 from by first | omega | assumption | decide) (show 0 < 6 from by first | omega | assumption | decide)) ([]) ([]) hP hD hS hA hE ⟨hx, hb, hml, hown, hts⟩ (cwV 2 hts gL_law_X4_told rfl rfl rfl (by decide +kernel) ⟨(Nat.le_of_ble_eq_true rfl), (Nat.le_of_ble_eq_true rfl)⟩) 4 0 rfl rfl rfl rfl hl.1 rfl (Nat.le_of_ble_eq_true rfl) dL_law_516 ⟨(Nat.le_of_ble_eq_true rfl), (Nat.le_of_ble_eq_true rfl)⟩) (fun _ => rfl) (fun r_516 u_516 H locs hw_516 hP hD hS => ?_)
  have hP : va_P D vwCl (wX cA x a dy co ti ro u 4 B ch v 2 G w T a2 dy2 co2 ti2 ro2 u2 n2 B2 ch2 v2 nb2 G2 w2 T2) H := hP
  have hD : va_D A (wX cA x a dy co ti ro u 4 B ch v 2 G w T a2 dy2 co2 ti2 ro2 u2 n2 B2 ch2 v2 nb2 G2 w2 T2) := hD
  refine w_eqi (show r_516 = tellG G 1 0 from hw_516) ?_
  refine lv_icmp_ne (tgt := 524) hx hb dL_law_519 (by decide) (fun c_519_2 => ?_) (fun c_519_2 => False.elim (by exact (hG.1.2.1 1 (by decide)).goal c_519_2))
  refine lv_iinc (v := 2) (lv' := [(13, .int 2), (0, .ref sa.1), (1, .ref x), (2, .int cu), (3, .int ti), (4, .int (nI i))]) (k := 0) hx hb dL_law_524 hl rfl (by decide) (by decide) rfl (fun ls hl => ?_)
  refine lv_goto (tgt := 478) hx hb dL_law_527 (by decide) ?_
  refine lv_iload hx hb dL_law_478 (lv_at hl 0 rfl) ?_
  refine lv_iconst (v := 2) hx hb dL_law_480 (by decide) ?_
  refine lv_icmp_ge (tgt := 530) hx hb dL_law_481 (by decide) (fun _ => ?_) (fun q => absurd (by decide) q)
  exact K _ H locs ls ⟨_, _, _, _, _, _, _, _, _, _, _, _, _, _, _, _, _, _, _, rfl⟩ hP hD hS (lv_sub hl [1, 2, 3, 4, 5] rfl)
set_option maxRecDepth 100000 in
set_option maxHeartbeats 4000000 in
theorem J_chkD {p : Program} {l : Launch} {e : Env} {s : State} {m : MethodId} {below : List Frame} {meth : Method} {c : Code} {Q : State → Prop} {sa : Nat × Nat × (Nat → Int32)} {tb : Nat → Nat} {D : va_G} {cA cL : ClassId} {A : Nat → Prop} {x i : Nat} {cu dy co ti ro : Int32} {B G : Nat → Nat → Int32} {T : Nat → Int32}  (C : LawC p s m c sa tb D cA cL A) (hi : i < 16) (hG : GS (i + 1) cu co ti ro B G T) (K : KT p l e s m below meth c Q sa D cA A x 595 (lvT sa x cu ti i) dy co ti ro B G T) : KT p l e s m below meth c Q sa D cA A x 530 (lvT sa x cu ti i) dy co ti ro B G T := by
  obtain ⟨hx, hb, hml, hown, hts, hA, hE⟩ := id C
  intro Wd H locs ls hW hP hD hS hl
  obtain ⟨a, u, ch, v, w, a2, dy2, co2, ti2, ro2, u2, n2, B2, ch2, v2, nb2, G2, w2, T2, rfl⟩ := hW
  have hl : lv_has ls 14 [(0, .ref sa.1), (1, .ref x), (2, .int cu), (3, .int ti), (4, .int (nI i))] := hl
  refine lv_iconst (v := 0) hx hb dL_law_530 (by decide) ?_
  refine lv_istore (lv' := [(13, .int 0), (0, .ref sa.1), (1, .ref x), (2, .int cu), (3, .int ti), (4, .int (nI i))]) hx hb dL_law_531 hl (by decide) rfl (fun ls hl => ?_)
  refine lv_iload hx hb dL_law_533 (lv_at hl 0 rfl) ?_
  refine lv_iconst (v := 3) hx hb dL_law_535 (by decide) ?_
  refine lv_icmp_ge (tgt := 595) hx hb dL_law_536 (by decide) (fun q => absurd q (by decide)) (fun _ => ?_)
  refine lv_aload_n hx hb dL_law_539 rfl (lv_at hl 2 rfl) ?_
  refine lv_iload hx hb dL_law_540 (lv_at hl 0 rfl) ?_
  refine lv_iconst (v := 2) hx hb dL_law_542 (by decide) ?_
  refine goI ([]) ([]) hP hD hS hA (rnV (rest := []) (c_landing sa tb D cA cL l x a dy co ti ro u 4 B ch v 2 G w T a2 dy2 co2 ti2 ro2 u2 n2 B2 ch2 v2 nb2 G2 w2 T2 0 2 (show 0 < 3 from by first | omega | assumption | decide) (show 2 < 4 from by first | omega | assumption | decide)) ([]) ([]) hP hD hS hA hE ⟨hx, hb, hml, hown, hts⟩ (cwV 2 hts gL_law_X4_landing rfl rfl rfl (by decide +kernel) ⟨(Nat.le_of_ble_eq_true rfl), (Nat.le_of_ble_eq_true rfl)⟩) 4 0 rfl rfl rfl rfl hl.1 rfl (Nat.le_of_ble_eq_true rfl) dL_law_543 ⟨(Nat.le_of_ble_eq_true rfl), (Nat.le_of_ble_eq_true rfl)⟩) (fun _ => rfl) (fun r_543 u_543 H locs hw_543 hP hD hS => ?_)
  have hP : va_P D vwCl (wX cA x a dy co ti ro u 4 B ch v 2 G w T a2 dy2 co2 ti2 ro2 u2 n2 B2 ch2 v2 nb2 G2 w2 T2) H := hP
  have hD : va_D A (wX cA x a dy co ti ro u 4 B ch v 2 G w T a2 dy2 co2 ti2 ro2 u2 n2 B2 ch2 v2 nb2 G2 w2 T2) := hD
  refine w_eqi (show r_543 = tellL T 0 2 from hw_543) ?_
  refine lv_iconst (v := 1) hx hb dL_law_546 (by decide) ?_
  refine lv_icmp_lt (tgt := 587) hx hb dL_law_547 (by decide) (fun c_547 => False.elim (by exact hG.p1 (by omega) (by decide) c_547)) (fun c_547 => ?_)
  refine lv_aload_n hx hb dL_law_550 rfl (lv_at hl 2 rfl) ?_
  refine lv_iload hx hb dL_law_551 (lv_at hl 0 rfl) ?_
  refine lv_iconst (v := 2) hx hb dL_law_553 (by decide) ?_
  refine goI ([]) ([]) hP hD hS hA (rnV (rest := []) (c_landing sa tb D cA cL l x a dy co ti ro u 4 B ch v 2 G w T a2 dy2 co2 ti2 ro2 u2 n2 B2 ch2 v2 nb2 G2 w2 T2 0 2 (show 0 < 3 from by first | omega | assumption | decide) (show 2 < 4 from by first | omega | assumption | decide)) ([]) ([]) hP hD hS hA hE ⟨hx, hb, hml, hown, hts⟩ (cwV 2 hts gL_law_X4_landing rfl rfl rfl (by decide +kernel) ⟨(Nat.le_of_ble_eq_true rfl), (Nat.le_of_ble_eq_true rfl)⟩) 4 0 rfl rfl rfl rfl hl.1 rfl (Nat.le_of_ble_eq_true rfl) dL_law_554 ⟨(Nat.le_of_ble_eq_true rfl), (Nat.le_of_ble_eq_true rfl)⟩) (fun _ => rfl) (fun r_554 u_554 H locs hw_554 hP hD hS => ?_)
  have hP : va_P D vwCl (wX cA x a dy co ti ro u 4 B ch v 2 G w T a2 dy2 co2 ti2 ro2 u2 n2 B2 ch2 v2 nb2 G2 w2 T2) H := hP
  have hD : va_D A (wX cA x a dy co ti ro u 4 B ch v 2 G w T a2 dy2 co2 ti2 ro2 u2 n2 B2 ch2 v2 nb2 G2 w2 T2) := hD
  refine w_eqi (show r_554 = tellL T 0 2 from hw_554) ?_
  refine va_gets hx hb (hE.2.2.2.1.2.2.2).1 hS hown (hts (.fieldLink RL 77 "SedgeBargesLaw" "WORTH" "[I") m_worth) (fun _ h9 => h9) dL_law_557 ?_
  refine lv_iload hx hb dL_law_560 (lv_at hl 0 rfl) ?_
  refine r_tld hx hb (hE.2.2.2.1.2.2.2) hS (0) rfl (by omega) (by decide) rfl dL_law_562 ?_
  refine lv_icmp_gt (tgt := 587) hx hb dL_law_563 (by decide) (fun c_563 => False.elim (by exact hG.pW (by omega) (by decide) c_563)) (fun c_563 => ?_)
  refine lv_aload_n hx hb dL_law_566 rfl (lv_at hl 2 rfl) ?_
  refine lv_iload hx hb dL_law_567 (lv_at hl 0 rfl) ?_
  refine lv_iconst (v := 3) hx hb dL_law_569 (by decide) ?_
  refine goI ([]) ([]) hP hD hS hA (rnV (rest := []) (c_landing sa tb D cA cL l x a dy co ti ro u 4 B ch v 2 G w T a2 dy2 co2 ti2 ro2 u2 n2 B2 ch2 v2 nb2 G2 w2 T2 0 3 (show 0 < 3 from by first | omega | assumption | decide) (show 3 < 4 from by first | omega | assumption | decide)) ([]) ([]) hP hD hS hA hE ⟨hx, hb, hml, hown, hts⟩ (cwV 2 hts gL_law_X4_landing rfl rfl rfl (by decide +kernel) ⟨(Nat.le_of_ble_eq_true rfl), (Nat.le_of_ble_eq_true rfl)⟩) 4 0 rfl rfl rfl rfl hl.1 rfl (Nat.le_of_ble_eq_true rfl) dL_law_570 ⟨(Nat.le_of_ble_eq_true rfl), (Nat.le_of_ble_eq_true rfl)⟩) (fun _ => rfl) (fun r_570 u_570 H locs hw_570 hP hD hS => ?_)
  have hP : va_P D vwCl (wX cA x a dy co ti ro u 4 B ch v 2 G w T a2 dy2 co2 ti2 ro2 u2 n2 B2 ch2 v2 nb2 G2 w2 T2) H := hP
  have hD : va_D A (wX cA x a dy co ti ro u 4 B ch v 2 G w T a2 dy2 co2 ti2 ro2 u2 n2 B2 ch2 v2 nb2 G2 w2 T2) := hD
  refine w_eqi (show r_570 = tellL T 0 3 from hw_570) ?_
  refine lv_iconst (v := 1) hx hb dL_law_573 (by decide) ?_
  refine lv_icmp_lt (tgt := 587) hx hb dL_law_574 (by decide) (fun c_574 => False.elim (by exact hG.pR c_574)) (fun c_574 => ?_)
  refine lv_aload_n hx hb dL_law_577 rfl (lv_at hl 2 rfl) ?_
  refine lv_iload hx hb dL_law_578 (lv_at hl 0 rfl) ?_
  refine lv_iconst (v := 1) hx hb dL_law_580 (by decide) ?_
  refine goI ([]) ([]) hP hD hS hA (rnV (rest := []) (c_landing sa tb D cA cL l x a dy co ti ro u 4 B ch v 2 G w T a2 dy2 co2 ti2 ro2 u2 n2 B2 ch2 v2 nb2 G2 w2 T2 0 1 (show 0 < 3 from by first | omega | assumption | decide) (show 1 < 4 from by first | omega | assumption | decide)) ([]) ([]) hP hD hS hA hE ⟨hx, hb, hml, hown, hts⟩ (cwV 2 hts gL_law_X4_landing rfl rfl rfl (by decide +kernel) ⟨(Nat.le_of_ble_eq_true rfl), (Nat.le_of_ble_eq_true rfl)⟩) 4 0 rfl rfl rfl rfl hl.1 rfl (Nat.le_of_ble_eq_true rfl) dL_law_581 ⟨(Nat.le_of_ble_eq_true rfl), (Nat.le_of_ble_eq_true rfl)⟩) (fun _ => rfl) (fun r_581 u_581 H locs hw_581 hP hD hS => ?_)
  have hP : va_P D vwCl (wX cA x a dy co ti ro u 4 B ch v 2 G w T a2 dy2 co2 ti2 ro2 u2 n2 B2 ch2 v2 nb2 G2 w2 T2) H := hP
  have hD : va_D A (wX cA x a dy co ti ro u 4 B ch v 2 G w T a2 dy2 co2 ti2 ro2 u2 n2 B2 ch2 v2 nb2 G2 w2 T2) := hD
  refine w_eqi (show r_581 = tellL T 0 1 from hw_581) ?_
  refine lv_if_ge (tgt := 589) hx hb dL_law_584 (by decide) (fun c_584 => ?_) (fun c_584 => False.elim (by exact c_584 (hG.st0 (by decide))))
  refine lv_iinc (v := 1) (lv' := [(13, .int 1), (0, .ref sa.1), (1, .ref x), (2, .int cu), (3, .int ti), (4, .int (nI i))]) (k := 0) hx hb dL_law_589 hl rfl (by decide) (by decide) rfl (fun ls hl => ?_)
  refine lv_goto (tgt := 533) hx hb dL_law_592 (by decide) ?_
  refine lv_iload hx hb dL_law_533 (lv_at hl 0 rfl) ?_
  refine lv_iconst (v := 3) hx hb dL_law_535 (by decide) ?_
  refine lv_icmp_ge (tgt := 595) hx hb dL_law_536 (by decide) (fun q => absurd q (by decide)) (fun _ => ?_)
  refine lv_aload_n hx hb dL_law_539 rfl (lv_at hl 2 rfl) ?_
  refine lv_iload hx hb dL_law_540 (lv_at hl 0 rfl) ?_
  refine lv_iconst (v := 2) hx hb dL_law_542 (by decide) ?_
  refine goI ([]) ([]) hP hD hS hA (rnV (rest := []) (c_landing sa tb D cA cL l x a dy co ti ro u 4 B ch v 2 G w T a2 dy2 co2 ti2 ro2 u2 n2 B2 ch2 v2 nb2 G2 w2 T2 1 2 (show 1 < 3 from by first | omega | assumption | decide) (show 2 < 4 from by first | omega | assumption | decide)) ([]) ([]) hP hD hS hA hE ⟨hx, hb, hml, hown, hts⟩ (cwV 2 hts gL_law_X4_landing rfl rfl rfl (by decide +kernel) ⟨(Nat.le_of_ble_eq_true rfl), (Nat.le_of_ble_eq_true rfl)⟩) 4 0 rfl rfl rfl rfl hl.1 rfl (Nat.le_of_ble_eq_true rfl) dL_law_543 ⟨(Nat.le_of_ble_eq_true rfl), (Nat.le_of_ble_eq_true rfl)⟩) (fun _ => rfl) (fun r_543 u_543 H locs hw_543 hP hD hS => ?_)
  have hP : va_P D vwCl (wX cA x a dy co ti ro u 4 B ch v 2 G w T a2 dy2 co2 ti2 ro2 u2 n2 B2 ch2 v2 nb2 G2 w2 T2) H := hP
  have hD : va_D A (wX cA x a dy co ti ro u 4 B ch v 2 G w T a2 dy2 co2 ti2 ro2 u2 n2 B2 ch2 v2 nb2 G2 w2 T2) := hD
  refine w_eqi (show r_543 = tellL T 1 2 from hw_543) ?_
  refine lv_iconst (v := 1) hx hb dL_law_546 (by decide) ?_
  refine lv_icmp_lt (tgt := 587) hx hb dL_law_547 (by decide) (fun c_547_2 => False.elim (by exact hG.p1 (by omega) (by decide) c_547_2)) (fun c_547_2 => ?_)
  refine lv_aload_n hx hb dL_law_550 rfl (lv_at hl 2 rfl) ?_
  refine lv_iload hx hb dL_law_551 (lv_at hl 0 rfl) ?_
  refine lv_iconst (v := 2) hx hb dL_law_553 (by decide) ?_
  refine goI ([]) ([]) hP hD hS hA (rnV (rest := []) (c_landing sa tb D cA cL l x a dy co ti ro u 4 B ch v 2 G w T a2 dy2 co2 ti2 ro2 u2 n2 B2 ch2 v2 nb2 G2 w2 T2 1 2 (show 1 < 3 from by first | omega | assumption | decide) (show 2 < 4 from by first | omega | assumption | decide)) ([]) ([]) hP hD hS hA hE ⟨hx, hb, hml, hown, hts⟩ (cwV 2 hts gL_law_X4_landing rfl rfl rfl (by decide +kernel) ⟨(Nat.le_of_ble_eq_true rfl), (Nat.le_of_ble_eq_true rfl)⟩) 4 0 rfl rfl rfl rfl hl.1 rfl (Nat.le_of_ble_eq_true rfl) dL_law_554 ⟨(Nat.le_of_ble_eq_true rfl), (Nat.le_of_ble_eq_true rfl)⟩) (fun _ => rfl) (fun r_554 u_554 H locs hw_554 hP hD hS => ?_)
  have hP : va_P D vwCl (wX cA x a dy co ti ro u 4 B ch v 2 G w T a2 dy2 co2 ti2 ro2 u2 n2 B2 ch2 v2 nb2 G2 w2 T2) H := hP
  have hD : va_D A (wX cA x a dy co ti ro u 4 B ch v 2 G w T a2 dy2 co2 ti2 ro2 u2 n2 B2 ch2 v2 nb2 G2 w2 T2) := hD
  refine w_eqi (show r_554 = tellL T 1 2 from hw_554) ?_
  refine va_gets hx hb (hE.2.2.2.1.2.2.2).1 hS hown (hts (.fieldLink RL 77 "SedgeBargesLaw" "WORTH" "[I") m_worth) (fun _ h9 => h9) dL_law_557 ?_
  refine lv_iload hx hb dL_law_560 (lv_at hl 0 rfl) ?_
  refine r_tld hx hb (hE.2.2.2.1.2.2.2) hS (1) rfl (by omega) (by decide) rfl dL_law_562 ?_
  refine lv_icmp_gt (tgt := 587) hx hb dL_law_563 (by decide) (fun c_563_2 => False.elim (by exact hG.pW (by omega) (by decide) c_563_2)) (fun c_563_2 => ?_)
  refine lv_aload_n hx hb dL_law_566 rfl (lv_at hl 2 rfl) ?_
  refine lv_iload hx hb dL_law_567 (lv_at hl 0 rfl) ?_
  refine lv_iconst (v := 3) hx hb dL_law_569 (by decide) ?_
  refine goI ([]) ([]) hP hD hS hA (rnV (rest := []) (c_landing sa tb D cA cL l x a dy co ti ro u 4 B ch v 2 G w T a2 dy2 co2 ti2 ro2 u2 n2 B2 ch2 v2 nb2 G2 w2 T2 1 3 (show 1 < 3 from by first | omega | assumption | decide) (show 3 < 4 from by first | omega | assumption | decide)) ([]) ([]) hP hD hS hA hE ⟨hx, hb, hml, hown, hts⟩ (cwV 2 hts gL_law_X4_landing rfl rfl rfl (by decide +kernel) ⟨(Nat.le_of_ble_eq_true rfl), (Nat.le_of_ble_eq_true rfl)⟩) 4 0 rfl rfl rfl rfl hl.1 rfl (Nat.le_of_ble_eq_true rfl) dL_law_570 ⟨(Nat.le_of_ble_eq_true rfl), (Nat.le_of_ble_eq_true rfl)⟩) (fun _ => rfl) (fun r_570 u_570 H locs hw_570 hP hD hS => ?_)
  have hP : va_P D vwCl (wX cA x a dy co ti ro u 4 B ch v 2 G w T a2 dy2 co2 ti2 ro2 u2 n2 B2 ch2 v2 nb2 G2 w2 T2) H := hP
  have hD : va_D A (wX cA x a dy co ti ro u 4 B ch v 2 G w T a2 dy2 co2 ti2 ro2 u2 n2 B2 ch2 v2 nb2 G2 w2 T2) := hD
  refine w_eqi (show r_570 = tellL T 1 3 from hw_570) ?_
  refine lv_iconst (v := 1) hx hb dL_law_573 (by decide) ?_
  refine lv_icmp_lt (tgt := 587) hx hb dL_law_574 (by decide) (fun c_574_2 => False.elim (by exact hG.pR c_574_2)) (fun c_574_2 => ?_)
  refine lv_aload_n hx hb dL_law_577 rfl (lv_at hl 2 rfl) ?_
  refine lv_iload hx hb dL_law_578 (lv_at hl 0 rfl) ?_
  refine lv_iconst (v := 1) hx hb dL_law_580 (by decide) ?_
  refine goI ([]) ([]) hP hD hS hA (rnV (rest := []) (c_landing sa tb D cA cL l x a dy co ti ro u 4 B ch v 2 G w T a2 dy2 co2 ti2 ro2 u2 n2 B2 ch2 v2 nb2 G2 w2 T2 1 1 (show 1 < 3 from by first | omega | assumption | decide) (show 1 < 4 from by first | omega | assumption | decide)) ([]) ([]) hP hD hS hA hE ⟨hx, hb, hml, hown, hts⟩ (cwV 2 hts gL_law_X4_landing rfl rfl rfl (by decide +kernel) ⟨(Nat.le_of_ble_eq_true rfl), (Nat.le_of_ble_eq_true rfl)⟩) 4 0 rfl rfl rfl rfl hl.1 rfl (Nat.le_of_ble_eq_true rfl) dL_law_581 ⟨(Nat.le_of_ble_eq_true rfl), (Nat.le_of_ble_eq_true rfl)⟩) (fun _ => rfl) (fun r_581 u_581 H locs hw_581 hP hD hS => ?_)
  have hP : va_P D vwCl (wX cA x a dy co ti ro u 4 B ch v 2 G w T a2 dy2 co2 ti2 ro2 u2 n2 B2 ch2 v2 nb2 G2 w2 T2) H := hP
  have hD : va_D A (wX cA x a dy co ti ro u 4 B ch v 2 G w T a2 dy2 co2 ti2 ro2 u2 n2 B2 ch2 v2 nb2 G2 w2 T2) := hD
  refine w_eqi (show r_581 = tellL T 1 1 from hw_581) ?_
  refine lv_if_ge (tgt := 589) hx hb dL_law_584 (by decide) (fun c_584_2 => ?_) (fun c_584_2 => False.elim (by exact c_584_2 (hG.st0 (by decide))))
  refine lv_iinc (v := 2) (lv' := [(13, .int 2), (0, .ref sa.1), (1, .ref x), (2, .int cu), (3, .int ti), (4, .int (nI i))]) (k := 0) hx hb dL_law_589 hl rfl (by decide) (by decide) rfl (fun ls hl => ?_)
  refine lv_goto (tgt := 533) hx hb dL_law_592 (by decide) ?_
  refine lv_iload hx hb dL_law_533 (lv_at hl 0 rfl) ?_
  refine lv_iconst (v := 3) hx hb dL_law_535 (by decide) ?_
  refine lv_icmp_ge (tgt := 595) hx hb dL_law_536 (by decide) (fun q => absurd q (by decide)) (fun _ => ?_)
  refine lv_aload_n hx hb dL_law_539 rfl (lv_at hl 2 rfl) ?_
  refine lv_iload hx hb dL_law_540 (lv_at hl 0 rfl) ?_
  refine lv_iconst (v := 2) hx hb dL_law_542 (by decide) ?_
  refine goI ([]) ([]) hP hD hS hA (rnV (rest := []) (c_landing sa tb D cA cL l x a dy co ti ro u 4 B ch v 2 G w T a2 dy2 co2 ti2 ro2 u2 n2 B2 ch2 v2 nb2 G2 w2 T2 2 2 (show 2 < 3 from by first | omega | assumption | decide) (show 2 < 4 from by first | omega | assumption | decide)) ([]) ([]) hP hD hS hA hE ⟨hx, hb, hml, hown, hts⟩ (cwV 2 hts gL_law_X4_landing rfl rfl rfl (by decide +kernel) ⟨(Nat.le_of_ble_eq_true rfl), (Nat.le_of_ble_eq_true rfl)⟩) 4 0 rfl rfl rfl rfl hl.1 rfl (Nat.le_of_ble_eq_true rfl) dL_law_543 ⟨(Nat.le_of_ble_eq_true rfl), (Nat.le_of_ble_eq_true rfl)⟩) (fun _ => rfl) (fun r_543 u_543 H locs hw_543 hP hD hS => ?_)
  have hP : va_P D vwCl (wX cA x a dy co ti ro u 4 B ch v 2 G w T a2 dy2 co2 ti2 ro2 u2 n2 B2 ch2 v2 nb2 G2 w2 T2) H := hP
  have hD : va_D A (wX cA x a dy co ti ro u 4 B ch v 2 G w T a2 dy2 co2 ti2 ro2 u2 n2 B2 ch2 v2 nb2 G2 w2 T2) := hD
  refine w_eqi (show r_543 = tellL T 2 2 from hw_543) ?_
  refine lv_iconst (v := 1) hx hb dL_law_546 (by decide) ?_
  refine lv_icmp_lt (tgt := 587) hx hb dL_law_547 (by decide) (fun c_547_3 => False.elim (by exact hG.p1 (by omega) (by decide) c_547_3)) (fun c_547_3 => ?_)
  refine lv_aload_n hx hb dL_law_550 rfl (lv_at hl 2 rfl) ?_
  refine lv_iload hx hb dL_law_551 (lv_at hl 0 rfl) ?_
  refine lv_iconst (v := 2) hx hb dL_law_553 (by decide) ?_
  refine goI ([]) ([]) hP hD hS hA (rnV (rest := []) (c_landing sa tb D cA cL l x a dy co ti ro u 4 B ch v 2 G w T a2 dy2 co2 ti2 ro2 u2 n2 B2 ch2 v2 nb2 G2 w2 T2 2 2 (show 2 < 3 from by first | omega | assumption | decide) (show 2 < 4 from by first | omega | assumption | decide)) ([]) ([]) hP hD hS hA hE ⟨hx, hb, hml, hown, hts⟩ (cwV 2 hts gL_law_X4_landing rfl rfl rfl (by decide +kernel) ⟨(Nat.le_of_ble_eq_true rfl), (Nat.le_of_ble_eq_true rfl)⟩) 4 0 rfl rfl rfl rfl hl.1 rfl (Nat.le_of_ble_eq_true rfl) dL_law_554 ⟨(Nat.le_of_ble_eq_true rfl), (Nat.le_of_ble_eq_true rfl)⟩) (fun _ => rfl) (fun r_554 u_554 H locs hw_554 hP hD hS => ?_)
  have hP : va_P D vwCl (wX cA x a dy co ti ro u 4 B ch v 2 G w T a2 dy2 co2 ti2 ro2 u2 n2 B2 ch2 v2 nb2 G2 w2 T2) H := hP
  have hD : va_D A (wX cA x a dy co ti ro u 4 B ch v 2 G w T a2 dy2 co2 ti2 ro2 u2 n2 B2 ch2 v2 nb2 G2 w2 T2) := hD
  refine w_eqi (show r_554 = tellL T 2 2 from hw_554) ?_
  refine va_gets hx hb (hE.2.2.2.1.2.2.2).1 hS hown (hts (.fieldLink RL 77 "SedgeBargesLaw" "WORTH" "[I") m_worth) (fun _ h9 => h9) dL_law_557 ?_
  refine lv_iload hx hb dL_law_560 (lv_at hl 0 rfl) ?_
  refine r_tld hx hb (hE.2.2.2.1.2.2.2) hS (2) rfl (by omega) (by decide) rfl dL_law_562 ?_
  refine lv_icmp_gt (tgt := 587) hx hb dL_law_563 (by decide) (fun c_563_3 => False.elim (by exact hG.pW (by omega) (by decide) c_563_3)) (fun c_563_3 => ?_)
  refine lv_aload_n hx hb dL_law_566 rfl (lv_at hl 2 rfl) ?_
  refine lv_iload hx hb dL_law_567 (lv_at hl 0 rfl) ?_
  refine lv_iconst (v := 3) hx hb dL_law_569 (by decide) ?_
  refine goI ([]) ([]) hP hD hS hA (rnV (rest := []) (c_landing sa tb D cA cL l x a dy co ti ro u 4 B ch v 2 G w T a2 dy2 co2 ti2 ro2 u2 n2 B2 ch2 v2 nb2 G2 w2 T2 2 3 (show 2 < 3 from by first | omega | assumption | decide) (show 3 < 4 from by first | omega | assumption | decide)) ([]) ([]) hP hD hS hA hE ⟨hx, hb, hml, hown, hts⟩ (cwV 2 hts gL_law_X4_landing rfl rfl rfl (by decide +kernel) ⟨(Nat.le_of_ble_eq_true rfl), (Nat.le_of_ble_eq_true rfl)⟩) 4 0 rfl rfl rfl rfl hl.1 rfl (Nat.le_of_ble_eq_true rfl) dL_law_570 ⟨(Nat.le_of_ble_eq_true rfl), (Nat.le_of_ble_eq_true rfl)⟩) (fun _ => rfl) (fun r_570 u_570 H locs hw_570 hP hD hS => ?_)
  have hP : va_P D vwCl (wX cA x a dy co ti ro u 4 B ch v 2 G w T a2 dy2 co2 ti2 ro2 u2 n2 B2 ch2 v2 nb2 G2 w2 T2) H := hP
  have hD : va_D A (wX cA x a dy co ti ro u 4 B ch v 2 G w T a2 dy2 co2 ti2 ro2 u2 n2 B2 ch2 v2 nb2 G2 w2 T2) := hD
  refine w_eqi (show r_570 = tellL T 2 3 from hw_570) ?_
  refine lv_iconst (v := 1) hx hb dL_law_573 (by decide) ?_
  refine lv_icmp_lt (tgt := 587) hx hb dL_law_574 (by decide) (fun c_574_3 => False.elim (by exact hG.pR c_574_3)) (fun c_574_3 => ?_)
  refine lv_aload_n hx hb dL_law_577 rfl (lv_at hl 2 rfl) ?_
  refine lv_iload hx hb dL_law_578 (lv_at hl 0 rfl) ?_
  refine lv_iconst (v := 1) hx hb dL_law_580 (by decide) ?_
  refine goI ([]) ([]) hP hD hS hA (rnV (rest := []) (c_landing sa tb D cA cL l x a dy co ti ro u 4 B ch v 2 G w T a2 dy2 co2 ti2 ro2 u2 n2 B2 ch2 v2 nb2 G2 w2 T2 2 1 (show 2 < 3 from by first | omega | assumption | decide) (show 1 < 4 from by first | omega | assumption | decide)) ([]) ([]) hP hD hS hA hE ⟨hx, hb, hml, hown, hts⟩ (cwV 2 hts gL_law_X4_landing rfl rfl rfl (by decide +kernel) ⟨(Nat.le_of_ble_eq_true rfl), (Nat.le_of_ble_eq_true rfl)⟩) 4 0 rfl rfl rfl rfl hl.1 rfl (Nat.le_of_ble_eq_true rfl) dL_law_581 ⟨(Nat.le_of_ble_eq_true rfl), (Nat.le_of_ble_eq_true rfl)⟩) (fun _ => rfl) (fun r_581 u_581 H locs hw_581 hP hD hS => ?_)
  have hP : va_P D vwCl (wX cA x a dy co ti ro u 4 B ch v 2 G w T a2 dy2 co2 ti2 ro2 u2 n2 B2 ch2 v2 nb2 G2 w2 T2) H := hP
  have hD : va_D A (wX cA x a dy co ti ro u 4 B ch v 2 G w T a2 dy2 co2 ti2 ro2 u2 n2 B2 ch2 v2 nb2 G2 w2 T2) := hD
  refine w_eqi (show r_581 = tellL T 2 1 from hw_581) ?_
  refine lv_if_ge (tgt := 589) hx hb dL_law_584 (by decide) (fun c_584_3 => ?_) (fun c_584_3 => False.elim (by exact c_584_3 (hG.st0 (by decide))))
  refine lv_iinc (v := 3) (lv' := [(13, .int 3), (0, .ref sa.1), (1, .ref x), (2, .int cu), (3, .int ti), (4, .int (nI i))]) (k := 0) hx hb dL_law_589 hl rfl (by decide) (by decide) rfl (fun ls hl => ?_)
  refine lv_goto (tgt := 533) hx hb dL_law_592 (by decide) ?_
  refine lv_iload hx hb dL_law_533 (lv_at hl 0 rfl) ?_
  refine lv_iconst (v := 3) hx hb dL_law_535 (by decide) ?_
  refine lv_icmp_ge (tgt := 595) hx hb dL_law_536 (by decide) (fun _ => ?_) (fun q => absurd (by decide) q)
  exact K _ H locs ls ⟨_, _, _, _, _, _, _, _, _, _, _, _, _, _, _, _, _, _, _, rfl⟩ hP hD hS (lv_sub hl [1, 2, 3, 4, 5] rfl)
