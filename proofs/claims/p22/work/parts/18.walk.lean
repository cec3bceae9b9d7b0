/-! 18: the law's walk -/
theorem m_worth : Cond.fieldLink RL 77 "SedgeBargesLaw" "WORTH" "[I" ∈ wsL_law := List.mem_append_left _ (List.mem_append_left _ (List.mem_append_left _ (List.mem_append_left _ (List.mem_append_left _ (List.mem_append_left _ (List.mem_append_left _ (List.mem_append_left _ (List.mem_append_left _ (List.mem_append_left _ (List.mem_of_getElem? (i := 0) rfl))))))))))
/-- what holds wherever the law is -/
def LawC (p : Program) (s : State) (m : MethodId) (c : Code) (sa : Nat × Nat × (Nat → Int32)) (tb : Nat → Nat) (D : va_G) (cA cL : ClassId) (A : Nat → Prop) : Prop := p.tables.exec = Jvm.exec ∧ c.code = code ∧ c.maxLocals = 14 ∧ s.vm.findClass RL = some m.cls ∧ (∀ w ∈ wsL_law, w.before #[Value.ref sa.1] s = true) ∧ (∀ q : Nat, s.heap.size ≤ q → A q) ∧ En sa tb D cA cL A s s.heap
abbrev lvT (sa : Nat × Nat × (Nat → Int32)) (x : Nat) (cu ti : Int32) (i : Nat) : List (Nat × Value) := [(0, .ref sa.1), (1, .ref x), (2, .int cu), (3, .int ti), (4, .int (nI i))]
/-- the law goes on from here, in this state -/
def KT (p : Program) (l : Launch) (e : Env) (s : State) (m : MethodId) (below : List Frame) (meth : Method) (c : Code) (Q : State → Prop) (sa : Nat × Nat × (Nat → Int32)) (D : va_G) (cA : ClassId) (A : Nat → Prop) (x pc : Nat) (lv : List (Nat × Value)) (dy co ti ro : Int32) (B G : Nat → Nat → Int32) (T : Nat → Int32) : Prop := ∀ (Wd : va_W) (H : Heap) (locs : List Loc) (ls : Array Slot), GW cA x dy co ti ro B G T Wd → va_P D vwCl Wd H → va_D A Wd → va_S A s.heap H locs → lv_has ls 14 lv → W p l e room_1 s m #[Value.ref sa.1] below meth c H locs 39 230 Q (F0 m pc ls [])
set_option maxRecDepth 100000 in
set_option maxHeartbeats 4000000 in
theorem J_chkA {p : Program} {l : Launch} {e : Env} {s : State} {m : MethodId} {below : List Frame} {meth : Method} {c : Code} {Q : State → Prop} {sa : Nat × Nat × (Nat → Int32)} {tb : Nat → Nat} {D : va_G} {cA cL : ClassId} {A : Nat → Prop} {x i : Nat} {cu dy co ti ro : Int32} {B G : Nat → Nat → Int32} {T : Nat → Int32}  (C : LawC p s m c sa tb D cA cL A) (hi : i < 16) (hG : GS (i + 1) cu co ti ro B G T) (K : KT p l e s m below meth c Q sa D cA A x 385 (lvT sa x cu ti i) dy co ti ro B G T) : KT p l e s m below meth c Q sa D cA A x 305 (lvT sa x cu ti i) dy co ti ro B G T := by
  obtain ⟨hx, hb, hml, hown, hts, hA, hE⟩ := id C
  intro Wd H locs ls hW hP hD hS hl
  obtain ⟨a, u, ch, v, w, a2, dy2, co2, ti2, ro2, u2, n2, B2, ch2, v2, nb2, G2, w2, T2, rfl⟩ := hW
  have hl : lv_has ls 14 [(0, .ref sa.1), (1, .ref x), (2, .int cu), (3, .int ti), (4, .int (nI i))] := hl
  refine lv_aload_n hx hb dL_law_305 rfl (lv_at hl 1 rfl) ?_
  refine lv_iconst (v := 5) hx hb dL_law_306 (by decide) ?_
  refine goI ([]) ([]) hP hD hS hA (rnV (rest := []) (c_count sa tb D cA cL l x a dy co ti ro u 4 B ch v 2 G w T a2 dy2 co2 ti2 ro2 u2 n2 B2 ch2 v2 nb2 G2 w2 T2 5 (show 4 ≤ 8 from by first | omega | assumption | decide) (show 2 ≤ 3 from by first | omega | assumption | decide) (show 5 < 11 from by first | omega | assumption | decide)) ([]) ([]) hP hD hS hA hE ⟨hx, hb, hml, hown, hts⟩ (cwV 1 hts gL_law_X4_count rfl rfl rfl (by decide +kernel) ⟨(Nat.le_of_ble_eq_true rfl), (Nat.le_of_ble_eq_true rfl)⟩) 4 0 rfl rfl rfl rfl hl.1 rfl (Nat.le_of_ble_eq_true rfl) dL_law_307 ⟨(Nat.le_of_ble_eq_true rfl), (Nat.le_of_ble_eq_true rfl)⟩) (fun _ => rfl) (fun r_307 u_307 H locs hw_307 hP hD hS => ?_)
  have hP : va_P D vwCl (wX cA x a dy co ti ro u 4 B ch v 2 G w T a2 dy2 co2 ti2 ro2 u2 n2 B2 ch2 v2 nb2 G2 w2 T2) H := hP
  have hD : va_D A (wX cA x a dy co ti ro u 4 B ch v 2 G w T a2 dy2 co2 ti2 ro2 u2 n2 B2 ch2 v2 nb2 G2 w2 T2) := hD
  obtain rfl : r_307 = tellW dy co ti ro 4 B 2 G T 5 := hw_307
  refine lv_aload_n hx hb dL_law_310 rfl (lv_at hl 1 rfl) ?_
  refine lv_bipush (v := 6) hx hb dL_law_311 (by decide) ?_
  refine goI ([]) ([]) hP hD hS hA (rnV (rest := [.int (tellW dy co ti ro 4 B 2 G T 5)]) (c_count sa tb D cA cL l x a dy co ti ro u 4 B ch v 2 G w T a2 dy2 co2 ti2 ro2 u2 n2 B2 ch2 v2 nb2 G2 w2 T2 6 (show 4 ≤ 8 from by first | omega | assumption | decide) (show 2 ≤ 3 from by first | omega | assumption | decide) (show 6 < 11 from by first | omega | assumption | decide)) ([]) ([]) hP hD hS hA hE ⟨hx, hb, hml, hown, hts⟩ (cwV 1 hts gL_law_X4_count rfl rfl rfl (by decide +kernel) ⟨(Nat.le_of_ble_eq_true rfl), (Nat.le_of_ble_eq_true rfl)⟩) 4 0 rfl rfl rfl rfl hl.1 rfl (Nat.le_of_ble_eq_true rfl) dL_law_313 ⟨(Nat.le_of_ble_eq_true rfl), (Nat.le_of_ble_eq_true rfl)⟩) (fun _ => rfl) (fun r_313 u_313 H locs hw_313 hP hD hS => ?_)
  have hP : va_P D vwCl (wX cA x a dy co ti ro u 4 B ch v 2 G w T a2 dy2 co2 ti2 ro2 u2 n2 B2 ch2 v2 nb2 G2 w2 T2) H := hP
  have hD : va_D A (wX cA x a dy co ti ro u 4 B ch v 2 G w T a2 dy2 co2 ti2 ro2 u2 n2 B2 ch2 v2 nb2 G2 w2 T2) := hD
  obtain rfl : r_313 = tellW dy co ti ro 4 B 2 G T 6 := hw_313
  refine lv_iadd hx hb dL_law_316 ?_
  refine lv_aload_n hx hb dL_law_317 rfl (lv_at hl 1 rfl) ?_
  refine lv_bipush (v := 8) hx hb dL_law_318 (by decide) ?_
  refine goI ([]) ([]) hP hD hS hA (rnV (rest := [.int ((tellW dy co ti ro 4 B 2 G T 5) + (tellW dy co ti ro 4 B 2 G T 6))]) (c_count sa tb D cA cL l x a dy co ti ro u 4 B ch v 2 G w T a2 dy2 co2 ti2 ro2 u2 n2 B2 ch2 v2 nb2 G2 w2 T2 8 (show 4 ≤ 8 from by first | omega | assumption | decide) (show 2 ≤ 3 from by first | omega | assumption | decide) (show 8 < 11 from by first | omega | assumption | decide)) ([]) ([]) hP hD hS hA hE ⟨hx, hb, hml, hown, hts⟩ (cwV 1 hts gL_law_X4_count rfl rfl rfl (by decide +kernel) ⟨(Nat.le_of_ble_eq_true rfl), (Nat.le_of_ble_eq_true rfl)⟩) 4 0 rfl rfl rfl rfl hl.1 rfl (Nat.le_of_ble_eq_true rfl) dL_law_320 ⟨(Nat.le_of_ble_eq_true rfl), (Nat.le_of_ble_eq_true rfl)⟩) (fun _ => rfl) (fun r_320 u_320 H locs hw_320 hP hD hS => ?_)
  have hP : va_P D vwCl (wX cA x a dy co ti ro u 4 B ch v 2 G w T a2 dy2 co2 ti2 ro2 u2 n2 B2 ch2 v2 nb2 G2 w2 T2) H := hP
  have hD : va_D A (wX cA x a dy co ti ro u 4 B ch v 2 G w T a2 dy2 co2 ti2 ro2 u2 n2 B2 ch2 v2 nb2 G2 w2 T2) := hD
  obtain rfl : r_320 = tellW dy co ti ro 4 B 2 G T 8 := hw_320
  refine lv_iadd hx hb dL_law_323 ?_
  refine lv_aload_n hx hb dL_law_324 rfl (lv_at hl 1 rfl) ?_
  refine lv_bipush (v := 9) hx hb dL_law_325 (by decide) ?_
  refine goI ([]) ([]) hP hD hS hA (rnV (rest := [.int (((tellW dy co ti ro 4 B 2 G T 5) + (tellW dy co ti ro 4 B 2 G T 6)) + (tellW dy co ti ro 4 B 2 G T 8))]) (c_count sa tb D cA cL l x a dy co ti ro u 4 B ch v 2 G w T a2 dy2 co2 ti2 ro2 u2 n2 B2 ch2 v2 nb2 G2 w2 T2 9 (show 4 ≤ 8 from by first | omega | assumption | decide) (show 2 ≤ 3 from by first | omega | assumption | decide) (show 9 < 11 from by first | omega | assumption | decide)) ([]) ([]) hP hD hS hA hE ⟨hx, hb, hml, hown, hts⟩ (cwV 1 hts gL_law_X4_count rfl rfl rfl (by decide +kernel) ⟨(Nat.le_of_ble_eq_true rfl), (Nat.le_of_ble_eq_true rfl)⟩) 4 0 rfl rfl rfl rfl hl.1 rfl (Nat.le_of_ble_eq_true rfl) dL_law_327 ⟨(Nat.le_of_ble_eq_true rfl), (Nat.le_of_ble_eq_true rfl)⟩) (fun _ => rfl) (fun r_327 u_327 H locs hw_327 hP hD hS => ?_)
  have hP : va_P D vwCl (wX cA x a dy co ti ro u 4 B ch v 2 G w T a2 dy2 co2 ti2 ro2 u2 n2 B2 ch2 v2 nb2 G2 w2 T2) H := hP
  have hD : va_D A (wX cA x a dy co ti ro u 4 B ch v 2 G w T a2 dy2 co2 ti2 ro2 u2 n2 B2 ch2 v2 nb2 G2 w2 T2) := hD
  obtain rfl : r_327 = tellW dy co ti ro 4 B 2 G T 9 := hw_327
  refine lv_iadd hx hb dL_law_330 ?_
  refine lv_aload_n hx hb dL_law_331 rfl (lv_at hl 1 rfl) ?_
  refine lv_bipush (v := 10) hx hb dL_law_332 (by decide) ?_
  refine goI ([]) ([]) hP hD hS hA (rnV (rest := [.int ((((tellW dy co ti ro 4 B 2 G T 5) + (tellW dy co ti ro 4 B 2 G T 6)) + (tellW dy co ti ro 4 B 2 G T 8)) + (tellW dy co ti ro 4 B 2 G T 9))]) (c_count sa tb D cA cL l x a dy co ti ro u 4 B ch v 2 G w T a2 dy2 co2 ti2 ro2 u2 n2 B2 ch2 v2 nb2 G2 w2 T2 10 (show 4 ≤ 8 from by first | omega | assumption | decide) (show 2 ≤ 3 from by first | omega | assumption | decide) (show 10 < 11 from by first | omega | assumption | decide)) ([]) ([]) hP hD hS hA hE ⟨hx, hb, hml, hown, hts⟩ (cwV 1 hts gL_law_X4_count rfl rfl rfl (by decide +kernel) ⟨(Nat.le_of_ble_eq_true rfl), (Nat.le_of_ble_eq_true rfl)⟩) 4 0 rfl rfl rfl rfl hl.1 rfl (Nat.le_of_ble_eq_true rfl) dL_law_334 ⟨(Nat.le_of_ble_eq_true rfl), (Nat.le_of_ble_eq_true rfl)⟩) (fun _ => rfl) (fun r_334 u_334 H locs hw_334 hP hD hS => ?_)
  have hP : va_P D vwCl (wX cA x a dy co ti ro u 4 B ch v 2 G w T a2 dy2 co2 ti2 ro2 u2 n2 B2 ch2 v2 nb2 G2 w2 T2) H := hP
  have hD : va_D A (wX cA x a dy co ti ro u 4 B ch v 2 G w T a2 dy2 co2 ti2 ro2 u2 n2 B2 ch2 v2 nb2 G2 w2 T2) := hD
  obtain rfl : r_334 = tellW dy co ti ro 4 B 2 G T 10 := hw_334
  refine lv_iadd hx hb dL_law_337 ?_
  refine lv_topi (fun z_1 hz_1 => ?_)
  refine lv_istore (lv' := [(12, .int z_1), (0, .ref sa.1), (1, .ref x), (2, .int cu), (3, .int ti), (4, .int (nI i))]) hx hb dL_law_338 hl (by decide) rfl (fun ls hl => ?_)
  refine lv_iload hx hb dL_law_340 (lv_at hl 0 rfl) ?_
  refine lv_iload_n hx hb dL_law_342 rfl (lv_at hl 3 rfl) ?_
  refine lv_icmp_gt (tgt := 383) hx hb dL_law_343 (by decide) (fun c_343 => False.elim (by rw [hz_1] at c_343; exact hG.there (by omega) c_343)) (fun c_343 => ?_)
  refine lv_aload_n hx hb dL_law_346 rfl (lv_at hl 2 rfl) ?_
  refine lv_iconst (v := 2) hx hb dL_law_347 (by decide) ?_
  refine goI ([]) ([]) hP hD hS hA (rnV (rest := []) (c_count sa tb D cA cL l x a dy co ti ro u 4 B ch v 2 G w T a2 dy2 co2 ti2 ro2 u2 n2 B2 ch2 v2 nb2 G2 w2 T2 2 (show 4 ≤ 8 from by first | omega | assumption | decide) (show 2 ≤ 3 from by first | omega | assumption | decide) (show 2 < 11 from by first | omega | assumption | decide)) ([]) ([]) hP hD hS hA hE ⟨hx, hb, hml, hown, hts⟩ (cwV 1 hts gL_law_X4_count rfl rfl rfl (by decide +kernel) ⟨(Nat.le_of_ble_eq_true rfl), (Nat.le_of_ble_eq_true rfl)⟩) 4 0 rfl rfl rfl rfl hl.1 rfl (Nat.le_of_ble_eq_true rfl) dL_law_348 ⟨(Nat.le_of_ble_eq_true rfl), (Nat.le_of_ble_eq_true rfl)⟩) (fun _ => rfl) (fun r_348 u_348 H locs hw_348 hP hD hS => ?_)
  have hP : va_P D vwCl (wX cA x a dy co ti ro u 4 B ch v 2 G w T a2 dy2 co2 ti2 ro2 u2 n2 B2 ch2 v2 nb2 G2 w2 T2) H := hP
  have hD : va_D A (wX cA x a dy co ti ro u 4 B ch v 2 G w T a2 dy2 co2 ti2 ro2 u2 n2 B2 ch2 v2 nb2 G2 w2 T2) := hD
  obtain rfl : r_348 = tellW dy co ti ro 4 B 2 G T 2 := hw_348
  refine lv_iload_n hx hb dL_law_351 rfl (lv_at hl 4 rfl) ?_
  refine lv_icmp_ne (tgt := 383) hx hb dL_law_352 (by decide) (fun c_352 => False.elim (by exact c_352 rfl)) (fun c_352 => ?_)
  refine lv_iload_n hx hb dL_law_355 rfl (lv_at hl 4 rfl) ?_
  refine lv_if_lt (tgt := 383) hx hb dL_law_356 (by decide) (fun c_356 => False.elim (by exact t_nlt (by rw [t_n0]; exact hG.2.2.1) c_356)) (fun c_356 => ?_)
  refine lv_aload_n hx hb dL_law_359 rfl (lv_at hl 2 rfl) ?_
  refine lv_iconst (v := 1) hx hb dL_law_360 (by decide) ?_
  refine goI ([]) ([]) hP hD hS hA (rnV (rest := []) (c_count sa tb D cA cL l x a dy co ti ro u 4 B ch v 2 G w T a2 dy2 co2 ti2 ro2 u2 n2 B2 ch2 v2 nb2 G2 w2 T2 1 (show 4 ≤ 8 from by first | omega | assumption | decide) (show 2 ≤ 3 from by first | omega | assumption | decide) (show 1 < 11 from by first | omega | assumption | decide)) ([]) ([]) hP hD hS hA hE ⟨hx, hb, hml, hown, hts⟩ (cwV 1 hts gL_law_X4_count rfl rfl rfl (by decide +kernel) ⟨(Nat.le_of_ble_eq_true rfl), (Nat.le_of_ble_eq_true rfl)⟩) 4 0 rfl rfl rfl rfl hl.1 rfl (Nat.le_of_ble_eq_true rfl) dL_law_361 ⟨(Nat.le_of_ble_eq_true rfl), (Nat.le_of_ble_eq_true rfl)⟩) (fun _ => rfl) (fun r_361 u_361 H locs hw_361 hP hD hS => ?_)
  have hP : va_P D vwCl (wX cA x a dy co ti ro u 4 B ch v 2 G w T a2 dy2 co2 ti2 ro2 u2 n2 B2 ch2 v2 nb2 G2 w2 T2) H := hP
  have hD : va_D A (wX cA x a dy co ti ro u 4 B ch v 2 G w T a2 dy2 co2 ti2 ro2 u2 n2 B2 ch2 v2 nb2 G2 w2 T2) := hD
  obtain rfl : r_361 = tellW dy co ti ro 4 B 2 G T 1 := hw_361
  refine lv_bipush (v := 20) hx hb dL_law_364 (by decide) ?_
  refine lv_aload_n hx hb dL_law_366 rfl (lv_at hl 2 rfl) ?_
  refine lv_iconst (v := 0) hx hb dL_law_367 (by decide) ?_
  refine lv_iconst (v := 5) hx hb dL_law_368 (by decide) ?_
  refine goI ([]) ([]) hP hD hS hA (rnV (rest := [.int 20, .int (tellW dy co ti ro 4 B 2 G T 1)]) (c_told sa tb D cA cL l x a dy co ti ro u 4 B ch v 2 G w T a2 dy2 co2 ti2 ro2 u2 n2 B2 ch2 v2 nb2 G2 w2 T2 0 5 (show 0 < 2 from by first | omega | assumption | decide) (show 2 ≤ 3 from by first | omega | assumption | decide) (show 5 < 6 from by first | omega | assumption | decide)) ([]) ([]) hP hD hS hA hE ⟨hx, hb, hml, hown, hts⟩ (cwV 2 hts gL_law_X4_told rfl rfl rfl (by decide +kernel) ⟨(Nat.le_of_ble_eq_true rfl), (Nat.le_of_ble_eq_true rfl)⟩) 4 0 rfl rfl rfl rfl hl.1 rfl (Nat.le_of_ble_eq_true rfl) dL_law_369 ⟨(Nat.le_of_ble_eq_true rfl), (Nat.le_of_ble_eq_true rfl)⟩) (fun _ => rfl) (fun r_369 u_369 H locs hw_369 hP hD hS => ?_)
  have hP : va_P D vwCl (wX cA x a dy co ti ro u 4 B ch v 2 G w T a2 dy2 co2 ti2 ro2 u2 n2 B2 ch2 v2 nb2 G2 w2 T2) H := hP
  have hD : va_D A (wX cA x a dy co ti ro u 4 B ch v 2 G w T a2 dy2 co2 ti2 ro2 u2 n2 B2 ch2 v2 nb2 G2 w2 T2) := hD
  obtain rfl : r_369 = tellG G 0 5 := hw_369
  refine lv_iadd hx hb dL_law_372 ?_
  refine lv_aload_n hx hb dL_law_373 rfl (lv_at hl 2 rfl) ?_
  refine lv_iconst (v := 1) hx hb dL_law_374 (by decide) ?_
  refine lv_iconst (v := 5) hx hb dL_law_375 (by decide) ?_
  refine goI ([]) ([]) hP hD hS hA (rnV (rest := [.int (20 + (tellG G 0 5)), .int (tellW dy co ti ro 4 B 2 G T 1)]) (c_told sa tb D cA cL l x a dy co ti ro u 4 B ch v 2 G w T a2 dy2 co2 ti2 ro2 u2 n2 B2 ch2 v2 nb2 G2 w2 T2 1 5 (show 1 < 2 from by first | omega | assumption | decide) (show 2 ≤ 3 from by first | omega | assumption | decide) (show 5 < 6 from by first | omega | assumption | decide)) ([]) ([]) hP hD hS hA hE ⟨hx, hb, hml, hown, hts⟩ (cwV 2 hts gL_law_X4_told rfl rfl rfl (by decide +kernel) ⟨(Nat.le_of_ble_eq_true rfl), (Nat.le_of_ble_eq_true rfl)⟩) 4 0 rfl rfl rfl rfl hl.1 rfl (Nat.le_of_ble_eq_true rfl) dL_law_376 ⟨(Nat.le_of_ble_eq_true rfl), (Nat.le_of_ble_eq_true rfl)⟩) (fun _ => rfl) (fun r_376 u_376 H locs hw_376 hP hD hS => ?_)
  have hP : va_P D vwCl (wX cA x a dy co ti ro u 4 B ch v 2 G w T a2 dy2 co2 ti2 ro2 u2 n2 B2 ch2 v2 nb2 G2 w2 T2) H := hP
  have hD : va_D A (wX cA x a dy co ti ro u 4 B ch v 2 G w T a2 dy2 co2 ti2 ro2 u2 n2 B2 ch2 v2 nb2 G2 w2 T2) := hD
  obtain rfl : r_376 = tellG G 1 5 := hw_376
  refine lv_iadd hx hb dL_law_379 ?_
  refine lv_icmp_eq (tgt := 385) hx hb dL_law_380 (by decide) (fun c_380 => ?_) (fun c_380 => False.elim (by exact c_380 hG.2.2.2))
  exact K _ H locs ls ⟨_, _, _, _, _, _, _, _, _, _, _, _, _, _, _, _, _, _, _, rfl⟩ hP hD hS (lv_sub hl [1, 2, 3, 4, 5] rfl)
set_option maxRecDepth 100000 in
set_option maxHeartbeats 4000000 in
theorem J_chkB {p : Program} {l : Launch} {e : Env} {s : State} {m : MethodId} {below : List Frame} {meth : Method} {c : Code} {Q : State → Prop} {sa : Nat × Nat × (Nat → Int32)} {tb : Nat → Nat} {D : va_G} {cA cL : ClassId} {A : Nat → Prop} {x i : Nat} {cu dy co ti ro : Int32} {B G : Nat → Nat → Int32} {T : Nat → Int32}  (C : LawC p s m c sa tb D cA cL A) (hi : i < 16) (hG : GS (i + 1) cu co ti ro B G T) (K : KT p l e s m below meth c Q sa D cA A x 475 (lvT sa x cu ti i) dy co ti ro B G T) : KT p l e s m below meth c Q sa D cA A x 385 (lvT sa x cu ti i) dy co ti ro B G T := by
  obtain ⟨hx, hb, hml, hown, hts, hA, hE⟩ := id C
  intro Wd H locs ls hW hP hD hS hl
  obtain ⟨a, u, ch, v, w, a2, dy2, co2, ti2, ro2, u2, n2, B2, ch2, v2, nb2, G2, w2, T2, rfl⟩ := hW
  have hl : lv_has ls 14 [(0, .ref sa.1), (1, .ref x), (2, .int cu), (3, .int ti), (4, .int (nI i))] := hl
  refine lv_iconst (v := 0) hx hb dL_law_385 (by decide) ?_
  refine lv_istore (lv' := [(13, .int 0), (0, .ref sa.1), (1, .ref x), (2, .int cu), (3, .int ti), (4, .int (nI i))]) hx hb dL_law_386 hl (by decide) rfl (fun ls hl => ?_)
  refine lv_iload hx hb dL_law_388 (lv_at hl 0 rfl) ?_
  refine lv_iconst (v := 4) hx hb dL_law_390 (by decide) ?_
  refine lv_icmp_ge (tgt := 475) hx hb dL_law_391 (by decide) (fun q => absurd q (by decide)) (fun _ => ?_)
  refine lv_aload_n hx hb dL_law_394 rfl (lv_at hl 2 rfl) ?_
  refine lv_iload hx hb dL_law_395 (lv_at hl 0 rfl) ?_
  refine lv_iconst (v := 2) hx hb dL_law_397 (by decide) ?_
  refine goI ([]) ([]) hP hD hS hA (rnV (rest := []) (c_about sa tb D cA cL l x a dy co ti ro u 4 B ch v 2 G w T a2 dy2 co2 ti2 ro2 u2 n2 B2 ch2 v2 nb2 G2 w2 T2 0 2 (show 0 < 4 from by first | omega | assumption | decide) (show 4 ≤ 8 from by first | omega | assumption | decide) (show 2 < 10 from by first | omega | assumption | decide)) ([]) ([]) hP hD hS hA hE ⟨hx, hb, hml, hown, hts⟩ (cwV 2 hts gL_law_X4_about rfl rfl rfl (by decide +kernel) ⟨(Nat.le_of_ble_eq_true rfl), (Nat.le_of_ble_eq_true rfl)⟩) 4 0 rfl rfl rfl rfl hl.1 rfl (Nat.le_of_ble_eq_true rfl) dL_law_398 ⟨(Nat.le_of_ble_eq_true rfl), (Nat.le_of_ble_eq_true rfl)⟩) (fun _ => rfl) (fun r_398 u_398 H locs hw_398 hP hD hS => ?_)
  have hP : va_P D vwCl (wX cA x a dy co ti ro u 4 B ch v 2 G w T a2 dy2 co2 ti2 ro2 u2 n2 B2 ch2 v2 nb2 G2 w2 T2) H := hP
  have hD : va_D A (wX cA x a dy co ti ro u 4 B ch v 2 G w T a2 dy2 co2 ti2 ro2 u2 n2 B2 ch2 v2 nb2 G2 w2 T2) := hD
  obtain rfl : r_398 = tellB B 0 2 := hw_398
  refine lv_bipush (v := 9) hx hb dL_law_401 (by decide) ?_
  refine lv_icmp_gt (tgt := 467) hx hb dL_law_403 (by decide) (fun c_403 => False.elim (by exact (hG.1.1 0 (by decide)).a2 c_403)) (fun c_403 => ?_)
  refine lv_aload_n hx hb dL_law_406 rfl (lv_at hl 2 rfl) ?_
  refine lv_iload hx hb dL_law_407 (lv_at hl 0 rfl) ?_
  refine lv_iconst (v := 3) hx hb dL_law_409 (by decide) ?_
  refine goI ([]) ([]) hP hD hS hA (rnV (rest := []) (c_about sa tb D cA cL l x a dy co ti ro u 4 B ch v 2 G w T a2 dy2 co2 ti2 ro2 u2 n2 B2 ch2 v2 nb2 G2 w2 T2 0 3 (show 0 < 4 from by first | omega | assumption | decide) (show 4 ≤ 8 from by first | omega | assumption | decide) (show 3 < 10 from by first | omega | assumption | decide)) ([]) ([]) hP hD hS hA hE ⟨hx, hb, hml, hown, hts⟩ (cwV 2 hts gL_law_X4_about rfl rfl rfl (by decide +kernel) ⟨(Nat.le_of_ble_eq_true rfl), (Nat.le_of_ble_eq_true rfl)⟩) 4 0 rfl rfl rfl rfl hl.1 rfl (Nat.le_of_ble_eq_true rfl) dL_law_410 ⟨(Nat.le_of_ble_eq_true rfl), (Nat.le_of_ble_eq_true rfl)⟩) (fun _ => rfl) (fun r_410 u_410 H locs hw_410 hP hD hS => ?_)
  have hP : va_P D vwCl (wX cA x a dy co ti ro u 4 B ch v 2 G w T a2 dy2 co2 ti2 ro2 u2 n2 B2 ch2 v2 nb2 G2 w2 T2) H := hP
  have hD : va_D A (wX cA x a dy co ti ro u 4 B ch v 2 G w T a2 dy2 co2 ti2 ro2 u2 n2 B2 ch2 v2 nb2 G2 w2 T2) := hD
  obtain rfl : r_410 = tellB B 0 3 := hw_410
  refine lv_if_lt (tgt := 467) hx hb dL_law_413 (by decide) (fun c_413 => False.elim (by exact (hG.1.1 0 (by decide)).a3 c_413)) (fun c_413 => ?_)
  refine lv_aload_n hx hb dL_law_416 rfl (lv_at hl 2 rfl) ?_
  refine lv_iload hx hb dL_law_417 (lv_at hl 0 rfl) ?_
  refine lv_iconst (v := 3) hx hb dL_law_419 (by decide) ?_
  refine goI ([]) ([]) hP hD hS hA (rnV (rest := []) (c_about sa tb D cA cL l x a dy co ti ro u 4 B ch v 2 G w T a2 dy2 co2 ti2 ro2 u2 n2 B2 ch2 v2 nb2 G2 w2 T2 0 3 (show 0 < 4 from by first | omega | assumption | decide) (show 4 ≤ 8 from by first | omega | assumption | decide) (show 3 < 10 from by first | omega | assumption | decide)) ([]) ([]) hP hD hS hA hE ⟨hx, hb, hml, hown, hts⟩ (cwV 2 hts gL_law_X4_about rfl rfl rfl (by decide +kernel) ⟨(Nat.le_of_ble_eq_true rfl), (Nat.le_of_ble_eq_true rfl)⟩) 4 0 rfl rfl rfl rfl hl.1 rfl (Nat.le_of_ble_eq_true rfl) dL_law_420 ⟨(Nat.le_of_ble_eq_true rfl), (Nat.le_of_ble_eq_true rfl)⟩) (fun _ => rfl) (fun r_420 u_420 H locs hw_420 hP hD hS => ?_)
  have hP : va_P D vwCl (wX cA x a dy co ti ro u 4 B ch v 2 G w T a2 dy2 co2 ti2 ro2 u2 n2 B2 ch2 v2 nb2 G2 w2 T2) H := hP
  have hD : va_D A (wX cA x a dy co ti ro u 4 B ch v 2 G w T a2 dy2 co2 ti2 ro2 u2 n2 B2 ch2 v2 nb2 G2 w2 T2) := hD
  obtain rfl : r_420 = tellB B 0 3 := hw_420
  refine lv_bipush (v := 100) hx hb dL_law_423 (by decide) ?_
  refine lv_icmp_gt (tgt := 467) hx hb dL_law_425 (by decide) (fun c_425 => False.elim (by exact (hG.1.1 0 (by decide)).a100 c_425)) (fun c_425 => ?_)
  refine lv_aload_n hx hb dL_law_428 rfl (lv_at hl 2 rfl) ?_
  refine lv_iload hx hb dL_law_429 (lv_at hl 0 rfl) ?_
  refine lv_iconst (v := 5) hx hb dL_law_431 (by decide) ?_
  refine goI ([]) ([]) hP hD hS hA (rnV (rest := []) (c_about sa tb D cA cL l x a dy co ti ro u 4 B ch v 2 G w T a2 dy2 co2 ti2 ro2 u2 n2 B2 ch2 v2 nb2 G2 w2 T2 0 5 (show 0 < 4 from by first | omega | assumption | decide) (show 4 ≤ 8 from by first | omega | assumption | decide) (show 5 < 10 from by first | omega | assumption | decide)) ([]) ([]) hP hD hS hA hE ⟨hx, hb, hml, hown, hts⟩ (cwV 2 hts gL_law_X4_about rfl rfl rfl (by decide +kernel) ⟨(Nat.le_of_ble_eq_true rfl), (Nat.le_of_ble_eq_true rfl)⟩) 4 0 rfl rfl rfl rfl hl.1 rfl (Nat.le_of_ble_eq_true rfl) dL_law_432 ⟨(Nat.le_of_ble_eq_true rfl), (Nat.le_of_ble_eq_true rfl)⟩) (fun _ => rfl) (fun r_432 u_432 H locs hw_432 hP hD hS => ?_)
  have hP : va_P D vwCl (wX cA x a dy co ti ro u 4 B ch v 2 G w T a2 dy2 co2 ti2 ro2 u2 n2 B2 ch2 v2 nb2 G2 w2 T2) H := hP
  have hD : va_D A (wX cA x a dy co ti ro u 4 B ch v 2 G w T a2 dy2 co2 ti2 ro2 u2 n2 B2 ch2 v2 nb2 G2 w2 T2) := hD
  obtain rfl : r_432 = tellB B 0 5 := hw_432
  refine lv_aload_n hx hb dL_law_435 rfl (lv_at hl 2 rfl) ?_
  refine lv_iload hx hb dL_law_436 (lv_at hl 0 rfl) ?_
  refine lv_iconst (v := 4) hx hb dL_law_438 (by decide) ?_
  refine goI ([]) ([]) hP hD hS hA (rnV (rest := [.int (tellB B 0 5)]) (c_about sa tb D cA cL l x a dy co ti ro u 4 B ch v 2 G w T a2 dy2 co2 ti2 ro2 u2 n2 B2 ch2 v2 nb2 G2 w2 T2 0 4 (show 0 < 4 from by first | omega | assumption | decide) (show 4 ≤ 8 from by first | omega | assumption | decide) (show 4 < 10 from by first | omega | assumption | decide)) ([]) ([]) hP hD hS hA hE ⟨hx, hb, hml, hown, hts⟩ (cwV 2 hts gL_law_X4_about rfl rfl rfl (by decide +kernel) ⟨(Nat.le_of_ble_eq_true rfl), (Nat.le_of_ble_eq_true rfl)⟩) 4 0 rfl rfl rfl rfl hl.1 rfl (Nat.le_of_ble_eq_true rfl) dL_law_439 ⟨(Nat.le_of_ble_eq_true rfl), (Nat.le_of_ble_eq_true rfl)⟩) (fun _ => rfl) (fun r_439 u_439 H locs hw_439 hP hD hS => ?_)
  have hP : va_P D vwCl (wX cA x a dy co ti ro u 4 B ch v 2 G w T a2 dy2 co2 ti2 ro2 u2 n2 B2 ch2 v2 nb2 G2 w2 T2) H := hP
  have hD : va_D A (wX cA x a dy co ti ro u 4 B ch v 2 G w T a2 dy2 co2 ti2 ro2 u2 n2 B2 ch2 v2 nb2 G2 w2 T2) := hD
  obtain rfl : r_439 = tellB B 0 4 := hw_439
  refine lv_icmp_gt (tgt := 467) hx hb dL_law_442 (by decide) (fun c_442 => False.elim (by exact (hG.1.1 0 (by decide)).a5 c_442)) (fun c_442 => ?_)
  refine lv_aload_n hx hb dL_law_445 rfl (lv_at hl 2 rfl) ?_
  refine lv_iload hx hb dL_law_446 (lv_at hl 0 rfl) ?_
  refine lv_bipush (v := 6) hx hb dL_law_448 (by decide) ?_
  refine goI ([]) ([]) hP hD hS hA (rnV (rest := []) (c_about sa tb D cA cL l x a dy co ti ro u 4 B ch v 2 G w T a2 dy2 co2 ti2 ro2 u2 n2 B2 ch2 v2 nb2 G2 w2 T2 0 6 (show 0 < 4 from by first | omega | assumption | decide) (show 4 ≤ 8 from by first | omega | assumption | decide) (show 6 < 10 from by first | omega | assumption | decide)) ([]) ([]) hP hD hS hA hE ⟨hx, hb, hml, hown, hts⟩ (cwV 2 hts gL_law_X4_about rfl rfl rfl (by decide +kernel) ⟨(Nat.le_of_ble_eq_true rfl), (Nat.le_of_ble_eq_true rfl)⟩) 4 0 rfl rfl rfl rfl hl.1 rfl (Nat.le_of_ble_eq_true rfl) dL_law_450 ⟨(Nat.le_of_ble_eq_true rfl), (Nat.le_of_ble_eq_true rfl)⟩) (fun _ => rfl) (fun r_450 u_450 H locs hw_450 hP hD hS => ?_)
  have hP : va_P D vwCl (wX cA x a dy co ti ro u 4 B ch v 2 G w T a2 dy2 co2 ti2 ro2 u2 n2 B2 ch2 v2 nb2 G2 w2 T2) H := hP
  have hD : va_D A (wX cA x a dy co ti ro u 4 B ch v 2 G w T a2 dy2 co2 ti2 ro2 u2 n2 B2 ch2 v2 nb2 G2 w2 T2) := hD
  obtain rfl : r_450 = tellB B 0 6 := hw_450
  refine lv_if_lt (tgt := 467) hx hb dL_law_453 (by decide) (fun c_453 => False.elim (by exact (hG.1.1 0 (by decide)).a6 c_453)) (fun c_453 => ?_)
  refine lv_aload_n hx hb dL_law_456 rfl (lv_at hl 2 rfl) ?_
  refine lv_iload hx hb dL_law_457 (lv_at hl 0 rfl) ?_
  refine lv_bipush (v := 7) hx hb dL_law_459 (by decide) ?_
  refine goI ([]) ([]) hP hD hS hA (rnV (rest := []) (c_about sa tb D cA cL l x a dy co ti ro u 4 B ch v 2 G w T a2 dy2 co2 ti2 ro2 u2 n2 B2 ch2 v2 nb2 G2 w2 T2 0 7 (show 0 < 4 from by first | omega | assumption | decide) (show 4 ≤ 8 from by first | omega | assumption | decide) (show 7 < 10 from by first | omega | assumption | decide)) ([]) ([]) hP hD hS hA hE ⟨hx, hb, hml, hown, hts⟩ (cwV 2 hts gL_law_X4_about rfl rfl rfl (by decide +kernel) ⟨(Nat.le_of_ble_eq_true rfl), (Nat.le_of_ble_eq_true rfl)⟩) 4 0 rfl rfl rfl rfl hl.1 rfl (Nat.le_of_ble_eq_true rfl) dL_law_461 ⟨(Nat.le_of_ble_eq_true rfl), (Nat.le_of_ble_eq_true rfl)⟩) (fun _ => rfl) (fun r_461 u_461 H locs hw_461 hP hD hS => ?_)
  have hP : va_P D vwCl (wX cA x a dy co ti ro u 4 B ch v 2 G w T a2 dy2 co2 ti2 ro2 u2 n2 B2 ch2 v2 nb2 G2 w2 T2) H := hP
  have hD : va_D A (wX cA x a dy co ti ro u 4 B ch v 2 G w T a2 dy2 co2 ti2 ro2 u2 n2 B2 ch2 v2 nb2 G2 w2 T2) := hD
  obtain rfl : r_461 = tellB B 0 7 := hw_461
  refine lv_if_ge (tgt := 469) hx hb dL_law_464 (by decide) (fun c_464 => ?_) (fun c_464 => False.elim (by exact c_464 (hG.1.1 0 (by decide)).a7))
  refine lv_iinc (v := 1) (lv' := [(13, .int 1), (0, .ref sa.1), (1, .ref x), (2, .int cu), (3, .int ti), (4, .int (nI i))]) (k := 0) hx hb dL_law_469 hl rfl (by decide) (by decide) rfl (fun ls hl => ?_)
  refine lv_goto (tgt := 388) hx hb dL_law_472 (by decide) ?_
  refine lv_iload hx hb dL_law_388 (lv_at hl 0 rfl) ?_
  refine lv_iconst (v := 4) hx hb dL_law_390 (by decide) ?_
  refine lv_icmp_ge (tgt := 475) hx hb dL_law_391 (by decide) (fun q => absurd q (by decide)) (fun _ => ?_)
  refine lv_aload_n hx hb dL_law_394 rfl (lv_at hl 2 rfl) ?_
  refine lv_iload hx hb dL_law_395 (lv_at hl 0 rfl) ?_
  refine lv_iconst (v := 2) hx hb dL_law_397 (by decide) ?_
  refine goI ([]) ([]) hP hD hS hA (rnV (rest := []) (c_about sa tb D cA cL l x a dy co ti ro u 4 B ch v 2 G w T a2 dy2 co2 ti2 ro2 u2 n2 B2 ch2 v2 nb2 G2 w2 T2 1 2 (show 1 < 4 from by first | omega | assumption | decide) (show 4 ≤ 8 from by first | omega | assumption | decide) (show 2 < 10 from by first | omega | assumption | decide)) ([]) ([]) hP hD hS hA hE ⟨hx, hb, hml, hown, hts⟩ (cwV 2 hts gL_law_X4_about rfl rfl rfl (by decide +kernel) ⟨(Nat.le_of_ble_eq_true rfl), (Nat.le_of_ble_eq_true rfl)⟩) 4 0 rfl rfl rfl rfl hl.1 rfl (Nat.le_of_ble_eq_true rfl) dL_law_398 ⟨(Nat.le_of_ble_eq_true rfl), (Nat.le_of_ble_eq_true rfl)⟩) (fun _ => rfl) (fun r_398 u_398 H locs hw_398 hP hD hS => ?_)
  have hP : va_P D vwCl (wX cA x a dy co ti ro u 4 B ch v 2 G w T a2 dy2 co2 ti2 ro2 u2 n2 B2 ch2 v2 nb2 G2 w2 T2) H := hP
  have hD : va_D A (wX cA x a dy co ti ro u 4 B ch v 2 G w T a2 dy2 co2 ti2 ro2 u2 n2 B2 ch2 v2 nb2 G2 w2 T2) := hD
  obtain rfl : r_398 = tellB B 1 2 := hw_398
  refine lv_bipush (v := 9) hx hb dL_law_401 (by decide) ?_
  refine lv_icmp_gt (tgt := 467) hx hb dL_law_403 (by decide) (fun c_403_2 => False.elim (by exact (hG.1.1 1 (by decide)).a2 c_403_2)) (fun c_403_2 => ?_)
  refine lv_aload_n hx hb dL_law_406 rfl (lv_at hl 2 rfl) ?_
  refine lv_iload hx hb dL_law_407 (lv_at hl 0 rfl) ?_
  refine lv_iconst (v := 3) hx hb dL_law_409 (by decide) ?_
  refine goI ([]) ([]) hP hD hS hA (rnV (rest := []) (c_about sa tb D cA cL l x a dy co ti ro u 4 B ch v 2 G w T a2 dy2 co2 ti2 ro2 u2 n2 B2 ch2 v2 nb2 G2 w2 T2 1 3 (show 1 < 4 from by first | omega | assumption | decide) (show 4 ≤ 8 from by first | omega | assumption | decide) (show 3 < 10 from by first | omega | assumption | decide)) ([]) ([]) hP hD hS hA hE ⟨hx, hb, hml, hown, hts⟩ (cwV 2 hts gL_law_X4_about rfl rfl rfl (by decide +kernel) ⟨(Nat.le_of_ble_eq_true rfl), (Nat.le_of_ble_eq_true rfl)⟩) 4 0 rfl rfl rfl rfl hl.1 rfl (Nat.le_of_ble_eq_true rfl) dL_law_410 ⟨(Nat.le_of_ble_eq_true rfl), (Nat.le_of_ble_eq_true rfl)⟩) (fun _ => rfl) (fun r_410 u_410 H locs hw_410 hP hD hS => ?_)
  have hP : va_P D vwCl (wX cA x a dy co ti ro u 4 B ch v 2 G w T a2 dy2 co2 ti2 ro2 u2 n2 B2 ch2 v2 nb2 G2 w2 T2) H := hP
  have hD : va_D A (wX cA x a dy co ti ro u 4 B ch v 2 G w T a2 dy2 co2 ti2 ro2 u2 n2 B2 ch2 v2 nb2 G2 w2 T2) := hD
  obtain rfl : r_410 = tellB B 1 3 := hw_410
  refine lv_if_lt (tgt := 467) hx hb dL_law_413 (by decide) (fun c_413_2 => False.elim (by exact (hG.1.1 1 (by decide)).a3 c_413_2)) (fun c_413_2 => ?_)
  refine lv_aload_n hx hb dL_law_416 rfl (lv_at hl 2 rfl) ?_
  refine lv_iload hx hb dL_law_417 (lv_at hl 0 rfl) ?_
  refine lv_iconst (v := 3) hx hb dL_law_419 (by decide) ?_
  refine goI ([]) ([]) hP hD hS hA (rnV (rest := []) (c_about sa tb D cA cL l x a dy co ti ro u 4 B ch v 2 G w T a2 dy2 co2 ti2 ro2 u2 n2 B2 ch2 v2 nb2 G2 w2 T2 1 3 (show 1 < 4 from by first | omega | assumption | decide) (show 4 ≤ 8 from by first | omega | assumption | decide) (show 3 < 10 from by first | omega | assumption | decide)) ([]) ([]) hP hD hS hA hE ⟨hx, hb, hml, hown, hts⟩ (cwV 2 hts gL_law_X4_about rfl rfl rfl (by decide +kernel) ⟨(Nat.le_of_ble_eq_true rfl), (Nat.le_of_ble_eq_true rfl)⟩) 4 0 rfl rfl rfl rfl hl.1 rfl (Nat.le_of_ble_eq_true rfl) dL_law_420 ⟨(Nat.le_of_ble_eq_true rfl), (Nat.le_of_ble_eq_true rfl)⟩) (fun _ => rfl) (fun r_420 u_420 H locs hw_420 hP hD hS => ?_)
  have hP : va_P D vwCl (wX cA x a dy co ti ro u 4 B ch v 2 G w T a2 dy2 co2 ti2 ro2 u2 n2 B2 ch2 v2 nb2 G2 w2 T2) H := hP
  have hD : va_D A (wX cA x a dy co ti ro u 4 B ch v 2 G w T a2 dy2 co2 ti2 ro2 u2 n2 B2 ch2 v2 nb2 G2 w2 T2) := hD
  obtain rfl : r_420 = tellB B 1 3 := hw_420
  refine lv_bipush (v := 100) hx hb dL_law_423 (by decide) ?_
  refine lv_icmp_gt (tgt := 467) hx hb dL_law_425 (by decide) (fun c_425_2 => False.elim (by exact (hG.1.1 1 (by decide)).a100 c_425_2)) (fun c_425_2 => ?_)
  refine lv_aload_n hx hb dL_law_428 rfl (lv_at hl 2 rfl) ?_
  refine lv_iload hx hb dL_law_429 (lv_at hl 0 rfl) ?_
  refine lv_iconst (v := 5) hx hb dL_law_431 (by decide) ?_
  refine goI ([]) ([]) hP hD hS hA (rnV (rest := []) (c_about sa tb D cA cL l x a dy co ti ro u 4 B ch v 2 G w T a2 dy2 co2 ti2 ro2 u2 n2 B2 ch2 v2 nb2 G2 w2 T2 1 5 (show 1 < 4 from by first | omega | assumption | decide) (show 4 ≤ 8 from by first | omega | assumption | decide) (show 5 < 10 from by first | omega | assumption | decide)) ([]) ([]) hP hD hS hA hE ⟨hx, hb, hml, hown, hts⟩ (cwV 2 hts gL_law_X4_about rfl rfl rfl (by decide +kernel) ⟨(Nat.le_of_ble_eq_true rfl), (Nat.le_of_ble_eq_true rfl)⟩) 4 0 rfl rfl rfl rfl hl.1 rfl (Nat.le_of_ble_eq_true rfl) dL_law_432 ⟨(Nat.le_of_ble_eq_true rfl), (Nat.le_of_ble_eq_true rfl)⟩) (fun _ => rfl) (fun r_432 u_432 H locs hw_432 hP hD hS => ?_)
  have hP : va_P D vwCl (wX cA x a dy co ti ro u 4 B ch v 2 G w T a2 dy2 co2 ti2 ro2 u2 n2 B2 ch2 v2 nb2 G2 w2 T2) H := hP
  have hD : va_D A (wX cA x a dy co ti ro u 4 B ch v 2 G w T a2 dy2 co2 ti2 ro2 u2 n2 B2 ch2 v2 nb2 G2 w2 T2) := hD
  obtain rfl : r_432 = tellB B 1 5 := hw_432
  refine lv_aload_n hx hb dL_law_435 rfl (lv_at hl 2 rfl) ?_
  refine lv_iload hx hb dL_law_436 (lv_at hl 0 rfl) ?_
  refine lv_iconst (v := 4) hx hb dL_law_438 (by decide) ?_
  refine goI ([]) ([]) hP hD hS hA (rnV (rest := [.int (tellB B 1 5)]) (c_about sa tb D cA cL l x a dy co ti ro u 4 B ch v 2 G w T a2 dy2 co2 ti2 ro2 u2 n2 B2 ch2 v2 nb2 G2 w2 T2 1 4 (show 1 < 4 from by first | omega | assumption | decide) (show 4 ≤ 8 from by first | omega | assumption | decide) (show 4 < 10 from by first | omega | assumption | decide)) ([]) ([]) hP hD hS hA hE ⟨hx, hb, hml, hown, hts⟩ (cwV 2 hts gL_law_X4_about rfl rfl rfl (by decide +kernel) ⟨(Nat.le_of_ble_eq_true rfl), (Nat.le_of_ble_eq_true rfl)⟩) 4 0 rfl rfl rfl rfl hl.1 rfl (Nat.le_of_ble_eq_true rfl) dL_law_439 ⟨(Nat.le_of_ble_eq_true rfl), (Nat.le_of_ble_eq_true rfl)⟩) (fun _ => rfl) (fun r_439 u_439 H locs hw_439 hP hD hS => ?_)
  have hP : va_P D vwCl (wX cA x a dy co ti ro u 4 B ch v 2 G w T a2 dy2 co2 ti2 ro2 u2 n2 B2 ch2 v2 nb2 G2 w2 T2) H := hP
  have hD : va_D A (wX cA x a dy co ti ro u 4 B ch v 2 G w T a2 dy2 co2 ti2 ro2 u2 n2 B2 ch2 v2 nb2 G2 w2 T2) := hD
  obtain rfl : r_439 = tellB B 1 4 := hw_439
  refine lv_icmp_gt (tgt := 467) hx hb dL_law_442 (by decide) (fun c_442_2 => False.elim (by exact (hG.1.1 1 (by decide)).a5 c_442_2)) (fun c_442_2 => ?_)
  refine lv_aload_n hx hb dL_law_445 rfl (lv_at hl 2 rfl) ?_
  refine lv_iload hx hb dL_law_446 (lv_at hl 0 rfl) ?_
  refine lv_bipush (v := 6) hx hb dL_law_448 (by decide) ?_
  refine goI ([]) ([]) hP hD hS hA (rnV (rest := []) (c_about sa tb D cA cL l x a dy co ti ro u 4 B ch v 2 G w T a2 dy2 co2 ti2 ro2 u2 n2 B2 ch2 v2 nb2 G2 w2 T2 1 6 (show 1 < 4 from by first | omega | assumption | decide) (show 4 ≤ 8 from by first | omega | assumption | decide) (show 6 < 10 from by first | omega | assumption | decide)) ([]) ([]) hP hD hS hA hE ⟨hx, hb, hml, hown, hts⟩ (cwV 2 hts gL_law_X4_about rfl rfl rfl (by decide +kernel) ⟨(Nat.le_of_ble_eq_true rfl), (Nat.le_of_ble_eq_true rfl)⟩) 4 0 rfl rfl rfl rfl hl.1 rfl (Nat.le_of_ble_eq_true rfl) dL_law_450 ⟨(Nat.le_of_ble_eq_true rfl), (Nat.le_of_ble_eq_true rfl)⟩) (fun _ => rfl) (fun r_450 u_450 H locs hw_450 hP hD hS => ?_)
  have hP : va_P D vwCl (wX cA x a dy co ti ro u 4 B ch v 2 G w T a2 dy2 co2 ti2 ro2 u2 n2 B2 ch2 v2 nb2 G2 w2 T2) H := hP
  have hD : va_D A (wX cA x a dy co ti ro u 4 B ch v 2 G w T a2 dy2 co2 ti2 ro2 u2 n2 B2 ch2 v2 nb2 G2 w2 T2) := hD
  obtain rfl : r_450 = tellB B 1 6 := hw_450
  refine lv_if_lt (tgt := 467) hx hb dL_law_453 (by decide) (fun c_453_2 => False.elim (by exact (hG.1.1 1 (by decide)).a6 c_453_2)) (fun c_453_2 => ?_)
  refine lv_aload_n hx hb dL_law_456 rfl (lv_at hl 2 rfl) ?_
  refine lv_iload hx hb dL_law_457 (lv_at hl 0 rfl) ?_
  refine lv_bipush (v := 7) hx hb dL_law_459 (by decide) ?_
  refine goI ([]) ([]) hP hD hS hA (rnV (rest := []) (c_about sa tb D cA cL l x a dy co ti ro u 4 B ch v 2 G w T a2 dy2 co2 ti2 ro2 u2 n2 B2 ch2 v2 nb2 G2 w2 T2 1 7 (show 1 < 4 from by first | omega | assumption | decide) (show 4 ≤ 8 from by first | omega | assumption | decide) (show 7 < 10 from by first | omega | assumption | decide)) ([]) ([]) hP hD hS hA hE ⟨hx, hb, hml, hown, hts⟩ (cwV 2 hts gL_law_X4_about rfl rfl rfl (by decide +kernel) ⟨(Nat.le_of_ble_eq_true rfl), (Nat.le_of_ble_eq_true rfl)⟩) 4 0 rfl rfl rfl rfl hl.1 rfl (Nat.le_of_ble_eq_true rfl) dL_law_461 ⟨(Nat.le_of_ble_eq_true rfl), (Nat.le_of_ble_eq_true rfl)⟩) (fun _ => rfl) (fun r_461 u_461 H locs hw_461 hP hD hS => ?_)
  have hP : va_P D vwCl (wX cA x a dy co ti ro u 4 B ch v 2 G w T a2 dy2 co2 ti2 ro2 u2 n2 B2 ch2 v2 nb2 G2 w2 T2) H := hP
  have hD : va_D A (wX cA x a dy co ti ro u 4 B ch v 2 G w T a2 dy2 co2 ti2 ro2 u2 n2 B2 ch2 v2 nb2 G2 w2 T2) := hD
  obtain rfl : r_461 = tellB B 1 7 := hw_461
  refine lv_if_ge (tgt := 469) hx hb dL_law_464 (by decide) (fun c_464_2 => ?_) (fun c_464_2 => False.elim (by exact c_464_2 (hG.1.1 1 (by decide)).a7))
  refine lv_iinc (v := 2) (lv' := [(13, .int 2), (0, .ref sa.1), (1, .ref x), (2, .int cu), (3, .int ti), (4, .int (nI i))]) (k := 0) hx hb dL_law_469 hl rfl (by decide) (by decide) rfl (fun ls hl => ?_)
  refine lv_goto (tgt := 388) hx hb dL_law_472 (by decide) ?_
  refine lv_iload hx hb dL_law_388 (lv_at hl 0 rfl) ?_
  refine lv_iconst (v := 4) hx hb dL_law_390 (by decide) ?_
  refine lv_icmp_ge (tgt := 475) hx hb dL_law_391 (by decide) (fun q => absurd q (by decide)) (fun _ => ?_)
  refine lv_aload_n hx hb dL_law_394 rfl (lv_at hl 2 rfl) ?_
  refine lv_iload hx hb dL_law_395 (lv_at hl 0 rfl) ?_
  refine lv_iconst (v := 2) hx hb dL_law_397 (by decide) ?_
  refine goI ([]) ([]) hP hD hS hA (rnV (rest := []) (c_about sa tb D cA cL l x a dy co ti ro u 4 B ch v 2 G w T a2 dy2 co2 ti2 ro2 u2 n2 B2 ch2 v2 nb2 G2 w2 T2 2 2 (show 2 < 4 from by first | omega | assumption | decide) (show 4 ≤ 8 from by first | omega | assumption | decide) (show 2 < 10 from by first | omega | assumption | decide)) ([]) ([]) hP hD hS hA hE ⟨hx, hb, hml, hown, hts⟩ (cwV 2 hts gL_law_X4_about rfl rfl rfl (by decide +kernel) ⟨(Nat.le_of_ble_eq_true rfl), (Nat.le_of_ble_eq_true rfl)⟩) 4 0 rfl rfl rfl rfl hl.1 rfl (Nat.le_of_ble_eq_true rfl) dL_law_398 ⟨(Nat.le_of_ble_eq_true rfl), (Nat.le_of_ble_eq_true rfl)⟩) (fun _ => rfl) (fun r_398 u_398 H locs hw_398 hP hD hS => ?_)
  have hP : va_P D vwCl (wX cA x a dy co ti ro u 4 B ch v 2 G w T a2 dy2 co2 ti2 ro2 u2 n2 B2 ch2 v2 nb2 G2 w2 T2) H := hP
  have hD : va_D A (wX cA x a dy co ti ro u 4 B ch v 2 G w T a2 dy2 co2 ti2 ro2 u2 n2 B2 ch2 v2 nb2 G2 w2 T2) := hD
  obtain rfl : r_398 = tellB B 2 2 := hw_398
  refine lv_bipush (v := 9) hx hb dL_law_401 (by decide) ?_
  refine lv_icmp_gt (tgt := 467) hx hb dL_law_403 (by decide) (fun c_403_3 => False.elim (by exact (hG.1.1 2 (by decide)).a2 c_403_3)) (fun c_403_3 => ?_)
  refine lv_aload_n hx hb dL_law_406 rfl (lv_at hl 2 rfl) ?_
  refine lv_iload hx hb dL_law_407 (lv_at hl 0 rfl) ?_
  refine lv_iconst (v := 3) hx hb dL_law_409 (by decide) ?_
  refine goI ([]) ([]) hP hD hS hA (rnV (rest := []) (c_about sa tb D cA cL l x a dy co ti ro u 4 B ch v 2 G w T a2 dy2 co2 ti2 ro2 u2 n2 B2 ch2 v2 nb2 G2 w2 T2 2 3 (show 2 < 4 from by first | omega | assumption | decide) (show 4 ≤ 8 from by first | omega | assumption | decide) (show 3 < 10 from by first | omega | assumption | decide)) ([]) ([]) hP hD hS hA hE ⟨hx, hb, hml, hown, hts⟩ (cwV 2 hts gL_law_X4_about rfl rfl rfl (by decide +kernel) ⟨(Nat.le_of_ble_eq_true rfl), (Nat.le_of_ble_eq_true rfl)⟩) 4 0 rfl rfl rfl rfl hl.1 rfl (Nat.le_of_ble_eq_true rfl) dL_law_410 ⟨(Nat.le_of_ble_eq_true rfl), (Nat.le_of_ble_eq_true rfl)⟩) (fun _ => rfl) (fun r_410 u_410 H locs hw_410 hP hD hS => ?_)
  have hP : va_P D vwCl (wX cA x a dy co ti ro u 4 B ch v 2 G w T a2 dy2 co2 ti2 ro2 u2 n2 B2 ch2 v2 nb2 G2 w2 T2) H := hP
  have hD : va_D A (wX cA x a dy co ti ro u 4 B ch v 2 G w T a2 dy2 co2 ti2 ro2 u2 n2 B2 ch2 v2 nb2 G2 w2 T2) := hD
  obtain rfl : r_410 = tellB B 2 3 := hw_410
  refine lv_if_lt (tgt := 467) hx hb dL_law_413 (by decide) (fun c_413_3 => False.elim (by exact (hG.1.1 2 (by decide)).a3 c_413_3)) (fun c_413_3 => ?_)
  refine lv_aload_n hx hb dL_law_416 rfl (lv_at hl 2 rfl) ?_
  refine lv_iload hx hb dL_law_417 (lv_at hl 0 rfl) ?_
  refine lv_iconst (v := 3) hx hb dL_law_419 (by decide) ?_
  refine goI ([]) ([]) hP hD hS hA (rnV (rest := []) (c_about sa tb D cA cL l x a dy co ti ro u 4 B ch v 2 G w T a2 dy2 co2 ti2 ro2 u2 n2 B2 ch2 v2 nb2 G2 w2 T2 2 3 (show 2 < 4 from by first | omega | assumption | decide) (show 4 ≤ 8 from by first | omega | assumption | decide) (show 3 < 10 from by first | omega | assumption | decide)) ([]) ([]) hP hD hS hA hE ⟨hx, hb, hml, hown, hts⟩ (cwV 2 hts gL_law_X4_about rfl rfl rfl (by decide +kernel) ⟨(Nat.le_of_ble_eq_true rfl), (Nat.le_of_ble_eq_true rfl)⟩) 4 0 rfl rfl rfl rfl hl.1 rfl (Nat.le_of_ble_eq_true rfl) dL_law_420 ⟨(Nat.le_of_ble_eq_true rfl), (Nat.le_of_ble_eq_true rfl)⟩) (fun _ => rfl) (fun r_420 u_420 H locs hw_420 hP hD hS => ?_)
  have hP : va_P D vwCl (wX cA x a dy co ti ro u 4 B ch v 2 G w T a2 dy2 co2 ti2 ro2 u2 n2 B2 ch2 v2 nb2 G2 w2 T2) H := hP
  have hD : va_D A (wX cA x a dy co ti ro u 4 B ch v 2 G w T a2 dy2 co2 ti2 ro2 u2 n2 B2 ch2 v2 nb2 G2 w2 T2) := hD
  obtain rfl : r_420 = tellB B 2 3 := hw_420
  refine lv_bipush (v := 100) hx hb dL_law_423 (by decide) ?_
  refine lv_icmp_gt (tgt := 467) hx hb dL_law_425 (by decide) (fun c_425_3 => False.elim (by exact (hG.1.1 2 (by decide)).a100 c_425_3)) (fun c_425_3 => ?_)
  refine lv_aload_n hx hb dL_law_428 rfl (lv_at hl 2 rfl) ?_
  refine lv_iload hx hb dL_law_429 (lv_at hl 0 rfl) ?_
  refine lv_iconst (v := 5) hx hb dL_law_431 (by decide) ?_
  refine goI ([]) ([]) hP hD hS hA (rnV (rest := []) (c_about sa tb D cA cL l x a dy co ti ro u 4 B ch v 2 G w T a2 dy2 co2 ti2 ro2 u2 n2 B2 ch2 v2 nb2 G2 w2 T2 2 5 (show 2 < 4 from by first | omega | assumption | decide) (show 4 ≤ 8 from by first | omega | assumption | decide) (show 5 < 10 from by first | omega | assumption | decide)) ([]) ([]) hP hD hS hA hE ⟨hx, hb, hml, hown, hts⟩ (cwV 2 hts gL_law_X4_about rfl rfl rfl (by decide +kernel) ⟨(Nat.le_of_ble_eq_true rfl), (Nat.le_of_ble_eq_true rfl)⟩) 4 0 rfl rfl rfl rfl hl.1 rfl (Nat.le_of_ble_eq_true rfl) dL_law_432 ⟨(Nat.le_of_ble_eq_true rfl), (Nat.le_of_ble_eq_true rfl)⟩) (fun _ => rfl) (fun r_432 u_432 H locs hw_432 hP hD hS => ?_)
  have hP : va_P D vwCl (wX cA x a dy co ti ro u 4 B ch v 2 G w T a2 dy2 co2 ti2 ro2 u2 n2 B2 ch2 v2 nb2 G2 w2 T2) H := hP
  have hD : va_D A (wX cA x a dy co ti ro u 4 B ch v 2 G w T a2 dy2 co2 ti2 ro2 u2 n2 B2 ch2 v2 nb2 G2 w2 T2) := hD
  obtain rfl : r_432 = tellB B 2 5 := hw_432
  refine lv_aload_n hx hb dL_law_435 rfl (lv_at hl 2 rfl) ?_
  refine lv_iload hx hb dL_law_436 (lv_at hl 0 rfl) ?_
  refine lv_iconst (v := 4) hx hb dL_law_438 (by decide) ?_
  refine goI ([]) ([]) hP hD hS hA (rnV (rest := [.int (tellB B 2 5)]) (c_about sa tb D cA cL l x a dy co ti ro u 4 B ch v 2 G w T a2 dy2 co2 ti2 ro2 u2 n2 B2 ch2 v2 nb2 G2 w2 T2 2 4 (show 2 < 4 from by first | omega | assumption | decide) (show 4 ≤ 8 from by first | omega | assumption | decide) (show 4 < 10 from by first | omega | assumption | decide)) ([]) ([]) hP hD hS hA hE ⟨hx, hb, hml, hown, hts⟩ (cwV 2 hts gL_law_X4_about rfl rfl rfl (by decide +kernel) ⟨(Nat.le_of_ble_eq_true rfl), (Nat.le_of_ble_eq_true rfl)⟩) 4 0 rfl rfl rfl rfl hl.1 rfl (Nat.le_of_ble_eq_true rfl) dL_law_439 ⟨(Nat.le_of_ble_eq_true rfl), (Nat.le_of_ble_eq_true rfl)⟩) (fun _ => rfl) (fun r_439 u_439 H locs hw_439 hP hD hS => ?_)
  have hP : va_P D vwCl (wX cA x a dy co ti ro u 4 B ch v 2 G w T a2 dy2 co2 ti2 ro2 u2 n2 B2 ch2 v2 nb2 G2 w2 T2) H := hP
  have hD : va_D A (wX cA x a dy co ti ro u 4 B ch v 2 G w T a2 dy2 co2 ti2 ro2 u2 n2 B2 ch2 v2 nb2 G2 w2 T2) := hD
  obtain rfl : r_439 = tellB B 2 4 := hw_439
  refine lv_icmp_gt (tgt := 467) hx hb dL_law_442 (by decide) (fun c_442_3 => False.elim (by exact (hG.1.1 2 (by decide)).a5 c_442_3)) (fun c_442_3 => ?_)
  refine lv_aload_n hx hb dL_law_445 rfl (lv_at hl 2 rfl) ?_
  refine lv_iload hx hb dL_law_446 (lv_at hl 0 rfl) ?_
  refine lv_bipush (v := 6) hx hb dL_law_448 (by decide) ?_
  refine goI ([]) ([]) hP hD hS hA (rnV (rest := []) (c_about sa tb D cA cL l x a dy co ti ro u 4 B ch v 2 G w T a2 dy2 co2 ti2 ro2 u2 n2 B2 ch2 v2 nb2 G2 w2 T2 2 6 (show 2 < 4 from by first | omega | assumption | decide) (show 4 ≤ 8 from by first | omega | assumption | decide) (show 6 < 10 from by first | omega | assumption | decide)) ([]) ([]) hP hD hS hA hE ⟨hx, hb, hml, hown, hts⟩ (cwV 2 hts gL_law_X4_about rfl rfl rfl (by decide +kernel) ⟨(Nat.le_of_ble_eq_true rfl), (Nat.le_of_ble_eq_true rfl)⟩) 4 0 rfl rfl rfl rfl hl.1 rfl (Nat.le_of_ble_eq_true rfl) dL_law_450 ⟨(Nat.le_of_ble_eq_true rfl), (Nat.le_of_ble_eq_true rfl)⟩) (fun _ => rfl) (fun r_450 u_450 H locs hw_450 hP hD hS => ?_)
  have hP : va_P D vwCl (wX cA x a dy co ti ro u 4 B ch v 2 G w T a2 dy2 co2 ti2 ro2 u2 n2 B2 ch2 v2 nb2 G2 w2 T2) H := hP
  have hD : va_D A (wX cA x a dy co ti ro u 4 B ch v 2 G w T a2 dy2 co2 ti2 ro2 u2 n2 B2 ch2 v2 nb2 G2 w2 T2) := hD
  obtain rfl : r_450 = tellB B 2 6 := hw_450
  refine lv_if_lt (tgt := 467) hx hb dL_law_453 (by decide) (fun c_453_3 => False.elim (by exact (hG.1.1 2 (by decide)).a6 c_453_3)) (fun c_453_3 => ?_)
  refine lv_aload_n hx hb dL_law_456 rfl (lv_at hl 2 rfl) ?_
  refine lv_iload hx hb dL_law_457 (lv_at hl 0 rfl) ?_
  refine lv_bipush (v := 7) hx hb dL_law_459 (by decide) ?_
  refine goI ([]) ([]) hP hD hS hA (rnV (rest := []) (c_about sa tb D cA cL l x a dy co ti ro u 4 B ch v 2 G w T a2 dy2 co2 ti2 ro2 u2 n2 B2 ch2 v2 nb2 G2 w2 T2 2 7 (show 2 < 4 from by first | omega | assumption | decide) (show 4 ≤ 8 from by first | omega | assumption | decide) (show 7 < 10 from by first | omega | assumption | decide)) ([]) ([]) hP hD hS hA hE ⟨hx, hb, hml, hown, hts⟩ (cwV 2 hts gL_law_X4_about rfl rfl rfl (by decide +kernel) ⟨(Nat.le_of_ble_eq_true rfl), (Nat.le_of_ble_eq_true rfl)⟩) 4 0 rfl rfl rfl rfl hl.1 rfl (Nat.le_of_ble_eq_true rfl) dL_law_461 ⟨(Nat.le_of_ble_eq_true rfl), (Nat.le_of_ble_eq_true rfl)⟩) (fun _ => rfl) (fun r_461 u_461 H locs hw_461 hP hD hS => ?_)
  have hP : va_P D vwCl (wX cA x a dy co ti ro u 4 B ch v 2 G w T a2 dy2 co2 ti2 ro2 u2 n2 B2 ch2 v2 nb2 G2 w2 T2) H := hP
  have hD : va_D A (wX cA x a dy co ti ro u 4 B ch v 2 G w T a2 dy2 co2 ti2 ro2 u2 n2 B2 ch2 v2 nb2 G2 w2 T2) := hD
  obtain rfl : r_461 = tellB B 2 7 := hw_461
  refine lv_if_ge (tgt := 469) hx hb dL_law_464 (by decide) (fun c_464_3 => ?_) (fun c_464_3 => False.elim (by exact c_464_3 (hG.1.1 2 (by decide)).a7))
  refine lv_iinc (v := 3) (lv' := [(13, .int 3), (0, .ref sa.1), (1, .ref x), (2, .int cu), (3, .int ti), (4, .int (nI i))]) (k := 0) hx hb dL_law_469 hl rfl (by decide) (by decide) rfl (fun ls hl => ?_)
  refine lv_goto (tgt := 388) hx hb dL_law_472 (by decide) ?_
  refine lv_iload hx hb dL_law_388 (lv_at hl 0 rfl) ?_
  refine lv_iconst (v := 4) hx hb dL_law_390 (by decide) ?_
  refine lv_icmp_ge (tgt := 475) hx hb dL_law_391 (by decide) (fun q => absurd q (by decide)) (fun _ => ?_)
  refine lv_aload_n hx hb dL_law_394 rfl (lv_at hl 2 rfl) ?_
  refine lv_iload hx hb dL_law_395 (lv_at hl 0 rfl) ?_
  refine lv_iconst (v := 2) hx hb dL_law_397 (by decide) ?_
  refine goI ([]) ([]) hP hD hS hA (rnV (rest := []) (c_about sa tb D cA cL l x a dy co ti ro u 4 B ch v 2 G w T a2 dy2 co2 ti2 ro2 u2 n2 B2 ch2 v2 nb2 G2 w2 T2 3 2 (show 3 < 4 from by first | omega | assumption | decide) (show 4 ≤ 8 from by first | omega | assumption | decide) (show 2 < 10 from by first | omega | assumption | decide)) ([]) ([]) hP hD hS hA hE ⟨hx, hb, hml, hown, hts⟩ (cwV 2 hts gL_law_X4_about rfl rfl rfl (by decide +kernel) ⟨(Nat.le_of_ble_eq_true rfl), (Nat.le_of_ble_eq_true rfl)⟩) 4 0 rfl rfl rfl rfl hl.1 rfl (Nat.le_of_ble_eq_true rfl) dL_law_398 ⟨(Nat.le_of_ble_eq_true rfl), (Nat.le_of_ble_eq_true rfl)⟩) (fun _ => rfl) (fun r_398 u_398 H locs hw_398 hP hD hS => ?_)
  have hP : va_P D vwCl (wX cA x a dy co ti ro u 4 B ch v 2 G w T a2 dy2 co2 ti2 ro2 u2 n2 B2 ch2 v2 nb2 G2 w2 T2) H := hP
  have hD : va_D A (wX cA x a dy co ti ro u 4 B ch v 2 G w T a2 dy2 co2 ti2 ro2 u2 n2 B2 ch2 v2 nb2 G2 w2 T2) := hD
  obtain rfl : r_398 = tellB B 3 2 := hw_398
  refine lv_bipush (v := 9) hx hb dL_law_401 (by decide) ?_
  refine lv_icmp_gt (tgt := 467) hx hb dL_law_403 (by decide) (fun c_403_4 => False.elim (by exact (hG.1.1 3 (by decide)).a2 c_403_4)) (fun c_403_4 => ?_)
  refine lv_aload_n hx hb dL_law_406 rfl (lv_at hl 2 rfl) ?_
  refine lv_iload hx hb dL_law_407 (lv_at hl 0 rfl) ?_
  refine lv_iconst (v := 3) hx hb dL_law_409 (by decide) ?_
  refine goI ([]) ([]) hP hD hS hA (rnV (rest := []) (c_about sa tb D cA cL l x a dy co ti ro u 4 B ch v 2 G w T a2 dy2 co2 ti2 ro2 u2 n2 B2 ch2 v2 nb2 G2 w2 T2 3 3 (show 3 < 4 from by first | omega | assumption | decide) (show 4 ≤ 8 from by first | omega | assumption | decide) (show 3 < 10 from by first | omega | assumption | decide)) ([]) ([]) hP hD hS hA hE ⟨hx, hb, hml, hown, hts⟩ (cwV 2 hts gL_law_X4_about rfl rfl rfl (by decide +kernel) ⟨(Nat.le_of_ble_eq_true rfl), (Nat.le_of_ble_eq_true rfl)⟩) 4 0 rfl rfl rfl rfl hl.1 rfl (Nat.le_of_ble_eq_true rfl) dL_law_410 ⟨(Nat.le_of_ble_eq_true rfl), (Nat.le_of_ble_eq_true rfl)⟩) (fun _ => rfl) (fun r_410 u_410 H locs hw_410 hP hD hS => ?_)
  have hP : va_P D vwCl (wX cA x a dy co ti ro u 4 B ch v 2 G w T a2 dy2 co2 ti2 ro2 u2 n2 B2 ch2 v2 nb2 G2 w2 T2) H := hP
  have hD : va_D A (wX cA x a dy co ti ro u 4 B ch v 2 G w T a2 dy2 co2 ti2 ro2 u2 n2 B2 ch2 v2 nb2 G2 w2 T2) := hD
  obtain rfl : r_410 = tellB B 3 3 := hw_410
  refine lv_if_lt (tgt := 467) hx hb dL_law_413 (by decide) (fun c_413_4 => False.elim (by exact (hG.1.1 3 (by decide)).a3 c_413_4)) (fun c_413_4 => ?_)
  refine lv_aload_n hx hb dL_law_416 rfl (lv_at hl 2 rfl) ?_
  refine lv_iload hx hb dL_law_417 (lv_at hl 0 rfl) ?_
  refine lv_iconst (v := 3) hx hb dL_law_419 (by decide) ?_
  refine goI ([]) ([]) hP hD hS hA (rnV (rest := []) (c_about sa tb D cA cL l x a dy co ti ro u 4 B ch v 2 G w T a2 dy2 co2 ti2 ro2 u2 n2 B2 ch2 v2 nb2 G2 w2 T2 3 3 (show 3 < 4 from by first | omega | assumption | decide) (show 4 ≤ 8 from by first | omega | assumption | decide) (show 3 < 10 from by first | omega | assumption | decide)) ([]) ([]) hP hD hS hA hE ⟨hx, hb, hml, hown, hts⟩ (cwV 2 hts gL_law_X4_about rfl rfl rfl (by decide +kernel) ⟨(Nat.le_of_ble_eq_true rfl), (Nat.le_of_ble_eq_true rfl)⟩) 4 0 rfl rfl rfl rfl hl.1 rfl (Nat.le_of_ble_eq_true rfl) dL_law_420 ⟨(Nat.le_of_ble_eq_true rfl), (Nat.le_of_ble_eq_true rfl)⟩) (fun _ => rfl) (fun r_420 u_420 H locs hw_420 hP hD hS => ?_)
  have hP : va_P D vwCl (wX cA x a dy co ti ro u 4 B ch v 2 G w T a2 dy2 co2 ti2 ro2 u2 n2 B2 ch2 v2 nb2 G2 w2 T2) H := hP
  have hD : va_D A (wX cA x a dy co ti ro u 4 B ch v 2 G w T a2 dy2 co2 ti2 ro2 u2 n2 B2 ch2 v2 nb2 G2 w2 T2) := hD
  obtain rfl : r_420 = tellB B 3 3 := hw_420
  refine lv_bipush (v := 100) hx hb dL_law_423 (by decide) ?_
  refine lv_icmp_gt (tgt := 467) hx hb dL_law_425 (by decide) (fun c_425_4 => False.elim (by exact (hG.1.1 3 (by decide)).a100 c_425_4)) (fun c_425_4 => ?_)
  refine lv_aload_n hx hb dL_law_428 rfl (lv_at hl 2 rfl) ?_
  refine lv_iload hx hb dL_law_429 (lv_at hl 0 rfl) ?_
  refine lv_iconst (v := 5) hx hb dL_law_431 (by decide) ?_
  refine goI ([]) ([]) hP hD hS hA (rnV (rest := []) (c_about sa tb D cA cL l x a dy co ti ro u 4 B ch v 2 G w T a2 dy2 co2 ti2 ro2 u2 n2 B2 ch2 v2 nb2 G2 w2 T2 3 5 (show 3 < 4 from by first | omega | assumption | decide) (show 4 ≤ 8 from by first | omega | assumption | decide) (show 5 < 10 from by first | omega | assumption | decide)) ([]) ([]) hP hD hS hA hE ⟨hx, hb, hml, hown, hts⟩ (cwV 2 hts gL_law_X4_about rfl rfl rfl (by decide +kernel) ⟨(Nat.le_of_ble_eq_true rfl), (Nat.le_of_ble_eq_true rfl)⟩) 4 0 rfl rfl rfl rfl hl.1 rfl (Nat.le_of_ble_eq_true rfl) dL_law_432 ⟨(Nat.le_of_ble_eq_true rfl), (Nat.le_of_ble_eq_true rfl)⟩) (fun _ => rfl) (fun r_432 u_432 H locs hw_432 hP hD hS => ?_)
  have hP : va_P D vwCl (wX cA x a dy co ti ro u 4 B ch v 2 G w T a2 dy2 co2 ti2 ro2 u2 n2 B2 ch2 v2 nb2 G2 w2 T2) H := hP
  have hD : va_D A (wX cA x a dy co ti ro u 4 B ch v 2 G w T a2 dy2 co2 ti2 ro2 u2 n2 B2 ch2 v2 nb2 G2 w2 T2) := hD
  obtain rfl : r_432 = tellB B 3 5 := hw_432
  refine lv_aload_n hx hb dL_law_435 rfl (lv_at hl 2 rfl) ?_
  refine lv_iload hx hb dL_law_436 (lv_at hl 0 rfl) ?_
  refine lv_iconst (v := 4) hx hb dL_law_438 (by decide) ?_
  refine goI ([]) ([]) hP hD hS hA (rnV (rest := [.int (tellB B 3 5)]) (c_about sa tb D cA cL l x a dy co ti ro u 4 B ch v 2 G w T a2 dy2 co2 ti2 ro2 u2 n2 B2 ch2 v2 nb2 G2 w2 T2 3 4 (show 3 < 4 from by first | omega | assumption | decide) (show 4 ≤ 8 from by first | omega | assumption | decide) (show 4 < 10 from by first | omega | assumption | decide)) ([]) ([]) hP hD hS hA hE ⟨hx, hb, hml, hown, hts⟩ (cwV 2 hts gL_law_X4_about rfl rfl rfl (by decide +kernel) ⟨(Nat.le_of_ble_eq_true rfl), (Nat.le_of_ble_eq_true rfl)⟩) 4 0 rfl rfl rfl rfl hl.1 rfl (Nat.le_of_ble_eq_true rfl) dL_law_439 ⟨(Nat.le_of_ble_eq_true rfl), (Nat.le_of_ble_eq_true rfl)⟩) (fun _ => rfl) (fun r_439 u_439 H locs hw_439 hP hD hS => ?_)
  have hP : va_P D vwCl (wX cA x a dy co ti ro u 4 B ch v 2 G w T a2 dy2 co2 ti2 ro2 u2 n2 B2 ch2 v2 nb2 G2 w2 T2) H := hP
  have hD : va_D A (wX cA x a dy co ti ro u 4 B ch v 2 G w T a2 dy2 co2 ti2 ro2 u2 n2 B2 ch2 v2 nb2 G2 w2 T2) := hD
  obtain rfl : r_439 = tellB B 3 4 := hw_439
  refine lv_icmp_gt (tgt := 467) hx hb dL_law_442 (by decide) (fun c_442_4 => False.elim (by exact (hG.1.1 3 (by decide)).a5 c_442_4)) (fun c_442_4 => ?_)
  refine lv_aload_n hx hb dL_law_445 rfl (lv_at hl 2 rfl) ?_
  refine lv_iload hx hb dL_law_446 (lv_at hl 0 rfl) ?_
  refine lv_bipush (v := 6) hx hb dL_law_448 (by decide) ?_
  refine goI ([]) ([]) hP hD hS hA (rnV (rest := []) (c_about sa tb D cA cL l x a dy co ti ro u 4 B ch v 2 G w T a2 dy2 co2 ti2 ro2 u2 n2 B2 ch2 v2 nb2 G2 w2 T2 3 6 (show 3 < 4 from by first | omega | assumption | decide) (show 4 ≤ 8 from by first | omega | assumption | decide) (show 6 < 10 from by first | omega | assumption | decide)) ([]) ([]) hP hD hS hA hE ⟨hx, hb, hml, hown, hts⟩ (cwV 2 hts gL_law_X4_about rfl rfl rfl (by decide +kernel) ⟨(Nat.le_of_ble_eq_true rfl), (Nat.le_of_ble_eq_true rfl)⟩) 4 0 rfl rfl rfl rfl hl.1 rfl (Nat.le_of_ble_eq_true rfl) dL_law_450 ⟨(Nat.le_of_ble_eq_true rfl), (Nat.le_of_ble_eq_true rfl)⟩) (fun _ => rfl) (fun r_450 u_450 H locs hw_450 hP hD hS => ?_)
  have hP : va_P D vwCl (wX cA x a dy co ti ro u 4 B ch v 2 G w T a2 dy2 co2 ti2 ro2 u2 n2 B2 ch2 v2 nb2 G2 w2 T2) H := hP
  have hD : va_D A (wX cA x a dy co ti ro u 4 B ch v 2 G w T a2 dy2 co2 ti2 ro2 u2 n2 B2 ch2 v2 nb2 G2 w2 T2) := hD
  obtain rfl : r_450 = tellB B 3 6 := hw_450
  refine lv_if_lt (tgt := 467) hx hb dL_law_453 (by decide) (fun c_453_4 => False.elim (by exact (hG.1.1 3 (by decide)).a6 c_453_4)) (fun c_453_4 => ?_)
  refine lv_aload_n hx hb dL_law_456 rfl (lv_at hl 2 rfl) ?_
  refine lv_iload hx hb dL_law_457 (lv_at hl 0 rfl) ?_
  refine lv_bipush (v := 7) hx hb dL_law_459 (by decide) ?_
  refine goI ([]) ([]) hP hD hS hA (rnV (rest := []) (c_about sa tb D cA cL l x a dy co ti ro u 4 B ch v 2 G w T a2 dy2 co2 ti2 ro2 u2 n2 B2 ch2 v2 nb2 G2 w2 T2 3 7 (show 3 < 4 from by first | omega | assumption | decide) (show 4 ≤ 8 from by first | omega | assumption | decide) (show 7 < 10 from by first | omega | assumption | decide)) ([]) ([]) hP hD hS hA hE ⟨hx, hb, hml, hown, hts⟩ (cwV 2 hts gL_law_X4_about rfl rfl rfl (by decide +kernel) ⟨(Nat.le_of_ble_eq_true rfl), (Nat.le_of_ble_eq_true rfl)⟩) 4 0 rfl rfl rfl rfl hl.1 rfl (Nat.le_of_ble_eq_true rfl) dL_law_461 ⟨(Nat.le_of_ble_eq_true rfl), (Nat.le_of_ble_eq_true rfl)⟩) (fun _ => rfl) (fun r_461 u_461 H locs hw_461 hP hD hS => ?_)
  have hP : va_P D vwCl (wX cA x a dy co ti ro u 4 B ch v 2 G w T a2 dy2 co2 ti2 ro2 u2 n2 B2 ch2 v2 nb2 G2 w2 T2) H := hP
  have hD : va_D A (wX cA x a dy co ti ro u 4 B ch v 2 G w T a2 dy2 co2 ti2 ro2 u2 n2 B2 ch2 v2 nb2 G2 w2 T2) := hD
  obtain rfl : r_461 = tellB B 3 7 := hw_461
  refine lv_if_ge (tgt := 469) hx hb dL_law_464 (by decide) (fun c_464_4 => ?_) (fun c_464_4 => False.elim (by exact c_464_4 (hG.1.1 3 (by decide)).a7))
  refine lv_iinc (v := 4) (lv' := [(13, .int 4), (0, .ref sa.1), (1, .ref x), (2, .int cu), (3, .int ti), (4, .int (nI i))]) (k := 0) hx hb dL_law_469 hl rfl (by decide) (by decide) rfl (fun ls hl => ?_)
  refine lv_goto (tgt := 388) hx hb dL_law_472 (by decide) ?_
  refine lv_iload hx hb dL_law_388 (lv_at hl 0 rfl) ?_
  refine lv_iconst (v := 4) hx hb dL_law_390 (by decide) ?_
  refine lv_icmp_ge (tgt := 475) hx hb dL_law_391 (by decide) (fun _ => ?_) (fun q => absurd (by decide) q)
  exact K _ H locs ls ⟨_, _, _, _, _, _, _, _, _, _, _, _, _, _, _, _, _, _, _, rfl⟩ hP hD hS (lv_sub hl [1, 2, 3, 4, 5] rfl)
set_option maxRecDepth 100000 in
set_option maxHeartbeats 4000000 in
theorem J_chkC {p : Program} {l : Launch} {e : Env} {s : State} {m : MethodId} {below : List Frame} {meth : Method} {c : Code} {Q : State → Prop} {sa : Nat × Nat × (Nat → Int32)} {tb : Nat → Nat} {D : va_G} {cA cL : ClassId} {A : Nat → Prop} {x i : Nat} {cu dy co ti ro : Int32} {B G : Nat → Nat → Int32} {T : Nat → Int32}  (C : LawC p s m c sa tb D cA cL A) (hi : i < 16) (hG : GS (i + 1) cu co ti ro B G T) (K : KT p l e s m below meth c Q sa D cA A x 530 (lvT sa x cu ti i) dy co ti ro B G T) : KT p l e s m below meth c Q sa D cA A x 475 (lvT sa x cu ti i) dy co ti ro B G T := by
  obtain ⟨hx, hb, hml, hown, hts, hA, hE⟩ := id C
  intro Wd H locs ls hW hP hD hS hl
  obtain ⟨a, u, ch, v, w, a2, dy2, co2, ti2, ro2, u2, n2, B2, ch2, v2, nb2, G2, w2, T2, rfl⟩ := hW
  have hl : lv_has ls 14 [(0, .ref sa.1), (1, .ref x), (2, .int cu), (3, .int ti), (4, .int (nI i))] := hl
  refine lv_iconst (v := 0) hx hb dL_law_475 (by decide) ?_
  refine lv_istore (lv' := [(13, .int 0), (0, .ref sa.1), (1, .ref x), (2, .int cu), (3, .int ti), (4, .int (nI i))]) hx hb dL_law_476 hl (by decide) rfl (fun ls hl => ?_)
  refine lv_iload hx hb dL_law_478 (lv_at hl 0 rfl) ?_
  refine lv_iconst (v := 2) hx hb dL_law_480 (by decide) ?_
  refine lv_icmp_ge (tgt := 530) hx hb dL_law_481 (by decide) (fun q => absurd q (by decide)) (fun _ => ?_)
  refine lv_aload_n hx hb dL_law_484 rfl (lv_at hl 2 rfl) ?_
  refine lv_iload hx hb dL_law_485 (lv_at hl 0 rfl) ?_
  refine lv_iconst (v := 2) hx hb dL_law_487 (by decide) ?_
  refine goI ([]) ([]) hP hD hS hA (rnV (rest := []) (c_told sa tb D cA cL l x a dy co ti ro u 4 B ch v 2 G w T a2 dy2 co2 ti2 ro2 u2 n2 B2 ch2 v2 nb2 G2 w2 T2 0 2 (show 0 < 2 from by first | omega | assumption | decide) (show 2 ≤ 3 from by first | omega | assumption | decide) (show 2 < 6 from by first | omega | assumption | decide)) ([]) ([]) hP hD hS hA hE ⟨hx, hb, hml, hown, hts⟩ (cwV 2 hts gL_law_X4_told rfl rfl rfl (by decide +kernel) ⟨(Nat.le_of_ble_eq_true rfl), (Nat.le_of_ble_eq_true rfl)⟩) 4 0 rfl rfl rfl rfl hl.1 rfl (Nat.le_of_ble_eq_true rfl) dL_law_488 ⟨(Nat.le_of_ble_eq_true rfl), (Nat.le_of_ble_eq_true rfl)⟩) (fun _ => rfl) (fun r_488 u_488 H locs hw_488 hP hD hS => ?_)
  have hP : va_P D vwCl (wX cA x a dy co ti ro u 4 B ch v 2 G w T a2 dy2 co2 ti2 ro2 u2 n2 B2 ch2 v2 nb2 G2 w2 T2) H := hP
  have hD : va_D A (wX cA x a dy co ti ro u 4 B ch v 2 G w T a2 dy2 co2 ti2 ro2 u2 n2 B2 ch2 v2 nb2 G2 w2 T2) := hD
  obtain rfl : r_488 = tellG G 0 2 := hw_488
  refine lv_aload_n hx hb dL_law_491 rfl (lv_at hl 2 rfl) ?_
  refine lv_iload hx hb dL_law_492 (lv_at hl 0 rfl) ?_
  refine lv_iconst (v := 3) hx hb dL_law_494 (by decide) ?_
  refine goI ([]) ([]) hP hD hS hA (rnV (rest := [.int (tellG G 0 2)]) (c_told sa tb D cA cL l x a dy co ti ro u 4 B ch v 2 G w T a2 dy2 co2 ti2 ro2 u2 n2 B2 ch2 v2 nb2 G2 w2 T2 0 3 (show 0 < 2 from by first | omega | assumption | decide) (show 2 ≤ 3 from by first | omega | assumption | decide) (show 3 < 6 from by first | omega | assumption | decide)) ([]) ([]) hP hD hS hA hE ⟨hx, hb, hml, hown, hts⟩ (cwV 2 hts gL_law_X4_told rfl rfl rfl (by decide +kernel) ⟨(Nat.le_of_ble_eq_true rfl), (Nat.le_of_ble_eq_true rfl)⟩) 4 0 rfl rfl rfl rfl hl.1 rfl (Nat.le_of_ble_eq_true rfl) dL_law_495 ⟨(Nat.le_of_ble_eq_true rfl), (Nat.le_of_ble_eq_true rfl)⟩) (fun _ => rfl) (fun r_495 u_495 H locs hw_495 hP hD hS => ?_)
  have hP : va_P D vwCl (wX cA x a dy co ti ro u 4 B ch v 2 G w T a2 dy2 co2 ti2 ro2 u2 n2 B2 ch2 v2 nb2 G2 w2 T2) H := hP
  have hD : va_D A (wX cA x a dy co ti ro u 4 B ch v 2 G w T a2 dy2 co2 ti2 ro2 u2 n2 B2 ch2 v2 nb2 G2 w2 T2) := hD
  obtain rfl : r_495 = tellG G 0 3 := hw_495
  refine lv_iadd hx hb dL_law_498 ?_
  refine lv_sipush (v := 150) hx hb dL_law_499 (by decide) ?_
  refine lv_icmp_gt (tgt := 522) hx hb dL_law_502 (by decide) (fun c_502 => False.elim (by exact (hG.1.2.1 0 (by decide)).a150 c_502)) (fun c_502 => ?_)
  refine lv_aload_n hx hb dL_law_505 rfl (lv_at hl 2 rfl) ?_
  refine lv_iload hx hb dL_law_506 (lv_at hl 0 rfl) ?_
  refine lv_iconst (v := 1) hx hb dL_law_508 (by decide) ?_
  refine goI ([]) ([]) hP hD hS hA (rnV (rest := []) (c_told sa tb D cA cL l x a dy co ti ro u 4 B ch v 2 G w T a2 dy2 co2 ti2 ro2 u2 n2 B2 ch2 v2 nb2 G2 w2 T2 0 1 (show 0 < 2 from by first | omega | assumption | decide) (show 2 ≤ 3 from by first | omega | assumption | decide) (show 1 < 6 from by first | omega | assumption | decide)) ([]) ([]) hP hD hS hA hE ⟨hx, hb, hml, hown, hts⟩ (cwV 2 hts gL_law_X4_told rfl rfl rfl (by decide +kernel) ⟨(Nat.le_of_ble_eq_true rfl), (Nat.le_of_ble_eq_true rfl)⟩) 4 0 rfl rfl rfl rfl hl.1 rfl (Nat.le_of_ble_eq_true rfl) dL_law_509 ⟨(Nat.le_of_ble_eq_true rfl), (Nat.le_of_ble_eq_true rfl)⟩) (fun _ => rfl) (fun r_509 u_509 H locs hw_509 hP hD hS => ?_)
  have hP : va_P D vwCl (wX cA x a dy co ti ro u 4 B ch v 2 G w T a2 dy2 co2 ti2 ro2 u2 n2 B2 ch2 v2 nb2 G2 w2 T2) H := hP
  have hD : va_D A (wX cA x a dy co ti ro u 4 B ch v 2 G w T a2 dy2 co2 ti2 ro2 u2 n2 B2 ch2 v2 nb2 G2 w2 T2) := hD
  obtain rfl : r_509 = tellG G 0 1 := hw_509
  refine lv_aload_n hx hb dL_law_512 rfl (lv_at hl 2 rfl) ?_
  refine lv_iload hx hb dL_law_513 (lv_at hl 0 rfl) ?_
  refine lv_iconst (v := 0) hx hb dL_law_515 (by decide) ?_
  refine goI ([]) ([]) hP hD hS hA (rnV (rest := [.int (tellG G 0 1)]) (c_told sa tb D cA cL l x a dy co ti ro u 4 B ch v 2 G w T a2 dy2 co2 ti2 ro2 u2 n2 B2 ch2 v2 nb2 G2 w2 T2 0 0 (show 0 < 2 from by first | omega | assumption | decide) (show 2 ≤ 3 from by first | omega | assumption | decide) (show 0 < 6 from by first | omega | assumption | decide)) ([]) ([]) hP hD hS hA hE ⟨hx, hb, hml, hown, hts⟩ (cwV 2 hts gL_law_X4_told rfl rfl rfl (by decide +kernel) ⟨(Nat.le_of_ble_eq_true rfl), (Nat.le_of_ble_eq_true rfl)⟩) 4 0 rfl rfl rfl rfl hl.1 rfl (Nat.le_of_ble_eq_true rfl) dL_law_516 ⟨(Nat.le_of_ble_eq_true rfl), (Nat.le_of_ble_eq_true rfl)⟩) (fun _ => rfl) (fun r_516 u_516 H locs hw_516 hP hD hS => ?_)
  have hP : va_P D vwCl (wX cA x a dy co ti ro u 4 B ch v 2 G w T a2 dy2 co2 ti2 ro2 u2 n2 B2 ch2 v2 nb2 G2 w2 T2) H := hP
  have hD : va_D A (wX cA x a dy co ti ro u 4 B ch v 2 G w T a2 dy2 co2 ti2 ro2 u2 n2 B2 ch2 v2 nb2 G2 w2 T2) := hD
  obtain rfl : r_516 = tellG G 0 0 := hw_516
  refine lv_icmp_ne (tgt := 524) hx hb dL_law_519 (by decide) (fun c_519 => ?_) (fun c_519 => False.elim (by exact (hG.1.2.1 0 (by decide)).goal c_519))
  refine lv_iinc (v := 1) (lv' := [(13, .int 1), (0, .ref sa.1), (1, .ref x), (2, .int cu), (3, .int ti), (4, .int (nI i))]) (k := 0) hx hb dL_law_524 hl rfl (by decide) (by decide) rfl (fun ls hl => ?_)
  refine lv_goto (tgt := 478) hx hb dL_law_527 (by decide) ?_
  refine lv_iload hx hb dL_law_478 (lv_at hl 0 rfl) ?_
  refine lv_iconst (v := 2) hx hb dL_law_480 (by decide) ?_
  refine lv_icmp_ge (tgt := 530) hx hb dL_law_481 (by decide) (fun q => absurd q (by decide)) (fun _ => ?_)
  refine lv_aload_n hx hb dL_law_484 rfl (lv_at hl 2 rfl) ?_
  refine lv_iload hx hb dL_law_485 (lv_at hl 0 rfl) ?_
  refine lv_iconst (v := 2) hx hb dL_law_487 (by decide) ?_
  refine goI ([]) ([]) hP hD hS hA (rnV (rest := []) (c_told sa tb D cA cL l x a dy co ti ro u 4 B ch v 2 G w T a2 dy2 co2 ti2 ro2 u2 n2 B2 ch2 v2 nb2 G2 w2 T2 1 2 (show 1 < 2 from by first | omega | assumption | decide) (show 2 ≤ 3 from by first | omega | assumption | decide) (show 2 < 6 from by first | omega | assumption | decide)) ([]) ([]) hP hD hS hA hE ⟨hx, hb, hml, hown, hts⟩ (cwV 2 hts gL_law_X4_told rfl rfl rfl (by decide +kernel) ⟨(Nat.le_of_ble_eq_true rfl), (Nat.le_of_ble_eq_true rfl)⟩) 4 0 rfl rfl rfl rfl hl.1 rfl (Nat.le_of_ble_eq_true rfl) dL_law_488 ⟨(Nat.le_of_ble_eq_true rfl), (Nat.le_of_ble_eq_true rfl)⟩) (fun _ => rfl) (fun r_488 u_488 H locs hw_488 hP hD hS => ?_)
  have hP : va_P D vwCl (wX cA x a dy co ti ro u 4 B ch v 2 G w T a2 dy2 co2 ti2 ro2 u2 n2 B2 ch2 v2 nb2 G2 w2 T2) H := hP
  have hD : va_D A (wX cA x a dy co ti ro u 4 B ch v 2 G w T a2 dy2 co2 ti2 ro2 u2 n2 B2 ch2 v2 nb2 G2 w2 T2) := hD
  obtain rfl : r_488 = tellG G 1 2 := hw_488
  refine lv_aload_n hx hb dL_law_491 rfl (lv_at hl 2 rfl) ?_
  refine lv_iload hx hb dL_law_492 (lv_at hl 0 rfl) ?_
  refine lv_iconst (v := 3) hx hb dL_law_494 (by decide) ?_
  refine goI ([]) ([]) hP hD hS hA (rnV (rest := [.int (tellG G 1 2)]) (c_told sa tb D cA cL l x a dy co ti ro u 4 B ch v 2 G w T a2 dy2 co2 ti2 ro2 u2 n2 B2 ch2 v2 nb2 G2 w2 T2 1 3 (show 1 < 2 from by first | omega | assumption | decide) (show 2 ≤ 3 from by first | omega | assumption | decide) (show 3 < 6 from by first | omega | assumption | decide)) ([]) ([]) hP hD hS hA hE ⟨hx, hb, hml, hown, hts⟩ (cwV 2 hts gL_law_X4_told rfl rfl rfl (by decide +kernel) ⟨(Nat.le_of_ble_eq_true rfl), (Nat.le_of_ble_eq_true rfl)⟩) 4 0 rfl rfl rfl rfl hl.1 rfl (Nat.le_of_ble_eq_true rfl) dL_law_495 ⟨(Nat.le_of_ble_eq_true rfl), (Nat.le_of_ble_eq_true rfl)⟩) (fun _ => rfl) (fun r_495 u_495 H locs hw_495 hP hD hS => ?_)
  have hP : va_P D vwCl (wX cA x a dy co ti ro u 4 B ch v 2 G w T a2 dy2 co2 ti2 ro2 u2 n2 B2 ch2 v2 nb2 G2 w2 T2) H := hP
  have hD : va_D A (wX cA x a dy co ti ro u 4 B ch v 2 G w T a2 dy2 co2 ti2 ro2 u2 n2 B2 ch2 v2 nb2 G2 w2 T2) := hD
  obtain rfl : r_495 = tellG G 1 3 := hw_495
  refine lv_iadd hx hb dL_law_498 ?_
  refine lv_sipush (v := 150) hx hb dL_law_499 (by decide) ?_
  refine lv_icmp_gt (tgt := 522) hx hb dL_law_502 (by decide) (fun c_502_2 => False.elim (by exact (hG.1.2.1 1 (by decide)).a150 c_502_2)) (fun c_502_2 => ?_)
  refine lv_aload_n hx hb dL_law_505 rfl (lv_at hl 2 rfl) ?_
  refine lv_iload hx hb dL_law_506 (lv_at hl 0 rfl) ?_
  refine lv_iconst (v := 1) hx hb dL_law_508 (by decide) ?_
  refine goI ([]) ([]) hP hD hS hA (rnV (rest := []) (c_told sa tb D cA cL l x a dy co ti ro u 4 B ch v 2 G w T a2 dy2 co2 ti2 ro2 u2 n2 B2 ch2 v2 nb2 G2 w2 T2 1 1 (show 1 < 2 from by first | omega | assumption | decide) (show 2 ≤ 3 from by first | omega | assumption | decide) (show 1 < 6 from by first | omega | assumption | decide)) ([]) ([]) hP hD hS hA hE ⟨hx, hb, hml, hown, hts⟩ (cwV 2 hts gL_law_X4_told rfl rfl rfl (by decide +kernel) ⟨(Nat.le_of_ble_eq_true rfl), (Nat.le_of_ble_eq_true rfl)⟩) 4 0 rfl rfl rfl rfl hl.1 rfl (Nat.le_of_ble_eq_true rfl) dL_law_509 ⟨(Nat.le_of_ble_eq_true rfl), (Nat.le_of_ble_eq_true rfl)⟩) (fun _ => rfl) (fun r_509 u_509 H locs hw_509 hP hD hS => ?_)
  have hP : va_P D vwCl (wX cA x a dy co ti ro u 4 B ch v 2 G w T a2 dy2 co2 ti2 ro2 u2 n2 B2 ch2 v2 nb2 G2 w2 T2) H := hP
  have hD : va_D A (wX cA x a dy co ti ro u 4 B ch v 2 G w T a2 dy2 co2 ti2 ro2 u2 n2 B2 ch2 v2 nb2 G2 w2 T2) := hD
  obtain rfl : r_509 = tellG G 1 1 := hw_509
  refine lv_aload_n hx hb dL_law_512 rfl (lv_at hl 2 rfl) ?_
  refine lv_iload hx hb dL_law_513 (lv_at hl 0 rfl) ?_
  refine lv_iconst (v := 0) hx hb dL_law_515 (by decide) ?_
  refine goI ([]) ([]) hP hD hS hA (rnV (rest := [.int (tellG G 1 1)]) (c_told sa tb D cA cL l x a dy co ti ro u 4 B ch v 2 G w T a2 dy2 co2 ti2 ro2 u2 n2 B2 ch2 v2 nb2 G2 w2 T2 1 0 (show 1 < 2 from by first | omega | assumption | decide) (show 2 ≤ 3 from by first | omega | assumption | decide) (show 0 < 6 from by first | omega | assumption | decide)) ([]) ([]) hP hD hS hA hE ⟨hx, hb, hml, hown, hts⟩ (cwV 2 hts gL_law_X4_told rfl rfl rfl (by decide +kernel) ⟨(Nat.le_of_ble_eq_true rfl), (Nat.le_of_ble_eq_true rfl)⟩) 4 0 rfl rfl rfl rfl hl.1 rfl (Nat.le_of_ble_eq_true rfl) dL_law_516 ⟨(Nat.le_of_ble_eq_true rfl), (Nat.le_of_ble_eq_true rfl)⟩) (fun _ => rfl) (fun r_516 u_516 H locs hw_516 hP hD hS => ?_)
  have hP : va_P D vwCl (wX cA x a dy co ti ro u 4 B ch v 2 G w T a2 dy2 co2 ti2 ro2 u2 n2 B2 ch2 v2 nb2 G2 w2 T2) H := hP
  have hD : va_D A (wX cA x a dy co ti ro u 4 B ch v 2 G w T a2 dy2 co2 ti2 ro2 u2 n2 B2 ch2 v2 nb2 G2 w2 T2) := hD
  obtain rfl : r_516 = tellG G 1 0 := hw_516
  refine lv_icmp_ne (tgt := 524) hx hb dL_law_519 (by decide) (fun c_519_2 => ?_) (fun c_519_2 => False.elim (by exact (hG.1.2.1 1 (by decide)).goal c_519_2))
  refine lv_iinc (v := 2) (lv' := [(13, .int 2), (0, .ref sa.1), (1, .ref x), (2, .int cu), (3, .int ti), (4, .int (nI i))]) (k := 0) hx hb dL_law_524 hl rfl (by decide) (by decide) rfl (fun ls hl => ?_)
  refine lv_goto (tgt := 478) hx hb dL_law_527 (by decide) ?_
  refine lv_iload hx hb dL_law_478 (lv_at hl 0 rfl) ?_
  refine lv_iconst (v := 2) hx hb dL_law_480 (by decide) ?_
  refine lv_icmp_ge (tgt := 530) hx hb dL_law_481 (by decide) (fun _ => ?_) (fun q => absurd (by decide) q)
  exact K _ H locs ls ⟨_, _, _, _, _, _, _, _, _, _, _, _, _, _, _, _, _, _, _, rfl⟩ hP hD hS (lv_sub hl [1, 2, 3, 4, 5] rfl)
set_option maxRecDepth 100000 in
set_option maxHeartbeats 4000000 in
theorem J_chkD {p : Program} {l : Launch} {e : Env} {s : State} {m : MethodId} {below : List Frame} {meth : Method} {c : Code} {Q : State → Prop} {sa : Nat × Nat × (Nat → Int32)} {tb : Nat → Nat} {D : va_G} {cA cL : ClassId} {A : Nat → Prop} {x i : Nat} {cu dy co ti ro : Int32} {B G : Nat → Nat → Int32} {T : Nat → Int32}  (C : LawC p s m c sa tb D cA cL A) (hi : i < 16) (hG : GS (i + 1) cu co ti ro B G T) (K : KT p l e s m below meth c Q sa D cA A x 595 (lvT sa x cu ti i) dy co ti ro B G T) : KT p l e s m below meth c Q sa D cA A x 530 (lvT sa x cu ti i) dy co ti ro B G T := by
  obtain ⟨hx, hb, hml, hown, hts, hA, hE⟩ := id C
  intro Wd H locs ls hW hP hD hS hl
  obtain ⟨a, u, ch, v, w, a2, dy2, co2, ti2, ro2, u2, n2, B2, ch2, v2, nb2, G2, w2, T2, rfl⟩ := hW
  have hl : lv_has ls 14 [(0, .ref sa.1), (1, .ref x), (2, .int cu), (3, .int ti), (4, .int (nI i))] := hl
  refine lv_iconst (v := 0) hx hb dL_law_530 (by decide) ?_
  refine lv_istore (lv' := [(13, .int 0), (0, .ref sa.1), (1, .ref x), (2, .int cu), (3, .int ti), (4, .int (nI i))]) hx hb dL_law_531 hl (by decide) rfl (fun ls hl => ?_)
  refine lv_iload hx hb dL_law_533 (lv_at hl 0 rfl) ?_
  refine lv_iconst (v := 3) hx hb dL_law_535 (by decide) ?_
  refine lv_icmp_ge (tgt := 595) hx hb dL_law_536 (by decide) (fun q => absurd q (by decide)) (fun _ => ?_)
  refine lv_aload_n hx hb dL_law_539 rfl (lv_at hl 2 rfl) ?_
  refine lv_iload hx hb dL_law_540 (lv_at hl 0 rfl) ?_
  refine lv_iconst (v := 2) hx hb dL_law_542 (by decide) ?_
  refine goI ([]) ([]) hP hD hS hA (rnV (rest := []) (c_landing sa tb D cA cL l x a dy co ti ro u 4 B ch v 2 G w T a2 dy2 co2 ti2 ro2 u2 n2 B2 ch2 v2 nb2 G2 w2 T2 0 2 (show 0 < 3 from by first | omega | assumption | decide) (show 2 < 4 from by first | omega | assumption | decide)) ([]) ([]) hP hD hS hA hE ⟨hx, hb, hml, hown, hts⟩ (cwV 2 hts gL_law_X4_landing rfl rfl rfl (by decide +kernel) ⟨(Nat.le_of_ble_eq_true rfl), (Nat.le_of_ble_eq_true rfl)⟩) 4 0 rfl rfl rfl rfl hl.1 rfl (Nat.le_of_ble_eq_true rfl) dL_law_543 ⟨(Nat.le_of_ble_eq_true rfl), (Nat.le_of_ble_eq_true rfl)⟩) (fun _ => rfl) (fun r_543 u_543 H locs hw_543 hP hD hS => ?_)
  have hP : va_P D vwCl (wX cA x a dy co ti ro u 4 B ch v 2 G w T a2 dy2 co2 ti2 ro2 u2 n2 B2 ch2 v2 nb2 G2 w2 T2) H := hP
  have hD : va_D A (wX cA x a dy co ti ro u 4 B ch v 2 G w T a2 dy2 co2 ti2 ro2 u2 n2 B2 ch2 v2 nb2 G2 w2 T2) := hD
  obtain rfl : r_543 = tellL T 0 2 := hw_543
  refine lv_iconst (v := 1) hx hb dL_law_546 (by decide) ?_
  refine lv_icmp_lt (tgt := 587) hx hb dL_law_547 (by decide) (fun c_547 => False.elim (by exact hG.p1 (by omega) (by decide) c_547)) (fun c_547 => ?_)
  refine lv_aload_n hx hb dL_law_550 rfl (lv_at hl 2 rfl) ?_
  refine lv_iload hx hb dL_law_551 (lv_at hl 0 rfl) ?_
  refine lv_iconst (v := 2) hx hb dL_law_553 (by decide) ?_
  refine goI ([]) ([]) hP hD hS hA (rnV (rest := []) (c_landing sa tb D cA cL l x a dy co ti ro u 4 B ch v 2 G w T a2 dy2 co2 ti2 ro2 u2 n2 B2 ch2 v2 nb2 G2 w2 T2 0 2 (show 0 < 3 from by first | omega | assumption | decide) (show 2 < 4 from by first | omega | assumption | decide)) ([]) ([]) hP hD hS hA hE ⟨hx, hb, hml, hown, hts⟩ (cwV 2 hts gL_law_X4_landing rfl rfl rfl (by decide +kernel) ⟨(Nat.le_of_ble_eq_true rfl), (Nat.le_of_ble_eq_true rfl)⟩) 4 0 rfl rfl rfl rfl hl.1 rfl (Nat.le_of_ble_eq_true rfl) dL_law_554 ⟨(Nat.le_of_ble_eq_true rfl), (Nat.le_of_ble_eq_true rfl)⟩) (fun _ => rfl) (fun r_554 u_554 H locs hw_554 hP hD hS => ?_)
  have hP : va_P D vwCl (wX cA x a dy co ti ro u 4 B ch v 2 G w T a2 dy2 co2 ti2 ro2 u2 n2 B2 ch2 v2 nb2 G2 w2 T2) H := hP
  have hD : va_D A (wX cA x a dy co ti ro u 4 B ch v 2 G w T a2 dy2 co2 ti2 ro2 u2 n2 B2 ch2 v2 nb2 G2 w2 T2) := hD
  obtain rfl : r_554 = tellL T 0 2 := hw_554
  refine va_gets hx hb (hE.2.2.2.1.2.2.2).1 hS hown (hts (.fieldLink RL 77 "SedgeBargesLaw" "WORTH" "[I") m_worth) (fun _ h9 => h9) dL_law_557 ?_
  refine lv_iload hx hb dL_law_560 (lv_at hl 0 rfl) ?_
  refine r_tld hx hb (hE.2.2.2.1.2.2.2) hS (0) rfl (by omega) (by decide) rfl dL_law_562 ?_
  refine lv_icmp_gt (tgt := 587) hx hb dL_law_563 (by decide) (fun c_563 => False.elim (by exact hG.pW (by omega) (by decide) c_563)) (fun c_563 => ?_)
  refine lv_aload_n hx hb dL_law_566 rfl (lv_at hl 2 rfl) ?_
  refine lv_iload hx hb dL_law_567 (lv_at hl 0 rfl) ?_
  refine lv_iconst (v := 3) hx hb dL_law_569 (by decide) ?_
  refine goI ([]) ([]) hP hD hS hA (rnV (rest := []) (c_landing sa tb D cA cL l x a dy co ti ro u 4 B ch v 2 G w T a2 dy2 co2 ti2 ro2 u2 n2 B2 ch2 v2 nb2 G2 w2 T2 0 3 (show 0 < 3 from by first | omega | assumption | decide) (show 3 < 4 from by first | omega | assumption | decide)) ([]) ([]) hP hD hS hA hE ⟨hx, hb, hml, hown, hts⟩ (cwV 2 hts gL_law_X4_landing rfl rfl rfl (by decide +kernel) ⟨(Nat.le_of_ble_eq_true rfl), (Nat.le_of_ble_eq_true rfl)⟩) 4 0 rfl rfl rfl rfl hl.1 rfl (Nat.le_of_ble_eq_true rfl) dL_law_570 ⟨(Nat.le_of_ble_eq_true rfl), (Nat.le_of_ble_eq_true rfl)⟩) (fun _ => rfl) (fun r_570 u_570 H locs hw_570 hP hD hS => ?_)
  have hP : va_P D vwCl (wX cA x a dy co ti ro u 4 B ch v 2 G w T a2 dy2 co2 ti2 ro2 u2 n2 B2 ch2 v2 nb2 G2 w2 T2) H := hP
  have hD : va_D A (wX cA x a dy co ti ro u 4 B ch v 2 G w T a2 dy2 co2 ti2 ro2 u2 n2 B2 ch2 v2 nb2 G2 w2 T2) := hD
  obtain rfl : r_570 = tellL T 0 3 := hw_570
  refine lv_iconst (v := 1) hx hb dL_law_573 (by decide) ?_
  refine lv_icmp_lt (tgt := 587) hx hb dL_law_574 (by decide) (fun c_574 => False.elim (by exact hG.pR c_574)) (fun c_574 => ?_)
  refine lv_aload_n hx hb dL_law_577 rfl (lv_at hl 2 rfl) ?_
  refine lv_iload hx hb dL_law_578 (lv_at hl 0 rfl) ?_
  refine lv_iconst (v := 1) hx hb dL_law_580 (by decide) ?_
  refine goI ([]) ([]) hP hD hS hA (rnV (rest := []) (c_landing sa tb D cA cL l x a dy co ti ro u 4 B ch v 2 G w T a2 dy2 co2 ti2 ro2 u2 n2 B2 ch2 v2 nb2 G2 w2 T2 0 1 (show 0 < 3 from by first | omega | assumption | decide) (show 1 < 4 from by first | omega | assumption | decide)) ([]) ([]) hP hD hS hA hE ⟨hx, hb, hml, hown, hts⟩ (cwV 2 hts gL_law_X4_landing rfl rfl rfl (by decide +kernel) ⟨(Nat.le_of_ble_eq_true rfl), (Nat.le_of_ble_eq_true rfl)⟩) 4 0 rfl rfl rfl rfl hl.1 rfl (Nat.le_of_ble_eq_true rfl) dL_law_581 ⟨(Nat.le_of_ble_eq_true rfl), (Nat.le_of_ble_eq_true rfl)⟩) (fun _ => rfl) (fun r_581 u_581 H locs hw_581 hP hD hS => ?_)
  have hP : va_P D vwCl (wX cA x a dy co ti ro u 4 B ch v 2 G w T a2 dy2 co2 ti2 ro2 u2 n2 B2 ch2 v2 nb2 G2 w2 T2) H := hP
  have hD : va_D A (wX cA x a dy co ti ro u 4 B ch v 2 G w T a2 dy2 co2 ti2 ro2 u2 n2 B2 ch2 v2 nb2 G2 w2 T2) := hD
  obtain rfl : r_581 = tellL T 0 1 := hw_581
  refine lv_if_ge (tgt := 589) hx hb dL_law_584 (by decide) (fun c_584 => ?_) (fun c_584 => False.elim (by exact c_584 (hG.st0 (by decide))))
  refine lv_iinc (v := 1) (lv' := [(13, .int 1), (0, .ref sa.1), (1, .ref x), (2, .int cu), (3, .int ti), (4, .int (nI i))]) (k := 0) hx hb dL_law_589 hl rfl (by decide) (by decide) rfl (fun ls hl => ?_)
  refine lv_goto (tgt := 533) hx hb dL_law_592 (by decide) ?_
  refine lv_iload hx hb dL_law_533 (lv_at hl 0 rfl) ?_
  refine lv_iconst (v := 3) hx hb dL_law_535 (by decide) ?_
  refine lv_icmp_ge (tgt := 595) hx hb dL_law_536 (by decide) (fun q => absurd q (by decide)) (fun _ => ?_)
  refine lv_aload_n hx hb dL_law_539 rfl (lv_at hl 2 rfl) ?_
  refine lv_iload hx hb dL_law_540 (lv_at hl 0 rfl) ?_
  refine lv_iconst (v := 2) hx hb dL_law_542 (by decide) ?_
  refine goI ([]) ([]) hP hD hS hA (rnV (rest := []) (c_landing sa tb D cA cL l x a dy co ti ro u 4 B ch v 2 G w T a2 dy2 co2 ti2 ro2 u2 n2 B2 ch2 v2 nb2 G2 w2 T2 1 2 (show 1 < 3 from by first | omega | assumption | decide) (show 2 < 4 from by first | omega | assumption | decide)) ([]) ([]) hP hD hS hA hE ⟨hx, hb, hml, hown, hts⟩ (cwV 2 hts gL_law_X4_landing rfl rfl rfl (by decide +kernel) ⟨(Nat.le_of_ble_eq_true rfl), (Nat.le_of_ble_eq_true rfl)⟩) 4 0 rfl rfl rfl rfl hl.1 rfl (Nat.le_of_ble_eq_true rfl) dL_law_543 ⟨(Nat.le_of_ble_eq_true rfl), (Nat.le_of_ble_eq_true rfl)⟩) (fun _ => rfl) (fun r_543 u_543 H locs hw_543 hP hD hS => ?_)
  have hP : va_P D vwCl (wX cA x a dy co ti ro u 4 B ch v 2 G w T a2 dy2 co2 ti2 ro2 u2 n2 B2 ch2 v2 nb2 G2 w2 T2) H := hP
  have hD : va_D A (wX cA x a dy co ti ro u 4 B ch v 2 G w T a2 dy2 co2 ti2 ro2 u2 n2 B2 ch2 v2 nb2 G2 w2 T2) := hD
  obtain rfl : r_543 = tellL T 1 2 := hw_543
  refine lv_iconst (v := 1) hx hb dL_law_546 (by decide) ?_
  refine lv_icmp_lt (tgt := 587) hx hb dL_law_547 (by decide) (fun c_547_2 => False.elim (by exact hG.p1 (by omega) (by decide) c_547_2)) (fun c_547_2 => ?_)
  refine lv_aload_n hx hb dL_law_550 rfl (lv_at hl 2 rfl) ?_
  refine lv_iload hx hb dL_law_551 (lv_at hl 0 rfl) ?_
  refine lv_iconst (v := 2) hx hb dL_law_553 (by decide) ?_
  refine goI ([]) ([]) hP hD hS hA (rnV (rest := []) (c_landing sa tb D cA cL l x a dy co ti ro u 4 B ch v 2 G w T a2 dy2 co2 ti2 ro2 u2 n2 B2 ch2 v2 nb2 G2 w2 T2 1 2 (show 1 < 3 from by first | omega | assumption | decide) (show 2 < 4 from by first | omega | assumption | decide)) ([]) ([]) hP hD hS hA hE ⟨hx, hb, hml, hown, hts⟩ (cwV 2 hts gL_law_X4_landing rfl rfl rfl (by decide +kernel) ⟨(Nat.le_of_ble_eq_true rfl), (Nat.le_of_ble_eq_true rfl)⟩) 4 0 rfl rfl rfl rfl hl.1 rfl (Nat.le_of_ble_eq_true rfl) dL_law_554 ⟨(Nat.le_of_ble_eq_true rfl), (Nat.le_of_ble_eq_true rfl)⟩) (fun _ => rfl) (fun r_554 u_554 H locs hw_554 hP hD hS => ?_)
  have hP : va_P D vwCl (wX cA x a dy co ti ro u 4 B ch v 2 G w T a2 dy2 co2 ti2 ro2 u2 n2 B2 ch2 v2 nb2 G2 w2 T2) H := hP
  have hD : va_D A (wX cA x a dy co ti ro u 4 B ch v 2 G w T a2 dy2 co2 ti2 ro2 u2 n2 B2 ch2 v2 nb2 G2 w2 T2) := hD
  obtain rfl : r_554 = tellL T 1 2 := hw_554
  refine va_gets hx hb (hE.2.2.2.1.2.2.2).1 hS hown (hts (.fieldLink RL 77 "SedgeBargesLaw" "WORTH" "[I") m_worth) (fun _ h9 => h9) dL_law_557 ?_
  refine lv_iload hx hb dL_law_560 (lv_at hl 0 rfl) ?_
  refine r_tld hx hb (hE.2.2.2.1.2.2.2) hS (1) rfl (by omega) (by decide) rfl dL_law_562 ?_
  refine lv_icmp_gt (tgt := 587) hx hb dL_law_563 (by decide) (fun c_563_2 => False.elim (by exact hG.pW (by omega) (by decide) c_563_2)) (fun c_563_2 => ?_)
  refine lv_aload_n hx hb dL_law_566 rfl (lv_at hl 2 rfl) ?_
  refine lv_iload hx hb dL_law_567 (lv_at hl 0 rfl) ?_
  refine lv_iconst (v := 3) hx hb dL_law_569 (by decide) ?_
  refine goI ([]) ([]) hP hD hS hA (rnV (rest := []) (c_landing sa tb D cA cL l x a dy co ti ro u 4 B ch v 2 G w T a2 dy2 co2 ti2 ro2 u2 n2 B2 ch2 v2 nb2 G2 w2 T2 1 3 (show 1 < 3 from by first | omega | assumption | decide) (show 3 < 4 from by first | omega | assumption | decide)) ([]) ([]) hP hD hS hA hE ⟨hx, hb, hml, hown, hts⟩ (cwV 2 hts gL_law_X4_landing rfl rfl rfl (by decide +kernel) ⟨(Nat.le_of_ble_eq_true rfl), (Nat.le_of_ble_eq_true rfl)⟩) 4 0 rfl rfl rfl rfl hl.1 rfl (Nat.le_of_ble_eq_true rfl) dL_law_570 ⟨(Nat.le_of_ble_eq_true rfl), (Nat.le_of_ble_eq_true rfl)⟩) (fun _ => rfl) (fun r_570 u_570 H locs hw_570 hP hD hS => ?_)
  have hP : va_P D vwCl (wX cA x a dy co ti ro u 4 B ch v 2 G w T a2 dy2 co2 ti2 ro2 u2 n2 B2 ch2 v2 nb2 G2 w2 T2) H := hP
  have hD : va_D A (wX cA x a dy co ti ro u 4 B ch v 2 G w T a2 dy2 co2 ti2 ro2 u2 n2 B2 ch2 v2 nb2 G2 w2 T2) := hD
  obtain rfl : r_570 = tellL T 1 3 := hw_570
  refine lv_iconst (v := 1) hx hb dL_law_573 (by decide) ?_
  refine lv_icmp_lt (tgt := 587) hx hb dL_law_574 (by decide) (fun c_574_2 => False.elim (by exact hG.pR c_574_2)) (fun c_574_2 => ?_)
  refine lv_aload_n hx hb dL_law_577 rfl (lv_at hl 2 rfl) ?_
  refine lv_iload hx hb dL_law_578 (lv_at hl 0 rfl) ?_
  refine lv_iconst (v := 1) hx hb dL_law_580 (by decide) ?_
  refine goI ([]) ([]) hP hD hS hA (rnV (rest := []) (c_landing sa tb D cA cL l x a dy co ti ro u 4 B ch v 2 G w T a2 dy2 co2 ti2 ro2 u2 n2 B2 ch2 v2 nb2 G2 w2 T2 1 1 (show 1 < 3 from by first | omega | assumption | decide) (show 1 < 4 from by first | omega | assumption | decide)) ([]) ([]) hP hD hS hA hE ⟨hx, hb, hml, hown, hts⟩ (cwV 2 hts gL_law_X4_landing rfl rfl rfl (by decide +kernel) ⟨(Nat.le_of_ble_eq_true rfl), (Nat.le_of_ble_eq_true rfl)⟩) 4 0 rfl rfl rfl rfl hl.1 rfl (Nat.le_of_ble_eq_true rfl) dL_law_581 ⟨(Nat.le_of_ble_eq_true rfl), (Nat.le_of_ble_eq_true rfl)⟩) (fun _ => rfl) (fun r_581 u_581 H locs hw_581 hP hD hS => ?_)
  have hP : va_P D vwCl (wX cA x a dy co ti ro u 4 B ch v 2 G w T a2 dy2 co2 ti2 ro2 u2 n2 B2 ch2 v2 nb2 G2 w2 T2) H := hP
  have hD : va_D A (wX cA x a dy co ti ro u 4 B ch v 2 G w T a2 dy2 co2 ti2 ro2 u2 n2 B2 ch2 v2 nb2 G2 w2 T2) := hD
  obtain rfl : r_581 = tellL T 1 1 := hw_581
  refine lv_if_ge (tgt := 589) hx hb dL_law_584 (by decide) (fun c_584_2 => ?_) (fun c_584_2 => False.elim (by exact c_584_2 (hG.st0 (by decide))))
  refine lv_iinc (v := 2) (lv' := [(13, .int 2), (0, .ref sa.1), (1, .ref x), (2, .int cu), (3, .int ti), (4, .int (nI i))]) (k := 0) hx hb dL_law_589 hl rfl (by decide) (by decide) rfl (fun ls hl => ?_)
  refine lv_goto (tgt := 533) hx hb dL_law_592 (by decide) ?_
  refine lv_iload hx hb dL_law_533 (lv_at hl 0 rfl) ?_
  refine lv_iconst (v := 3) hx hb dL_law_535 (by decide) ?_
  refine lv_icmp_ge (tgt := 595) hx hb dL_law_536 (by decide) (fun q => absurd q (by decide)) (fun _ => ?_)
  refine lv_aload_n hx hb dL_law_539 rfl (lv_at hl 2 rfl) ?_
  refine lv_iload hx hb dL_law_540 (lv_at hl 0 rfl) ?_
  refine lv_iconst (v := 2) hx hb dL_law_542 (by decide) ?_
  refine goI ([]) ([]) hP hD hS hA (rnV (rest := []) (c_landing sa tb D cA cL l x a dy co ti ro u 4 B ch v 2 G w T a2 dy2 co2 ti2 ro2 u2 n2 B2 ch2 v2 nb2 G2 w2 T2 2 2 (show 2 < 3 from by first | omega | assumption | decide) (show 2 < 4 from by first | omega | assumption | decide)) ([]) ([]) hP hD hS hA hE ⟨hx, hb, hml, hown, hts⟩ (cwV 2 hts gL_law_X4_landing rfl rfl rfl (by decide +kernel) ⟨(Nat.le_of_ble_eq_true rfl), (Nat.le_of_ble_eq_true rfl)⟩) 4 0 rfl rfl rfl rfl hl.1 rfl (Nat.le_of_ble_eq_true rfl) dL_law_543 ⟨(Nat.le_of_ble_eq_true rfl), (Nat.le_of_ble_eq_true rfl)⟩) (fun _ => rfl) (fun r_543 u_543 H locs hw_543 hP hD hS => ?_)
  have hP : va_P D vwCl (wX cA x a dy co ti ro u 4 B ch v 2 G w T a2 dy2 co2 ti2 ro2 u2 n2 B2 ch2 v2 nb2 G2 w2 T2) H := hP
  have hD : va_D A (wX cA x a dy co ti ro u 4 B ch v 2 G w T a2 dy2 co2 ti2 ro2 u2 n2 B2 ch2 v2 nb2 G2 w2 T2) := hD
  obtain rfl : r_543 = tellL T 2 2 := hw_543
  refine lv_iconst (v := 1) hx hb dL_law_546 (by decide) ?_
  refine lv_icmp_lt (tgt := 587) hx hb dL_law_547 (by decide) (fun c_547_3 => False.elim (by exact hG.p1 (by omega) (by decide) c_547_3)) (fun c_547_3 => ?_)
  refine lv_aload_n hx hb dL_law_550 rfl (lv_at hl 2 rfl) ?_
  refine lv_iload hx hb dL_law_551 (lv_at hl 0 rfl) ?_
  refine lv_iconst (v := 2) hx hb dL_law_553 (by decide) ?_
  refine goI ([]) ([]) hP hD hS hA (rnV (rest := []) (c_landing sa tb D cA cL l x a dy co ti ro u 4 B ch v 2 G w T a2 dy2 co2 ti2 ro2 u2 n2 B2 ch2 v2 nb2 G2 w2 T2 2 2 (show 2 < 3 from by first | omega | assumption | decide) (show 2 < 4 from by first | omega | assumption | decide)) ([]) ([]) hP hD hS hA hE ⟨hx, hb, hml, hown, hts⟩ (cwV 2 hts gL_law_X4_landing rfl rfl rfl (by decide +kernel) ⟨(Nat.le_of_ble_eq_true rfl), (Nat.le_of_ble_eq_true rfl)⟩) 4 0 rfl rfl rfl rfl hl.1 rfl (Nat.le_of_ble_eq_true rfl) dL_law_554 ⟨(Nat.le_of_ble_eq_true rfl), (Nat.le_of_ble_eq_true rfl)⟩) (fun _ => rfl) (fun r_554 u_554 H locs hw_554 hP hD hS => ?_)
  have hP : va_P D vwCl (wX cA x a dy co ti ro u 4 B ch v 2 G w T a2 dy2 co2 ti2 ro2 u2 n2 B2 ch2 v2 nb2 G2 w2 T2) H := hP
  have hD : va_D A (wX cA x a dy co ti ro u 4 B ch v 2 G w T a2 dy2 co2 ti2 ro2 u2 n2 B2 ch2 v2 nb2 G2 w2 T2) := hD
  obtain rfl : r_554 = tellL T 2 2 := hw_554
  refine va_gets hx hb (hE.2.2.2.1.2.2.2).1 hS hown (hts (.fieldLink RL 77 "SedgeBargesLaw" "WORTH" "[I") m_worth) (fun _ h9 => h9) dL_law_557 ?_
  refine lv_iload hx hb dL_law_560 (lv_at hl 0 rfl) ?_
  refine r_tld hx hb (hE.2.2.2.1.2.2.2) hS (2) rfl (by omega) (by decide) rfl dL_law_562 ?_
  refine lv_icmp_gt (tgt := 587) hx hb dL_law_563 (by decide) (fun c_563_3 => False.elim (by exact hG.pW (by omega) (by decide) c_563_3)) (fun c_563_3 => ?_)
  refine lv_aload_n hx hb dL_law_566 rfl (lv_at hl 2 rfl) ?_
  refine lv_iload hx hb dL_law_567 (lv_at hl 0 rfl) ?_
  refine lv_iconst (v := 3) hx hb dL_law_569 (by decide) ?_
  refine goI ([]) ([]) hP hD hS hA (rnV (rest := []) (c_landing sa tb D cA cL l x a dy co ti ro u 4 B ch v 2 G w T a2 dy2 co2 ti2 ro2 u2 n2 B2 ch2 v2 nb2 G2 w2 T2 2 3 (show 2 < 3 from by first | omega | assumption | decide) (show 3 < 4 from by first | omega | assumption | decide)) ([]) ([]) hP hD hS hA hE ⟨hx, hb, hml, hown, hts⟩ (cwV 2 hts gL_law_X4_landing rfl rfl rfl (by decide +kernel) ⟨(Nat.le_of_ble_eq_true rfl), (Nat.le_of_ble_eq_true rfl)⟩) 4 0 rfl rfl rfl rfl hl.1 rfl (Nat.le_of_ble_eq_true rfl) dL_law_570 ⟨(Nat.le_of_ble_eq_true rfl), (Nat.le_of_ble_eq_true rfl)⟩) (fun _ => rfl) (fun r_570 u_570 H locs hw_570 hP hD hS => ?_)
  have hP : va_P D vwCl (wX cA x a dy co ti ro u 4 B ch v 2 G w T a2 dy2 co2 ti2 ro2 u2 n2 B2 ch2 v2 nb2 G2 w2 T2) H := hP
  have hD : va_D A (wX cA x a dy co ti ro u 4 B ch v 2 G w T a2 dy2 co2 ti2 ro2 u2 n2 B2 ch2 v2 nb2 G2 w2 T2) := hD
  obtain rfl : r_570 = tellL T 2 3 := hw_570
  refine lv_iconst (v := 1) hx hb dL_law_573 (by decide) ?_
  refine lv_icmp_lt (tgt := 587) hx hb dL_law_574 (by decide) (fun c_574_3 => False.elim (by exact hG.pR c_574_3)) (fun c_574_3 => ?_)
  refine lv_aload_n hx hb dL_law_577 rfl (lv_at hl 2 rfl) ?_
  refine lv_iload hx hb dL_law_578 (lv_at hl 0 rfl) ?_
  refine lv_iconst (v := 1) hx hb dL_law_580 (by decide) ?_
  refine goI ([]) ([]) hP hD hS hA (rnV (rest := []) (c_landing sa tb D cA cL l x a dy co ti ro u 4 B ch v 2 G w T a2 dy2 co2 ti2 ro2 u2 n2 B2 ch2 v2 nb2 G2 w2 T2 2 1 (show 2 < 3 from by first | omega | assumption | decide) (show 1 < 4 from by first | omega | assumption | decide)) ([]) ([]) hP hD hS hA hE ⟨hx, hb, hml, hown, hts⟩ (cwV 2 hts gL_law_X4_landing rfl rfl rfl (by decide +kernel) ⟨(Nat.le_of_ble_eq_true rfl), (Nat.le_of_ble_eq_true rfl)⟩) 4 0 rfl rfl rfl rfl hl.1 rfl (Nat.le_of_ble_eq_true rfl) dL_law_581 ⟨(Nat.le_of_ble_eq_true rfl), (Nat.le_of_ble_eq_true rfl)⟩) (fun _ => rfl) (fun r_581 u_581 H locs hw_581 hP hD hS => ?_)
  have hP : va_P D vwCl (wX cA x a dy co ti ro u 4 B ch v 2 G w T a2 dy2 co2 ti2 ro2 u2 n2 B2 ch2 v2 nb2 G2 w2 T2) H := hP
  have hD : va_D A (wX cA x a dy co ti ro u 4 B ch v 2 G w T a2 dy2 co2 ti2 ro2 u2 n2 B2 ch2 v2 nb2 G2 w2 T2) := hD
  obtain rfl : r_581 = tellL T 2 1 := hw_581
  refine lv_if_ge (tgt := 589) hx hb dL_law_584 (by decide) (fun c_584_3 => ?_) (fun c_584_3 => False.elim (by exact c_584_3 (hG.st0 (by decide))))
  refine lv_iinc (v := 3) (lv' := [(13, .int 3), (0, .ref sa.1), (1, .ref x), (2, .int cu), (3, .int ti), (4, .int (nI i))]) (k := 0) hx hb dL_law_589 hl rfl (by decide) (by decide) rfl (fun ls hl => ?_)
  refine lv_goto (tgt := 533) hx hb dL_law_592 (by decide) ?_
  refine lv_iload hx hb dL_law_533 (lv_at hl 0 rfl) ?_
  refine lv_iconst (v := 3) hx hb dL_law_535 (by decide) ?_
  refine lv_icmp_ge (tgt := 595) hx hb dL_law_536 (by decide) (fun _ => ?_) (fun q => absurd (by decide) q)
  exact K _ H locs ls ⟨_, _, _, _, _, _, _, _, _, _, _, _, _, _, _, _, _, _, _, rfl⟩ hP hD hS (lv_sub hl [1, 2, 3, 4, 5] rfl)
set_option maxRecDepth 100000 in
set_option maxHeartbeats 4000000 in
theorem J_cut {p : Program} {l : Launch} {e : Env} {s : State} {m : MethodId} {below : List Frame} {meth : Method} {c : Code} {Q : State → Prop} {sa : Nat × Nat × (Nat → Int32)} {tb : Nat → Nat} {D : va_G} {cA cL : ClassId} {A : Nat → Prop} {x i : Nat} {cu dy co ti ro : Int32} {B G : Nat → Nat → Int32} {T : Nat → Int32} {kb : Nat} (C : LawC p s m c sa tb D cA cL A) (hk : kb < 4) (ha : ¬ B 2 kb = 0) (K : KT p l e s m below meth c Q sa D cA A x 305 (lvT sa x (cu + given B kb) ti i) dy co ti ro (cutB B kb) G T) : KT p l e s m below meth c Q sa D cA A x 134 (lvT sa x cu ti i ++ [(6, .int (nI kb))]) dy co ti ro B G T := by
  obtain ⟨hx, hb, hml, hown, hts, hA, hE⟩ := id C
  intro Wd H locs ls hW hP hD hS hl
  obtain ⟨a, u, ch, v, w, a2, dy2, co2, ti2, ro2, u2, n2, B2, ch2, v2, nb2, G2, w2, T2, rfl⟩ := hW
  have hl : lv_has ls 14 [(0, .ref sa.1), (1, .ref x), (2, .int cu), (3, .int ti), (4, .int (nI i)), (6, .int (nI kb))] := hl
  refine lv_iload_n hx hb dL_law_134 rfl (lv_at hl 2 rfl) ?_
  refine lv_aload_n hx hb dL_law_135 rfl (lv_at hl 1 rfl) ?_
  refine lv_iload hx hb dL_law_136 (lv_at hl 5 rfl) ?_
  refine goI ([]) ([]) hP hD hS hA (rnV (rest := [.int cu]) (c_cut sa tb D cA cL l x a dy co ti ro u 4 B ch v 2 G w T a2 dy2 co2 ti2 ro2 u2 n2 B2 ch2 v2 nb2 G2 w2 T2 kb (show kb < 4 from by first | omega | assumption | decide) (show 4 ≤ 8 from by first | omega | assumption | decide) (show ¬ B 2 kb = 0 from ha)) ([]) ([]) hP hD hS hA hE ⟨hx, hb, hml, hown, hts⟩ (cwV 1 hts gL_law_X4_cut rfl rfl rfl (by decide +kernel) ⟨(Nat.le_of_ble_eq_true rfl), (Nat.le_of_ble_eq_true rfl)⟩) 4 0 rfl rfl rfl rfl hl.1 rfl (Nat.le_of_ble_eq_true rfl) dL_law_138 ⟨(Nat.le_of_ble_eq_true rfl), (Nat.le_of_ble_eq_true rfl)⟩) (fun _ => (show List.map Prod.fst _ = [x, a 0, a 1, u 0, u 1, u 2, u 3, u 4, u 5, u 6, u 7, u 8, a 2, v 0, v 1, v 2, v 3, v 4, a 3, w, a2 0, a2 1, u2 0, u2 1, u2 2, u2 3, u2 4, u2 5, u2 6, u2 7, u2 8, a2 2, v2 0, v2 1, v2 2, v2 3, v2 4, a2 3, w2] from rfl).trans (show [x, a 0, a 1, u 0, u 1, u 2, u 3, u 4, u 5, u 6, u 7, u 8, a 2, v 0, v 1, v 2, v 3, v 4, a 3, w, a2 0, a2 1, u2 0, u2 1, u2 2, u2 3, u2 4, u2 5, u2 6, u2 7, u2 8, a2 2, v2 0, v2 1, v2 2, v2 3, v2 4, a2 3, w2] = List.map Prod.fst _ from rfl)) (fun r_138 u_138 H locs hw_138 hP hD hS => ?_)
  have hP : va_P D vwCl (wX cA x a dy co ti ro u 4 (cutB B kb) ch v 2 G w T a2 dy2 co2 ti2 ro2 u2 n2 B2 ch2 v2 nb2 G2 w2 T2) H := hP
  have hD : va_D A (wX cA x a dy co ti ro u 4 (cutB B kb) ch v 2 G w T a2 dy2 co2 ti2 ro2 u2 n2 B2 ch2 v2 nb2 G2 w2 T2) := hD
  obtain rfl : r_138 = given B kb := hw_138
  refine lv_iadd hx hb dL_law_141 ?_
  refine lv_topi (fun z_1 hz_1 => ?_)
  refine lv_istore_n (lv' := [(2, .int z_1), (0, .ref sa.1), (1, .ref x), (3, .int ti), (4, .int (nI i)), (6, .int (nI kb))]) hx hb dL_law_142 rfl hl (by decide) rfl (fun ls hl => ?_)
  refine lv_goto (tgt := 305) hx hb dL_law_143 (by decide) ?_
  subst hz_1
  exact K _ H locs ls ⟨_, _, _, _, _, _, _, _, _, _, _, _, _, _, _, _, _, _, _, rfl⟩ hP hD hS (lv_sub hl [1, 2, 0, 3, 4] rfl)
set_option maxRecDepth 100000 in
set_option maxHeartbeats 4000000 in
theorem J_tie {p : Program} {l : Launch} {e : Env} {s : State} {m : MethodId} {below : List Frame} {meth : Method} {c : Code} {Q : State → Prop} {sa : Nat × Nat × (Nat → Int32)} {tb : Nat → Nat} {D : va_G} {cA cL : ClassId} {A : Nat → Prop} {x i : Nat} {cu dy co ti ro : Int32} {B G : Nat → Nat → Int32} {T : Nat → Int32} {kb : Nat} (C : LawC p s m c sa tb D cA cL A) (hk : kb < 4) (K : KT p l e s m below meth c Q sa D cA A x 305 (lvT sa x cu (ti - (tieS B kb ti + tieR B kb ti)) i) dy co (ti - (tieS B kb ti + tieR B kb ti)) ro (tieB B kb ti) G T) : KT p l e s m below meth c Q sa D cA A x 159 (lvT sa x cu ti i ++ [(6, .int (nI kb))]) dy co ti ro B G T := by
  obtain ⟨hx, hb, hml, hown, hts, hA, hE⟩ := id C
  intro Wd H locs ls hW hP hD hS hl
  obtain ⟨a, u, ch, v, w, a2, dy2, co2, ti2, ro2, u2, n2, B2, ch2, v2, nb2, G2, w2, T2, rfl⟩ := hW
  have hl : lv_has ls 14 [(0, .ref sa.1), (1, .ref x), (2, .int cu), (3, .int ti), (4, .int (nI i)), (6, .int (nI kb))] := hl
  refine lv_iload_n hx hb dL_law_159 rfl (lv_at hl 3 rfl) ?_
  refine lv_aload_n hx hb dL_law_160 rfl (lv_at hl 1 rfl) ?_
  refine lv_iload hx hb dL_law_161 (lv_at hl 5 rfl) ?_
  refine goI ([]) ([]) hP hD hS hA (rnV (rest := [.int ti]) (c_tie sa tb D cA cL l x a dy co ti ro u 4 B ch v 2 G w T a2 dy2 co2 ti2 ro2 u2 n2 B2 ch2 v2 nb2 G2 w2 T2 kb (show kb < 4 from by first | omega | assumption | decide) (show 4 ≤ 8 from by first | omega | assumption | decide)) ([]) ([]) hP hD hS hA hE ⟨hx, hb, hml, hown, hts⟩ (cwV 1 hts gL_law_X4_tie rfl rfl rfl (by decide +kernel) ⟨(Nat.le_of_ble_eq_true rfl), (Nat.le_of_ble_eq_true rfl)⟩) 4 0 rfl rfl rfl rfl hl.1 rfl (Nat.le_of_ble_eq_true rfl) dL_law_163 ⟨(Nat.le_of_ble_eq_true rfl), (Nat.le_of_ble_eq_true rfl)⟩) (fun _ => (show List.map Prod.fst _ = [x, a 0, a 1, u 0, u 1, u 2, u 3, u 4, u 5, u 6, u 7, u 8, a 2, v 0, v 1, v 2, v 3, v 4, a 3, w, a2 0, a2 1, u2 0, u2 1, u2 2, u2 3, u2 4, u2 5, u2 6, u2 7, u2 8, a2 2, v2 0, v2 1, v2 2, v2 3, v2 4, a2 3, w2] from rfl).trans (show [x, a 0, a 1, u 0, u 1, u 2, u 3, u 4, u 5, u 6, u 7, u 8, a 2, v 0, v 1, v 2, v 3, v 4, a 3, w, a2 0, a2 1, u2 0, u2 1, u2 2, u2 3, u2 4, u2 5, u2 6, u2 7, u2 8, a2 2, v2 0, v2 1, v2 2, v2 3, v2 4, a2 3, w2] = List.map Prod.fst _ from rfl)) (fun r_163 u_163 H locs hw_163 hP hD hS => ?_)
  have hP : va_P D vwCl (wX cA x a dy co (ti - (tieS B kb ti + tieR B kb ti)) ro u 4 (tieB B kb ti) ch v 2 G w T a2 dy2 co2 ti2 ro2 u2 n2 B2 ch2 v2 nb2 G2 w2 T2) H := hP
  have hD : va_D A (wX cA x a dy co (ti - (tieS B kb ti + tieR B kb ti)) ro u 4 (tieB B kb ti) ch v 2 G w T a2 dy2 co2 ti2 ro2 u2 n2 B2 ch2 v2 nb2 G2 w2 T2) := hD
  obtain rfl : r_163 = tieS B kb ti + tieR B kb ti := hw_163
  refine lv_isub hx hb dL_law_166 ?_
  refine lv_topi (fun z_1 hz_1 => ?_)
  refine lv_istore_n (lv' := [(3, .int z_1), (0, .ref sa.1), (1, .ref x), (2, .int cu), (4, .int (nI i)), (6, .int (nI kb))]) hx hb dL_law_167 rfl hl (by decide) rfl (fun ls hl => ?_)
  refine lv_goto (tgt := 305) hx hb dL_law_168 (by decide) ?_
  subst hz_1
  exact K _ H locs ls ⟨_, _, _, _, _, _, _, _, _, _, _, _, _, _, _, _, _, _, _, rfl⟩ hP hD hS (lv_sub hl [1, 2, 3, 0, 4] rfl)
set_option maxRecDepth 100000 in
set_option maxHeartbeats 4000000 in
theorem J_sail {p : Program} {l : Launch} {e : Env} {s : State} {m : MethodId} {below : List Frame} {meth : Method} {c : Code} {Q : State → Prop} {sa : Nat × Nat × (Nat → Int32)} {tb : Nat → Nat} {D : va_G} {cA cL : ClassId} {A : Nat → Prop} {x i : Nat} {cu dy co ti ro : Int32} {B G : Nat → Nat → Int32} {T : Nat → Int32} {kb : Nat} {xv : Int32} (C : LawC p s m c sa tb D cA cL A) (hi : i < 16) (hk : kb < 4) (hG : GS i cu co ti ro B G T) (K : KT p l e s m below meth c Q sa D cA A x 305 (lvT sa x cu ti i) (daysS 4 2 7 (dy, ro, B, sendG G (bel (xv >>> (5 &&& 31)) 2) (tellB B kb 0), T)).1 co ti (daysS 4 2 7 (dy, ro, B, sendG G (bel (xv >>> (5 &&& 31)) 2) (tellB B kb 0), T)).2.1 (ldB (daysS 4 2 7 (dy, ro, B, sendG G (bel (xv >>> (5 &&& 31)) 2) (tellB B kb 0), T)).2.2.1 (daysS 4 2 7 (dy, ro, B, sendG G (bel (xv >>> (5 &&& 31)) 2) (tellB B kb 0), T)).2.2.2.1 (bel (xv >>> (5 &&& 31)) 2) kb) (ldG (daysS 4 2 7 (dy, ro, B, sendG G (bel (xv >>> (5 &&& 31)) 2) (tellB B kb 0), T)).2.2.1 (daysS 4 2 7 (dy, ro, B, sendG G (bel (xv >>> (5 &&& 31)) 2) (tellB B kb 0), T)).2.2.2.1 (bel (xv >>> (5 &&& 31)) 2) kb) (daysS 4 2 7 (dy, ro, B, sendG G (bel (xv >>> (5 &&& 31)) 2) (tellB B kb 0), T)).2.2.2.2) : KT p l e s m below meth c Q sa D cA A x 184 (lvT sa x cu ti i ++ [(5, .int xv), (6, .int (nI kb))]) dy co ti ro B G T := by
  obtain ⟨hx, hb, hml, hown, hts, hA, hE⟩ := id C
  intro Wd H locs ls hW hP hD hS hl
  obtain ⟨a, u, ch, v, w, a2, dy2, co2, ti2, ro2, u2, n2, B2, ch2, v2, nb2, G2, w2, T2, rfl⟩ := hW
  have hl : lv_has ls 14 [(0, .ref sa.1), (1, .ref x), (2, .int cu), (3, .int ti), (4, .int (nI i)), (5, .int xv), (6, .int (nI kb))] := hl
  have hbb : bel (xv >>> (5 &&& 31)) 2 < 2 := bel_lt (by decide)
  refine lv_aload_n hx hb dL_law_184 rfl (lv_at hl 1 rfl) ?_
  refine lv_iload hx hb dL_law_185 (lv_at hl 5 rfl) ?_
  refine lv_iconst (v := 5) hx hb dL_law_187 (by decide) ?_
  refine lv_ishr hx hb dL_law_188 ?_
  refine lv_iconst (v := 2) hx hb dL_law_189 (by decide) ?_
  refine goI ([]) (wX cA x a dy co ti ro u 4 B ch v 2 G w T a2 dy2 co2 ti2 ro2 u2 n2 B2 ch2 v2 nb2 G2 w2 T2) hP hD hS hA (rnS (rest := [.ref x]) (c_below sa tb D cA cL l (xv >>> (5 &&& 31)) 2 (show 0 < 2 from by first | omega | assumption | decide) (show 2 < 2 ^ 31 from by first | omega | assumption | decide)) ([]) (wX cA x a dy co ti ro u 4 B ch v 2 G w T a2 dy2 co2 ti2 ro2 u2 n2 B2 ch2 v2 nb2 G2 w2 T2) hP hD hS hA hE ⟨hx, hb, hml, hown, hts⟩ (va_cwS 2 hts gL_law_L_below rfl rfl rfl (by decide +kernel) ⟨(Nat.le_of_ble_eq_true rfl), (Nat.le_of_ble_eq_true rfl)⟩) rfl hl.1 rfl (Nat.le_of_ble_eq_true rfl) dL_law_190 ⟨(Nat.le_of_ble_eq_true rfl), (Nat.le_of_ble_eq_true rfl)⟩) (fun _ => rfl) (fun r_190 u_190 H locs hw_190 hP hD hS => ?_)
  have hP : va_P D vwCl (wX cA x a dy co ti ro u 4 B ch v 2 G w T a2 dy2 co2 ti2 ro2 u2 n2 B2 ch2 v2 nb2 G2 w2 T2) H := hP
  have hD : va_D A (wX cA x a dy co ti ro u 4 B ch v 2 G w T a2 dy2 co2 ti2 ro2 u2 n2 B2 ch2 v2 nb2 G2 w2 T2) := hD
  obtain rfl : r_190 = nI (bel (xv >>> (5 &&& 31)) 2) := hw_190
  refine lv_aload_n hx hb dL_law_193 rfl (lv_at hl 1 rfl) ?_
  refine lv_iload hx hb dL_law_194 (lv_at hl 6 rfl) ?_
  refine lv_iconst (v := 0) hx hb dL_law_196 (by decide) ?_
  refine goI ([]) ([]) hP hD hS hA (rnV (rest := [.int (nI (bel (xv >>> (5 &&& 31)) 2)), .ref x]) (c_about sa tb D cA cL l x a dy co ti ro u 4 B ch v 2 G w T a2 dy2 co2 ti2 ro2 u2 n2 B2 ch2 v2 nb2 G2 w2 T2 kb 0 (show kb < 4 from by first | omega | assumption | decide) (show 4 ≤ 8 from by first | omega | assumption | decide) (show 0 < 10 from by first | omega | assumption | decide)) ([]) ([]) hP hD hS hA hE ⟨hx, hb, hml, hown, hts⟩ (cwV 2 hts gL_law_X4_about rfl rfl rfl (by decide +kernel) ⟨(Nat.le_of_ble_eq_true rfl), (Nat.le_of_ble_eq_true rfl)⟩) 4 0 rfl rfl rfl rfl hl.1 rfl (Nat.le_of_ble_eq_true rfl) dL_law_197 ⟨(Nat.le_of_ble_eq_true rfl), (Nat.le_of_ble_eq_true rfl)⟩) (fun _ => rfl) (fun r_197 u_197 H locs hw_197 hP hD hS => ?_)
  have hP : va_P D vwCl (wX cA x a dy co ti ro u 4 B ch v 2 G w T a2 dy2 co2 ti2 ro2 u2 n2 B2 ch2 v2 nb2 G2 w2 T2) H := hP
  have hD : va_D A (wX cA x a dy co ti ro u 4 B ch v 2 G w T a2 dy2 co2 ti2 ro2 u2 n2 B2 ch2 v2 nb2 G2 w2 T2) := hD
  obtain rfl : r_197 = tellB B kb 0 := hw_197
  refine goI ([]) ([]) hP hD hS hA (rnV (rest := []) (c_sail sa tb D cA cL l x a dy co ti ro u 4 B ch v 2 G w T a2 dy2 co2 ti2 ro2 u2 n2 B2 ch2 v2 nb2 G2 w2 T2 (bel (xv >>> (5 &&& 31)) 2) (tellB B kb 0) (show (bel (xv >>> (5 &&& 31)) 2) < 2 from by first | omega | assumption | decide) (show 2 ≤ 3 from by first | omega | assumption | decide) (show ¬ (tellB B kb 0) < 0 from (hG.1.1 kb hk).a0) (show (tellB B kb 0) ≤ 30 from (hG.1.1 kb hk).a30)) ([]) ([]) hP hD hS hA hE ⟨hx, hb, hml, hown, hts⟩ (cwV 2 hts gL_law_X4_sail rfl rfl rfl (by decide +kernel) ⟨(Nat.le_of_ble_eq_true rfl), (Nat.le_of_ble_eq_true rfl)⟩) 4 0 rfl rfl rfl rfl hl.1 rfl (Nat.le_of_ble_eq_true rfl) dL_law_200 ⟨(Nat.le_of_ble_eq_true rfl), (Nat.le_of_ble_eq_true rfl)⟩) (fun _ => (show List.map Prod.fst _ = [x, a 0, a 1, u 0, u 1, u 2, u 3, u 4, u 5, u 6, u 7, u 8, a 2, v 0, v 1, v 2, v 3, v 4, a 3, w, a2 0, a2 1, u2 0, u2 1, u2 2, u2 3, u2 4, u2 5, u2 6, u2 7, u2 8, a2 2, v2 0, v2 1, v2 2, v2 3, v2 4, a2 3, w2] from rfl).trans (show [x, a 0, a 1, u 0, u 1, u 2, u 3, u 4, u 5, u 6, u 7, u 8, a 2, v 0, v 1, v 2, v 3, v 4, a 3, w, a2 0, a2 1, u2 0, u2 1, u2 2, u2 3, u2 4, u2 5, u2 6, u2 7, u2 8, a2 2, v2 0, v2 1, v2 2, v2 3, v2 4, a2 3, w2] = List.map Prod.fst _ from rfl)) (fun r_200 u_200 H locs hw_200 hP hD hS => ?_)
  have hP : va_P D vwCl (wX cA x a dy co ti ro u 4 B ch v 2 (sendG G (bel (xv >>> (5 &&& 31)) 2) (tellB B kb 0)) w T a2 dy2 co2 ti2 ro2 u2 n2 B2 ch2 v2 nb2 G2 w2 T2) H := hP
  have hD : va_D A (wX cA x a dy co ti ro u 4 B ch v 2 (sendG G (bel (xv >>> (5 &&& 31)) 2) (tellB B kb 0)) w T a2 dy2 co2 ti2 ro2 u2 n2 B2 ch2 v2 nb2 G2 w2 T2) := hD
  obtain rfl : r_200 = sendD G (bel (xv >>> (5 &&& 31)) 2) (tellB B kb 0) := hw_200
  refine lv_pop hx hb dL_law_203 rfl ?_
  refine lv_aload_n hx hb dL_law_204 rfl (lv_at hl 1 rfl) ?_
  refine lv_bipush (v := 7) hx hb dL_law_205 (by decide) ?_
  refine goI ([]) ([]) hP hD hS hA (rnV (rest := []) (c_pass sa tb D cA cL l x a dy co ti ro u 4 B ch v 2 (sendG G (bel (xv >>> (5 &&& 31)) 2) (tellB B kb 0)) w T a2 dy2 co2 ti2 ro2 u2 n2 B2 ch2 v2 nb2 G2 w2 T2 7 (show 4 ≤ 8 from by first | omega | assumption | decide) (show 2 ≤ 3 from by first | omega | assumption | decide) (show 1 ≤ 7 from by first | omega | assumption | decide) (show 7 ≤ 200 from by first | omega | assumption | decide)) ([]) ([]) hP hD hS hA hE ⟨hx, hb, hml, hown, hts⟩ (cwV 1 hts gL_law_X4_pass rfl rfl rfl (by decide +kernel) ⟨(Nat.le_of_ble_eq_true rfl), (Nat.le_of_ble_eq_true rfl)⟩) 4 0 rfl rfl rfl rfl hl.1 rfl (Nat.le_of_ble_eq_true rfl) dL_law_207 ⟨(Nat.le_of_ble_eq_true rfl), (Nat.le_of_ble_eq_true rfl)⟩) (fun _ => (show List.map Prod.fst _ = [x, a 0, a 1, u 0, u 1, u 2, u 3, u 4, u 5, u 6, u 7, u 8, a 2, v 0, v 1, v 2, v 3, v 4, a 3, w, a2 0, a2 1, u2 0, u2 1, u2 2, u2 3, u2 4, u2 5, u2 6, u2 7, u2 8, a2 2, v2 0, v2 1, v2 2, v2 3, v2 4, a2 3, w2] from rfl).trans (show [x, a 0, a 1, u 0, u 1, u 2, u 3, u 4, u 5, u 6, u 7, u 8, a 2, v 0, v 1, v 2, v 3, v 4, a 3, w, a2 0, a2 1, u2 0, u2 1, u2 2, u2 3, u2 4, u2 5, u2 6, u2 7, u2 8, a2 2, v2 0, v2 1, v2 2, v2 3, v2 4, a2 3, w2] = List.map Prod.fst _ from rfl)) (fun r_207 u_207 H locs hw_207 hP hD hS => ?_)
  have hP : va_P D vwCl (wX cA x a ((daysS 4 2 7 (dy, ro, B, (sendG G (bel (xv >>> (5 &&& 31)) 2) (tellB B kb 0)), T)).1) co ti ((daysS 4 2 7 (dy, ro, B, (sendG G (bel (xv >>> (5 &&& 31)) 2) (tellB B kb 0)), T)).2.1) u 4 ((daysS 4 2 7 (dy, ro, B, (sendG G (bel (xv >>> (5 &&& 31)) 2) (tellB B kb 0)), T)).2.2.1) u_207 v 2 ((daysS 4 2 7 (dy, ro, B, (sendG G (bel (xv >>> (5 &&& 31)) 2) (tellB B kb 0)), T)).2.2.2.1) w ((daysS 4 2 7 (dy, ro, B, (sendG G (bel (xv >>> (5 &&& 31)) 2) (tellB B kb 0)), T)).2.2.2.2) a2 dy2 co2 ti2 ro2 u2 n2 B2 ch2 v2 nb2 G2 w2 T2) H := hP
  have hD : va_D A (wX cA x a ((daysS 4 2 7 (dy, ro, B, (sendG G (bel (xv >>> (5 &&& 31)) 2) (tellB B kb 0)), T)).1) co ti ((daysS 4 2 7 (dy, ro, B, (sendG G (bel (xv >>> (5 &&& 31)) 2) (tellB B kb 0)), T)).2.1) u 4 ((daysS 4 2 7 (dy, ro, B, (sendG G (bel (xv >>> (5 &&& 31)) 2) (tellB B kb 0)), T)).2.2.1) u_207 v 2 ((daysS 4 2 7 (dy, ro, B, (sendG G (bel (xv >>> (5 &&& 31)) 2) (tellB B kb 0)), T)).2.2.2.1) w ((daysS 4 2 7 (dy, ro, B, (sendG G (bel (xv >>> (5 &&& 31)) 2) (tellB B kb 0)), T)).2.2.2.2) a2 dy2 co2 ti2 ro2 u2 n2 B2 ch2 v2 nb2 G2 w2 T2) := hD
  obtain rfl : r_207 = (daysS 4 2 7 (dy, ro, B, (sendG G (bel (xv >>> (5 &&& 31)) 2) (tellB B kb 0)), T)).2.1 - ro := hw_207
  refine lv_pop hx hb dL_law_210 rfl ?_
  refine lv_aload_n hx hb dL_law_211 rfl (lv_at hl 1 rfl) ?_
  refine lv_iload hx hb dL_law_212 (lv_at hl 5 rfl) ?_
  refine lv_iconst (v := 5) hx hb dL_law_214 (by decide) ?_
  refine lv_ishr hx hb dL_law_215 ?_
  refine lv_iconst (v := 2) hx hb dL_law_216 (by decide) ?_
  refine goI ([]) (wX cA x a ((daysS 4 2 7 (dy, ro, B, (sendG G (bel (xv >>> (5 &&& 31)) 2) (tellB B kb 0)), T)).1) co ti ((daysS 4 2 7 (dy, ro, B, (sendG G (bel (xv >>> (5 &&& 31)) 2) (tellB B kb 0)), T)).2.1) u 4 ((daysS 4 2 7 (dy, ro, B, (sendG G (bel (xv >>> (5 &&& 31)) 2) (tellB B kb 0)), T)).2.2.1) u_207 v 2 ((daysS 4 2 7 (dy, ro, B, (sendG G (bel (xv >>> (5 &&& 31)) 2) (tellB B kb 0)), T)).2.2.2.1) w ((daysS 4 2 7 (dy, ro, B, (sendG G (bel (xv >>> (5 &&& 31)) 2) (tellB B kb 0)), T)).2.2.2.2) a2 dy2 co2 ti2 ro2 u2 n2 B2 ch2 v2 nb2 G2 w2 T2) hP hD hS hA (rnS (rest := [.ref x]) (c_below sa tb D cA cL l (xv >>> (5 &&& 31)) 2 (show 0 < 2 from by first | omega | assumption | decide) (show 2 < 2 ^ 31 from by first | omega | assumption | decide)) ([]) (wX cA x a ((daysS 4 2 7 (dy, ro, B, (sendG G (bel (xv >>> (5 &&& 31)) 2) (tellB B kb 0)), T)).1) co ti ((daysS 4 2 7 (dy, ro, B, (sendG G (bel (xv >>> (5 &&& 31)) 2) (tellB B kb 0)), T)).2.1) u 4 ((daysS 4 2 7 (dy, ro, B, (sendG G (bel (xv >>> (5 &&& 31)) 2) (tellB B kb 0)), T)).2.2.1) u_207 v 2 ((daysS 4 2 7 (dy, ro, B, (sendG G (bel (xv >>> (5 &&& 31)) 2) (tellB B kb 0)), T)).2.2.2.1) w ((daysS 4 2 7 (dy, ro, B, (sendG G (bel (xv >>> (5 &&& 31)) 2) (tellB B kb 0)), T)).2.2.2.2) a2 dy2 co2 ti2 ro2 u2 n2 B2 ch2 v2 nb2 G2 w2 T2) hP hD hS hA hE ⟨hx, hb, hml, hown, hts⟩ (va_cwS 2 hts gL_law_L_below rfl rfl rfl (by decide +kernel) ⟨(Nat.le_of_ble_eq_true rfl), (Nat.le_of_ble_eq_true rfl)⟩) rfl hl.1 rfl (Nat.le_of_ble_eq_true rfl) dL_law_217 ⟨(Nat.le_of_ble_eq_true rfl), (Nat.le_of_ble_eq_true rfl)⟩) (fun _ => rfl) (fun r_217 u_217 H locs hw_217 hP hD hS => ?_)
  have hP : va_P D vwCl (wX cA x a ((daysS 4 2 7 (dy, ro, B, (sendG G (bel (xv >>> (5 &&& 31)) 2) (tellB B kb 0)), T)).1) co ti ((daysS 4 2 7 (dy, ro, B, (sendG G (bel (xv >>> (5 &&& 31)) 2) (tellB B kb 0)), T)).2.1) u 4 ((daysS 4 2 7 (dy, ro, B, (sendG G (bel (xv >>> (5 &&& 31)) 2) (tellB B kb 0)), T)).2.2.1) u_207 v 2 ((daysS 4 2 7 (dy, ro, B, (sendG G (bel (xv >>> (5 &&& 31)) 2) (tellB B kb 0)), T)).2.2.2.1) w ((daysS 4 2 7 (dy, ro, B, (sendG G (bel (xv >>> (5 &&& 31)) 2) (tellB B kb 0)), T)).2.2.2.2) a2 dy2 co2 ti2 ro2 u2 n2 B2 ch2 v2 nb2 G2 w2 T2) H := hP
  have hD : va_D A (wX cA x a ((daysS 4 2 7 (dy, ro, B, (sendG G (bel (xv >>> (5 &&& 31)) 2) (tellB B kb 0)), T)).1) co ti ((daysS 4 2 7 (dy, ro, B, (sendG G (bel (xv >>> (5 &&& 31)) 2) (tellB B kb 0)), T)).2.1) u 4 ((daysS 4 2 7 (dy, ro, B, (sendG G (bel (xv >>> (5 &&& 31)) 2) (tellB B kb 0)), T)).2.2.1) u_207 v 2 ((daysS 4 2 7 (dy, ro, B, (sendG G (bel (xv >>> (5 &&& 31)) 2) (tellB B kb 0)), T)).2.2.2.1) w ((daysS 4 2 7 (dy, ro, B, (sendG G (bel (xv >>> (5 &&& 31)) 2) (tellB B kb 0)), T)).2.2.2.2) a2 dy2 co2 ti2 ro2 u2 n2 B2 ch2 v2 nb2 G2 w2 T2) := hD
  obtain rfl : r_217 = nI (bel (xv >>> (5 &&& 31)) 2) := hw_217
  refine lv_iconst (v := 0) hx hb dL_law_220 (by decide) ?_
  refine goI ([]) ([]) hP hD hS hA (rnV (rest := []) (c_told sa tb D cA cL l x a ((daysS 4 2 7 (dy, ro, B, (sendG G (bel (xv >>> (5 &&& 31)) 2) (tellB B kb 0)), T)).1) co ti ((daysS 4 2 7 (dy, ro, B, (sendG G (bel (xv >>> (5 &&& 31)) 2) (tellB B kb 0)), T)).2.1) u 4 ((daysS 4 2 7 (dy, ro, B, (sendG G (bel (xv >>> (5 &&& 31)) 2) (tellB B kb 0)), T)).2.2.1) u_207 v 2 ((daysS 4 2 7 (dy, ro, B, (sendG G (bel (xv >>> (5 &&& 31)) 2) (tellB B kb 0)), T)).2.2.2.1) w ((daysS 4 2 7 (dy, ro, B, (sendG G (bel (xv >>> (5 &&& 31)) 2) (tellB B kb 0)), T)).2.2.2.2) a2 dy2 co2 ti2 ro2 u2 n2 B2 ch2 v2 nb2 G2 w2 T2 (bel (xv >>> (5 &&& 31)) 2) 0 (show (bel (xv >>> (5 &&& 31)) 2) < 2 from by first | omega | assumption | decide) (show 2 ≤ 3 from by first | omega | assumption | decide) (show 0 < 6 from by first | omega | assumption | decide)) ([]) ([]) hP hD hS hA hE ⟨hx, hb, hml, hown, hts⟩ (cwV 2 hts gL_law_X4_told rfl rfl rfl (by decide +kernel) ⟨(Nat.le_of_ble_eq_true rfl), (Nat.le_of_ble_eq_true rfl)⟩) 4 0 rfl rfl rfl rfl hl.1 rfl (Nat.le_of_ble_eq_true rfl) dL_law_221 ⟨(Nat.le_of_ble_eq_true rfl), (Nat.le_of_ble_eq_true rfl)⟩) (fun _ => rfl) (fun r_221 u_221 H locs hw_221 hP hD hS => ?_)
  have hP : va_P D vwCl (wX cA x a ((daysS 4 2 7 (dy, ro, B, (sendG G (bel (xv >>> (5 &&& 31)) 2) (tellB B kb 0)), T)).1) co ti ((daysS 4 2 7 (dy, ro, B, (sendG G (bel (xv >>> (5 &&& 31)) 2) (tellB B kb 0)), T)).2.1) u 4 ((daysS 4 2 7 (dy, ro, B, (sendG G (bel (xv >>> (5 &&& 31)) 2) (tellB B kb 0)), T)).2.2.1) u_207 v 2 ((daysS 4 2 7 (dy, ro, B, (sendG G (bel (xv >>> (5 &&& 31)) 2) (tellB B kb 0)), T)).2.2.2.1) w ((daysS 4 2 7 (dy, ro, B, (sendG G (bel (xv >>> (5 &&& 31)) 2) (tellB B kb 0)), T)).2.2.2.2) a2 dy2 co2 ti2 ro2 u2 n2 B2 ch2 v2 nb2 G2 w2 T2) H := hP
  have hD : va_D A (wX cA x a ((daysS 4 2 7 (dy, ro, B, (sendG G (bel (xv >>> (5 &&& 31)) 2) (tellB B kb 0)), T)).1) co ti ((daysS 4 2 7 (dy, ro, B, (sendG G (bel (xv >>> (5 &&& 31)) 2) (tellB B kb 0)), T)).2.1) u 4 ((daysS 4 2 7 (dy, ro, B, (sendG G (bel (xv >>> (5 &&& 31)) 2) (tellB B kb 0)), T)).2.2.1) u_207 v 2 ((daysS 4 2 7 (dy, ro, B, (sendG G (bel (xv >>> (5 &&& 31)) 2) (tellB B kb 0)), T)).2.2.2.1) w ((daysS 4 2 7 (dy, ro, B, (sendG G (bel (xv >>> (5 &&& 31)) 2) (tellB B kb 0)), T)).2.2.2.2) a2 dy2 co2 ti2 ro2 u2 n2 B2 ch2 v2 nb2 G2 w2 T2) := hD
  obtain rfl : r_221 = tellG ((daysS 4 2 7 (dy, ro, B, (sendG G (bel (xv >>> (5 &&& 31)) 2) (tellB B kb 0)), T)).2.2.2.1) (bel (xv >>> (5 &&& 31)) 2) 0 := hw_221
  refine lv_aload_n hx hb dL_law_224 rfl (lv_at hl 1 rfl) ?_
  refine lv_iload hx hb dL_law_225 (lv_at hl 6 rfl) ?_
  refine lv_iconst (v := 0) hx hb dL_law_227 (by decide) ?_
  refine goI ([]) ([]) hP hD hS hA (rnV (rest := [.int (tellG ((daysS 4 2 7 (dy, ro, B, (sendG G (bel (xv >>> (5 &&& 31)) 2) (tellB B kb 0)), T)).2.2.2.1) (bel (xv >>> (5 &&& 31)) 2) 0)]) (c_about sa tb D cA cL l x a ((daysS 4 2 7 (dy, ro, B, (sendG G (bel (xv >>> (5 &&& 31)) 2) (tellB B kb 0)), T)).1) co ti ((daysS 4 2 7 (dy, ro, B, (sendG G (bel (xv >>> (5 &&& 31)) 2) (tellB B kb 0)), T)).2.1) u 4 ((daysS 4 2 7 (dy, ro, B, (sendG G (bel (xv >>> (5 &&& 31)) 2) (tellB B kb 0)), T)).2.2.1) u_207 v 2 ((daysS 4 2 7 (dy, ro, B, (sendG G (bel (xv >>> (5 &&& 31)) 2) (tellB B kb 0)), T)).2.2.2.1) w ((daysS 4 2 7 (dy, ro, B, (sendG G (bel (xv >>> (5 &&& 31)) 2) (tellB B kb 0)), T)).2.2.2.2) a2 dy2 co2 ti2 ro2 u2 n2 B2 ch2 v2 nb2 G2 w2 T2 kb 0 (show kb < 4 from by first | omega | assumption | decide) (show 4 ≤ 8 from by first | omega | assumption | decide) (show 0 < 10 from by first | omega | assumption | decide)) ([]) ([]) hP hD hS hA hE ⟨hx, hb, hml, hown, hts⟩ (cwV 2 hts gL_law_X4_about rfl rfl rfl (by decide +kernel) ⟨(Nat.le_of_ble_eq_true rfl), (Nat.le_of_ble_eq_true rfl)⟩) 4 0 rfl rfl rfl rfl hl.1 rfl (Nat.le_of_ble_eq_true rfl) dL_law_228 ⟨(Nat.le_of_ble_eq_true rfl), (Nat.le_of_ble_eq_true rfl)⟩) (fun _ => rfl) (fun r_228 u_228 H locs hw_228 hP hD hS => ?_)
  have hP : va_P D vwCl (wX cA x a ((daysS 4 2 7 (dy, ro, B, (sendG G (bel (xv >>> (5 &&& 31)) 2) (tellB B kb 0)), T)).1) co ti ((daysS 4 2 7 (dy, ro, B, (sendG G (bel (xv >>> (5 &&& 31)) 2) (tellB B kb 0)), T)).2.1) u 4 ((daysS 4 2 7 (dy, ro, B, (sendG G (bel (xv >>> (5 &&& 31)) 2) (tellB B kb 0)), T)).2.2.1) u_207 v 2 ((daysS 4 2 7 (dy, ro, B, (sendG G (bel (xv >>> (5 &&& 31)) 2) (tellB B kb 0)), T)).2.2.2.1) w ((daysS 4 2 7 (dy, ro, B, (sendG G (bel (xv >>> (5 &&& 31)) 2) (tellB B kb 0)), T)).2.2.2.2) a2 dy2 co2 ti2 ro2 u2 n2 B2 ch2 v2 nb2 G2 w2 T2) H := hP
  have hD : va_D A (wX cA x a ((daysS 4 2 7 (dy, ro, B, (sendG G (bel (xv >>> (5 &&& 31)) 2) (tellB B kb 0)), T)).1) co ti ((daysS 4 2 7 (dy, ro, B, (sendG G (bel (xv >>> (5 &&& 31)) 2) (tellB B kb 0)), T)).2.1) u 4 ((daysS 4 2 7 (dy, ro, B, (sendG G (bel (xv >>> (5 &&& 31)) 2) (tellB B kb 0)), T)).2.2.1) u_207 v 2 ((daysS 4 2 7 (dy, ro, B, (sendG G (bel (xv >>> (5 &&& 31)) 2) (tellB B kb 0)), T)).2.2.2.1) w ((daysS 4 2 7 (dy, ro, B, (sendG G (bel (xv >>> (5 &&& 31)) 2) (tellB B kb 0)), T)).2.2.2.2) a2 dy2 co2 ti2 ro2 u2 n2 B2 ch2 v2 nb2 G2 w2 T2) := hD
  obtain rfl : r_228 = tellB ((daysS 4 2 7 (dy, ro, B, (sendG G (bel (xv >>> (5 &&& 31)) 2) (tellB B kb 0)), T)).2.2.1) kb 0 := hw_228
  refine lv_icmp_ne (tgt := 251) hx hb dL_law_231 (by decide) (fun c_231 => False.elim (by exact c_231 (hG.arr hi hbb hk))) (fun c_231 => ?_)
  refine lv_aload_n hx hb dL_law_234 rfl (lv_at hl 1 rfl) ?_
  refine lv_iload hx hb dL_law_235 (lv_at hl 5 rfl) ?_
  refine lv_iconst (v := 5) hx hb dL_law_237 (by decide) ?_
  refine lv_ishr hx hb dL_law_238 ?_
  refine lv_iconst (v := 2) hx hb dL_law_239 (by decide) ?_
  refine goI ([]) (wX cA x a ((daysS 4 2 7 (dy, ro, B, (sendG G (bel (xv >>> (5 &&& 31)) 2) (tellB B kb 0)), T)).1) co ti ((daysS 4 2 7 (dy, ro, B, (sendG G (bel (xv >>> (5 &&& 31)) 2) (tellB B kb 0)), T)).2.1) u 4 ((daysS 4 2 7 (dy, ro, B, (sendG G (bel (xv >>> (5 &&& 31)) 2) (tellB B kb 0)), T)).2.2.1) u_207 v 2 ((daysS 4 2 7 (dy, ro, B, (sendG G (bel (xv >>> (5 &&& 31)) 2) (tellB B kb 0)), T)).2.2.2.1) w ((daysS 4 2 7 (dy, ro, B, (sendG G (bel (xv >>> (5 &&& 31)) 2) (tellB B kb 0)), T)).2.2.2.2) a2 dy2 co2 ti2 ro2 u2 n2 B2 ch2 v2 nb2 G2 w2 T2) hP hD hS hA (rnS (rest := [.ref x]) (c_below sa tb D cA cL l (xv >>> (5 &&& 31)) 2 (show 0 < 2 from by first | omega | assumption | decide) (show 2 < 2 ^ 31 from by first | omega | assumption | decide)) ([]) (wX cA x a ((daysS 4 2 7 (dy, ro, B, (sendG G (bel (xv >>> (5 &&& 31)) 2) (tellB B kb 0)), T)).1) co ti ((daysS 4 2 7 (dy, ro, B, (sendG G (bel (xv >>> (5 &&& 31)) 2) (tellB B kb 0)), T)).2.1) u 4 ((daysS 4 2 7 (dy, ro, B, (sendG G (bel (xv >>> (5 &&& 31)) 2) (tellB B kb 0)), T)).2.2.1) u_207 v 2 ((daysS 4 2 7 (dy, ro, B, (sendG G (bel (xv >>> (5 &&& 31)) 2) (tellB B kb 0)), T)).2.2.2.1) w ((daysS 4 2 7 (dy, ro, B, (sendG G (bel (xv >>> (5 &&& 31)) 2) (tellB B kb 0)), T)).2.2.2.2) a2 dy2 co2 ti2 ro2 u2 n2 B2 ch2 v2 nb2 G2 w2 T2) hP hD hS hA hE ⟨hx, hb, hml, hown, hts⟩ (va_cwS 2 hts gL_law_L_below rfl rfl rfl (by decide +kernel) ⟨(Nat.le_of_ble_eq_true rfl), (Nat.le_of_ble_eq_true rfl)⟩) rfl hl.1 rfl (Nat.le_of_ble_eq_true rfl) dL_law_240 ⟨(Nat.le_of_ble_eq_true rfl), (Nat.le_of_ble_eq_true rfl)⟩) (fun _ => rfl) (fun r_240 u_240 H locs hw_240 hP hD hS => ?_)
  have hP : va_P D vwCl (wX cA x a ((daysS 4 2 7 (dy, ro, B, (sendG G (bel (xv >>> (5 &&& 31)) 2) (tellB B kb 0)), T)).1) co ti ((daysS 4 2 7 (dy, ro, B, (sendG G (bel (xv >>> (5 &&& 31)) 2) (tellB B kb 0)), T)).2.1) u 4 ((daysS 4 2 7 (dy, ro, B, (sendG G (bel (xv >>> (5 &&& 31)) 2) (tellB B kb 0)), T)).2.2.1) u_207 v 2 ((daysS 4 2 7 (dy, ro, B, (sendG G (bel (xv >>> (5 &&& 31)) 2) (tellB B kb 0)), T)).2.2.2.1) w ((daysS 4 2 7 (dy, ro, B, (sendG G (bel (xv >>> (5 &&& 31)) 2) (tellB B kb 0)), T)).2.2.2.2) a2 dy2 co2 ti2 ro2 u2 n2 B2 ch2 v2 nb2 G2 w2 T2) H := hP
  have hD : va_D A (wX cA x a ((daysS 4 2 7 (dy, ro, B, (sendG G (bel (xv >>> (5 &&& 31)) 2) (tellB B kb 0)), T)).1) co ti ((daysS 4 2 7 (dy, ro, B, (sendG G (bel (xv >>> (5 &&& 31)) 2) (tellB B kb 0)), T)).2.1) u 4 ((daysS 4 2 7 (dy, ro, B, (sendG G (bel (xv >>> (5 &&& 31)) 2) (tellB B kb 0)), T)).2.2.1) u_207 v 2 ((daysS 4 2 7 (dy, ro, B, (sendG G (bel (xv >>> (5 &&& 31)) 2) (tellB B kb 0)), T)).2.2.2.1) w ((daysS 4 2 7 (dy, ro, B, (sendG G (bel (xv >>> (5 &&& 31)) 2) (tellB B kb 0)), T)).2.2.2.2) a2 dy2 co2 ti2 ro2 u2 n2 B2 ch2 v2 nb2 G2 w2 T2) := hD
  obtain rfl : r_240 = nI (bel (xv >>> (5 &&& 31)) 2) := hw_240
  refine lv_iload hx hb dL_law_243 (lv_at hl 6 rfl) ?_
  refine goI ([]) ([]) hP hD hS hA (rnV (rest := []) (c_load sa tb D cA cL l x a ((daysS 4 2 7 (dy, ro, B, (sendG G (bel (xv >>> (5 &&& 31)) 2) (tellB B kb 0)), T)).1) co ti ((daysS 4 2 7 (dy, ro, B, (sendG G (bel (xv >>> (5 &&& 31)) 2) (tellB B kb 0)), T)).2.1) u 4 ((daysS 4 2 7 (dy, ro, B, (sendG G (bel (xv >>> (5 &&& 31)) 2) (tellB B kb 0)), T)).2.2.1) u_207 v 2 ((daysS 4 2 7 (dy, ro, B, (sendG G (bel (xv >>> (5 &&& 31)) 2) (tellB B kb 0)), T)).2.2.2.1) w ((daysS 4 2 7 (dy, ro, B, (sendG G (bel (xv >>> (5 &&& 31)) 2) (tellB B kb 0)), T)).2.2.2.2) a2 dy2 co2 ti2 ro2 u2 n2 B2 ch2 v2 nb2 G2 w2 T2 (bel (xv >>> (5 &&& 31)) 2) kb (show (bel (xv >>> (5 &&& 31)) 2) < 2 from by first | omega | assumption | decide) (show kb < 4 from by first | omega | assumption | decide) (show 4 ≤ 8 from by first | omega | assumption | decide) (show 2 ≤ 3 from by first | omega | assumption | decide) (show ((daysS 4 2 7 (dy, ro, B, (sendG G (bel (xv >>> (5 &&& 31)) 2) (tellB B kb 0)), T)).2.2.2.1) 0 (bel (xv >>> (5 &&& 31)) 2) = ((daysS 4 2 7 (dy, ro, B, (sendG G (bel (xv >>> (5 &&& 31)) 2) (tellB B kb 0)), T)).2.2.1) 0 kb from hG.arr hi hbb hk)) ([]) ([]) hP hD hS hA hE ⟨hx, hb, hml, hown, hts⟩ (cwV 2 hts gL_law_X4_load rfl rfl rfl (by decide +kernel) ⟨(Nat.le_of_ble_eq_true rfl), (Nat.le_of_ble_eq_true rfl)⟩) 4 0 rfl rfl rfl rfl hl.1 rfl (Nat.le_of_ble_eq_true rfl) dL_law_245 ⟨(Nat.le_of_ble_eq_true rfl), (Nat.le_of_ble_eq_true rfl)⟩) (fun _ => (show List.map Prod.fst _ = [x, a 0, a 1, u 0, u 1, u 2, u 3, u 4, u 5, u 6, u 7, u 8, a 2, v 0, v 1, v 2, v 3, v 4, a 3, w, a2 0, a2 1, u2 0, u2 1, u2 2, u2 3, u2 4, u2 5, u2 6, u2 7, u2 8, a2 2, v2 0, v2 1, v2 2, v2 3, v2 4, a2 3, w2] from rfl).trans (show [x, a 0, a 1, u 0, u 1, u 2, u 3, u 4, u 5, u 6, u 7, u 8, a 2, v 0, v 1, v 2, v 3, v 4, a 3, w, a2 0, a2 1, u2 0, u2 1, u2 2, u2 3, u2 4, u2 5, u2 6, u2 7, u2 8, a2 2, v2 0, v2 1, v2 2, v2 3, v2 4, a2 3, w2] = List.map Prod.fst _ from rfl)) (fun r_245 u_245 H locs hw_245 hP hD hS => ?_)
  have hP : va_P D vwCl (wX cA x a ((daysS 4 2 7 (dy, ro, B, (sendG G (bel (xv >>> (5 &&& 31)) 2) (tellB B kb 0)), T)).1) co ti ((daysS 4 2 7 (dy, ro, B, (sendG G (bel (xv >>> (5 &&& 31)) 2) (tellB B kb 0)), T)).2.1) u 4 (ldB ((daysS 4 2 7 (dy, ro, B, (sendG G (bel (xv >>> (5 &&& 31)) 2) (tellB B kb 0)), T)).2.2.1) ((daysS 4 2 7 (dy, ro, B, (sendG G (bel (xv >>> (5 &&& 31)) 2) (tellB B kb 0)), T)).2.2.2.1) (bel (xv >>> (5 &&& 31)) 2) kb) u_207 v 2 (ldG ((daysS 4 2 7 (dy, ro, B, (sendG G (bel (xv >>> (5 &&& 31)) 2) (tellB B kb 0)), T)).2.2.1) ((daysS 4 2 7 (dy, ro, B, (sendG G (bel (xv >>> (5 &&& 31)) 2) (tellB B kb 0)), T)).2.2.2.1) (bel (xv >>> (5 &&& 31)) 2) kb) w ((daysS 4 2 7 (dy, ro, B, (sendG G (bel (xv >>> (5 &&& 31)) 2) (tellB B kb 0)), T)).2.2.2.2) a2 dy2 co2 ti2 ro2 u2 n2 B2 ch2 v2 nb2 G2 w2 T2) H := hP
  have hD : va_D A (wX cA x a ((daysS 4 2 7 (dy, ro, B, (sendG G (bel (xv >>> (5 &&& 31)) 2) (tellB B kb 0)), T)).1) co ti ((daysS 4 2 7 (dy, ro, B, (sendG G (bel (xv >>> (5 &&& 31)) 2) (tellB B kb 0)), T)).2.1) u 4 (ldB ((daysS 4 2 7 (dy, ro, B, (sendG G (bel (xv >>> (5 &&& 31)) 2) (tellB B kb 0)), T)).2.2.1) ((daysS 4 2 7 (dy, ro, B, (sendG G (bel (xv >>> (5 &&& 31)) 2) (tellB B kb 0)), T)).2.2.2.1) (bel (xv >>> (5 &&& 31)) 2) kb) u_207 v 2 (ldG ((daysS 4 2 7 (dy, ro, B, (sendG G (bel (xv >>> (5 &&& 31)) 2) (tellB B kb 0)), T)).2.2.1) ((daysS 4 2 7 (dy, ro, B, (sendG G (bel (xv >>> (5 &&& 31)) 2) (tellB B kb 0)), T)).2.2.2.1) (bel (xv >>> (5 &&& 31)) 2) kb) w ((daysS 4 2 7 (dy, ro, B, (sendG G (bel (xv >>> (5 &&& 31)) 2) (tellB B kb 0)), T)).2.2.2.2) a2 dy2 co2 ti2 ro2 u2 n2 B2 ch2 v2 nb2 G2 w2 T2) := hD
  obtain rfl : r_245 = ldS ((daysS 4 2 7 (dy, ro, B, (sendG G (bel (xv >>> (5 &&& 31)) 2) (tellB B kb 0)), T)).2.2.1) ((daysS 4 2 7 (dy, ro, B, (sendG G (bel (xv >>> (5 &&& 31)) 2) (tellB B kb 0)), T)).2.2.2.1) (bel (xv >>> (5 &&& 31)) 2) kb + ldR ((daysS 4 2 7 (dy, ro, B, (sendG G (bel (xv >>> (5 &&& 31)) 2) (tellB B kb 0)), T)).2.2.1) ((daysS 4 2 7 (dy, ro, B, (sendG G (bel (xv >>> (5 &&& 31)) 2) (tellB B kb 0)), T)).2.2.2.1) (bel (xv >>> (5 &&& 31)) 2) kb := hw_245
  refine lv_if_ge (tgt := 305) hx hb dL_law_248 (by decide) (fun c_248 => ?_) (fun c_248 => False.elim (by exact c_248 (((hG.send hbb hk).days hi 7).load0 hi hbb hk)))
  exact K _ H locs ls ⟨_, _, _, _, _, _, _, _, _, _, _, _, _, _, _, _, _, _, _, rfl⟩ hP hD hS (lv_sub hl [0, 1, 2, 3, 4] rfl)
set_option maxRecDepth 100000 in
set_option maxHeartbeats 4000000 in
theorem J_sell {p : Program} {l : Launch} {e : Env} {s : State} {m : MethodId} {below : List Frame} {meth : Method} {c : Code} {Q : State → Prop} {sa : Nat × Nat × (Nat → Int32)} {tb : Nat → Nat} {D : va_G} {cA cL : ClassId} {A : Nat → Prop} {x i : Nat} {cu dy co ti ro : Int32} {B G : Nat → Nat → Int32} {T : Nat → Int32} {j0 : Nat} (C : LawC p s m c sa tb D cA cL A) (hj : j0 < 3) (hq : landAt (G 0 0) = nI j0) (K : KT p l e s m below meth c Q sa D cA A x 305 (lvT sa x cu ti i) dy (co + earn G T 0 j0) ti ro B (sellG G T 0 j0) (sellT G T 0 j0)) : KT p l e s m below meth c Q sa D cA A x 275 (lvT sa x cu ti i) dy co ti ro B G T := by
  obtain ⟨hx, hb, hml, hown, hts, hA, hE⟩ := id C
  intro Wd H locs ls hW hP hD hS hl
  obtain ⟨a, u, ch, v, w, a2, dy2, co2, ti2, ro2, u2, n2, B2, ch2, v2, nb2, G2, w2, T2, rfl⟩ := hW
  have hl : lv_has ls 14 [(0, .ref sa.1), (1, .ref x), (2, .int cu), (3, .int ti), (4, .int (nI i))] := hl
  refine lv_aload_n hx hb dL_law_275 rfl (lv_at hl 1 rfl) ?_
  refine lv_iconst (v := 0) hx hb dL_law_276 (by decide) ?_
  refine goI ([]) ([]) hP hD hS hA (rnV (rest := []) (c_sell sa tb D cA cL l x a dy co ti ro u 4 B ch v 2 G w T a2 dy2 co2 ti2 ro2 u2 n2 B2 ch2 v2 nb2 G2 w2 T2 0 j0 (show 0 < 2 from by first | omega | assumption | decide) (show 2 ≤ 3 from by first | omega | assumption | decide) (show j0 < 3 from by first | omega | assumption | decide) (show landAt (G 0 0) = nI j0 from hq)) ([]) ([]) hP hD hS hA hE ⟨hx, hb, hml, hown, hts⟩ (cwV 1 hts gL_law_X4_sell rfl rfl rfl (by decide +kernel) ⟨(Nat.le_of_ble_eq_true rfl), (Nat.le_of_ble_eq_true rfl)⟩) 4 0 rfl rfl rfl rfl hl.1 rfl (Nat.le_of_ble_eq_true rfl) dL_law_277 ⟨(Nat.le_of_ble_eq_true rfl), (Nat.le_of_ble_eq_true rfl)⟩) (fun _ => (show List.map Prod.fst _ = [x, a 0, a 1, u 0, u 1, u 2, u 3, u 4, u 5, u 6, u 7, u 8, a 2, v 0, v 1, v 2, v 3, v 4, a 3, w, a2 0, a2 1, u2 0, u2 1, u2 2, u2 3, u2 4, u2 5, u2 6, u2 7, u2 8, a2 2, v2 0, v2 1, v2 2, v2 3, v2 4, a2 3, w2] from rfl).trans (show [x, a 0, a 1, u 0, u 1, u 2, u 3, u 4, u 5, u 6, u 7, u 8, a 2, v 0, v 1, v 2, v 3, v 4, a 3, w, a2 0, a2 1, u2 0, u2 1, u2 2, u2 3, u2 4, u2 5, u2 6, u2 7, u2 8, a2 2, v2 0, v2 1, v2 2, v2 3, v2 4, a2 3, w2] = List.map Prod.fst _ from rfl)) (fun r_277 u_277 H locs hw_277 hP hD hS => ?_)
  have hP : va_P D vwCl (wX cA x a dy (co + earn G T 0 j0) ti ro u 4 B ch v 2 (sellG G T 0 j0) w (sellT G T 0 j0) a2 dy2 co2 ti2 ro2 u2 n2 B2 ch2 v2 nb2 G2 w2 T2) H := hP
  have hD : va_D A (wX cA x a dy (co + earn G T 0 j0) ti ro u 4 B ch v 2 (sellG G T 0 j0) w (sellT G T 0 j0) a2 dy2 co2 ti2 ro2 u2 n2 B2 ch2 v2 nb2 G2 w2 T2) := hD
  obtain rfl : r_277 = earn G T 0 j0 := hw_277
  refine lv_pop hx hb dL_law_280 rfl ?_
  refine lv_goto (tgt := 305) hx hb dL_law_281 (by decide) ?_
  exact K _ H locs ls ⟨_, _, _, _, _, _, _, _, _, _, _, _, _, _, _, _, _, _, _, rfl⟩ hP hD hS (lv_sub hl [0, 1, 2, 3, 4] rfl)
set_option maxRecDepth 100000 in
set_option maxHeartbeats 4000000 in
theorem J_pass {p : Program} {l : Launch} {e : Env} {s : State} {m : MethodId} {below : List Frame} {meth : Method} {c : Code} {Q : State → Prop} {sa : Nat × Nat × (Nat → Int32)} {tb : Nat → Nat} {D : va_G} {cA cL : ClassId} {A : Nat → Prop} {x i : Nat} {cu dy co ti ro : Int32} {B G : Nat → Nat → Int32} {T : Nat → Int32} {sn : Int32} (C : LawC p s m c sa tb D cA cL A) (hi : i < 16) (hG : GS i cu co ti ro B G T) (hs : sn = fsee dy ro B G T) (K : KT p l e s m below meth c Q sa D cA A x 305 (lvT sa x cu ti i) (daysS 4 2 20 (dy, ro, B, G, T)).1 co ti (daysS 4 2 20 (dy, ro, B, G, T)).2.1 (daysS 4 2 20 (dy, ro, B, G, T)).2.2.1 (daysS 4 2 20 (dy, ro, B, G, T)).2.2.2.1 (daysS 4 2 20 (dy, ro, B, G, T)).2.2.2.2) : KT p l e s m below meth c Q sa D cA A x 284 (lvT sa x cu ti i ++ [(9, .int sn)]) dy co ti ro B G T := by
  obtain ⟨hx, hb, hml, hown, hts, hA, hE⟩ := id C
  intro Wd H locs ls hW hP hD hS hl
  obtain ⟨a, u, ch, v, w, a2, dy2, co2, ti2, ro2, u2, n2, B2, ch2, v2, nb2, G2, w2, T2, rfl⟩ := hW
  have hl : lv_has ls 14 [(0, .ref sa.1), (1, .ref x), (2, .int cu), (3, .int ti), (4, .int (nI i)), (9, .int sn)] := hl
  refine lv_aload_n hx hb dL_law_284 rfl (lv_at hl 1 rfl) ?_
  refine lv_bipush (v := 20) hx hb dL_law_285 (by decide) ?_
  refine goI ([]) ([]) hP hD hS hA (rnV (rest := []) (c_pass sa tb D cA cL l x a dy co ti ro u 4 B ch v 2 G w T a2 dy2 co2 ti2 ro2 u2 n2 B2 ch2 v2 nb2 G2 w2 T2 20 (show 4 ≤ 8 from by first | omega | assumption | decide) (show 2 ≤ 3 from by first | omega | assumption | decide) (show 1 ≤ 20 from by first | omega | assumption | decide) (show 20 ≤ 200 from by first | omega | assumption | decide)) ([]) ([]) hP hD hS hA hE ⟨hx, hb, hml, hown, hts⟩ (cwV 1 hts gL_law_X4_pass rfl rfl rfl (by decide +kernel) ⟨(Nat.le_of_ble_eq_true rfl), (Nat.le_of_ble_eq_true rfl)⟩) 4 0 rfl rfl rfl rfl hl.1 rfl (Nat.le_of_ble_eq_true rfl) dL_law_287 ⟨(Nat.le_of_ble_eq_true rfl), (Nat.le_of_ble_eq_true rfl)⟩) (fun _ => (show List.map Prod.fst _ = [x, a 0, a 1, u 0, u 1, u 2, u 3, u 4, u 5, u 6, u 7, u 8, a 2, v 0, v 1, v 2, v 3, v 4, a 3, w, a2 0, a2 1, u2 0, u2 1, u2 2, u2 3, u2 4, u2 5, u2 6, u2 7, u2 8, a2 2, v2 0, v2 1, v2 2, v2 3, v2 4, a2 3, w2] from rfl).trans (show [x, a 0, a 1, u 0, u 1, u 2, u 3, u 4, u 5, u 6, u 7, u 8, a 2, v 0, v 1, v 2, v 3, v 4, a 3, w, a2 0, a2 1, u2 0, u2 1, u2 2, u2 3, u2 4, u2 5, u2 6, u2 7, u2 8, a2 2, v2 0, v2 1, v2 2, v2 3, v2 4, a2 3, w2] = List.map Prod.fst _ from rfl)) (fun r_287 u_287 H locs hw_287 hP hD hS => ?_)
  have hP : va_P D vwCl (wX cA x a ((daysS 4 2 20 (dy, ro, B, G, T)).1) co ti ((daysS 4 2 20 (dy, ro, B, G, T)).2.1) u 4 ((daysS 4 2 20 (dy, ro, B, G, T)).2.2.1) u_287 v 2 ((daysS 4 2 20 (dy, ro, B, G, T)).2.2.2.1) w ((daysS 4 2 20 (dy, ro, B, G, T)).2.2.2.2) a2 dy2 co2 ti2 ro2 u2 n2 B2 ch2 v2 nb2 G2 w2 T2) H := hP
  have hD : va_D A (wX cA x a ((daysS 4 2 20 (dy, ro, B, G, T)).1) co ti ((daysS 4 2 20 (dy, ro, B, G, T)).2.1) u 4 ((daysS 4 2 20 (dy, ro, B, G, T)).2.2.1) u_287 v 2 ((daysS 4 2 20 (dy, ro, B, G, T)).2.2.2.1) w ((daysS 4 2 20 (dy, ro, B, G, T)).2.2.2.2) a2 dy2 co2 ti2 ro2 u2 n2 B2 ch2 v2 nb2 G2 w2 T2) := hD
  obtain rfl : r_287 = (daysS 4 2 20 (dy, ro, B, G, T)).2.1 - ro := hw_287
  refine lv_if_lt (tgt := 303) hx hb dL_law_290 (by decide) (fun c_290 => False.elim (by exact hG.rot0 hi 20 c_290)) (fun c_290 => ?_)
  refine lv_aload_n hx hb dL_law_293 rfl (lv_at hl 1 rfl) ?_
  refine lv_iconst (v := 5) hx hb dL_law_294 (by decide) ?_
  refine goI ([]) ([]) hP hD hS hA (rnV (rest := []) (c_count sa tb D cA cL l x a ((daysS 4 2 20 (dy, ro, B, G, T)).1) co ti ((daysS 4 2 20 (dy, ro, B, G, T)).2.1) u 4 ((daysS 4 2 20 (dy, ro, B, G, T)).2.2.1) u_287 v 2 ((daysS 4 2 20 (dy, ro, B, G, T)).2.2.2.1) w ((daysS 4 2 20 (dy, ro, B, G, T)).2.2.2.2) a2 dy2 co2 ti2 ro2 u2 n2 B2 ch2 v2 nb2 G2 w2 T2 5 (show 4 ≤ 8 from by first | omega | assumption | decide) (show 2 ≤ 3 from by first | omega | assumption | decide) (show 5 < 11 from by first | omega | assumption | decide)) ([]) ([]) hP hD hS hA hE ⟨hx, hb, hml, hown, hts⟩ (cwV 1 hts gL_law_X4_count rfl rfl rfl (by decide +kernel) ⟨(Nat.le_of_ble_eq_true rfl), (Nat.le_of_ble_eq_true rfl)⟩) 4 0 rfl rfl rfl rfl hl.1 rfl (Nat.le_of_ble_eq_true rfl) dL_law_295 ⟨(Nat.le_of_ble_eq_true rfl), (Nat.le_of_ble_eq_true rfl)⟩) (fun _ => rfl) (fun r_295 u_295 H locs hw_295 hP hD hS => ?_)
  have hP : va_P D vwCl (wX cA x a ((daysS 4 2 20 (dy, ro, B, G, T)).1) co ti ((daysS 4 2 20 (dy, ro, B, G, T)).2.1) u 4 ((daysS 4 2 20 (dy, ro, B, G, T)).2.2.1) u_287 v 2 ((daysS 4 2 20 (dy, ro, B, G, T)).2.2.2.1) w ((daysS 4 2 20 (dy, ro, B, G, T)).2.2.2.2) a2 dy2 co2 ti2 ro2 u2 n2 B2 ch2 v2 nb2 G2 w2 T2) H := hP
  have hD : va_D A (wX cA x a ((daysS 4 2 20 (dy, ro, B, G, T)).1) co ti ((daysS 4 2 20 (dy, ro, B, G, T)).2.1) u 4 ((daysS 4 2 20 (dy, ro, B, G, T)).2.2.1) u_287 v 2 ((daysS 4 2 20 (dy, ro, B, G, T)).2.2.2.1) w ((daysS 4 2 20 (dy, ro, B, G, T)).2.2.2.2) a2 dy2 co2 ti2 ro2 u2 n2 B2 ch2 v2 nb2 G2 w2 T2) := hD
  obtain rfl : r_295 = tellW ((daysS 4 2 20 (dy, ro, B, G, T)).1) co ti ((daysS 4 2 20 (dy, ro, B, G, T)).2.1) 4 ((daysS 4 2 20 (dy, ro, B, G, T)).2.2.1) 2 ((daysS 4 2 20 (dy, ro, B, G, T)).2.2.2.1) ((daysS 4 2 20 (dy, ro, B, G, T)).2.2.2.2) 5 := hw_295
  refine lv_iload hx hb dL_law_298 (lv_at hl 5 rfl) ?_
  refine lv_icmp_eq (tgt := 305) hx hb dL_law_300 (by decide) (fun c_300 => ?_) (fun c_300 => False.elim (by exact c_300 hs.symm))
  exact K _ H locs ls ⟨_, _, _, _, _, _, _, _, _, _, _, _, _, _, _, _, _, _, _, rfl⟩ hP hD hS (lv_sub hl [0, 1, 2, 3, 4] rfl)
set_option maxRecDepth 100000 in
set_option maxHeartbeats 4000000 in
theorem J_turn {p : Program} {l : Launch} {e : Env} {s : State} {m : MethodId} {below : List Frame} {meth : Method} {c : Code} {Q : State → Prop} {sa : Nat × Nat × (Nat → Int32)} {tb : Nat → Nat} {D : va_G} {cA cL : ClassId} {A : Nat → Prop} {x i : Nat} {cu dy co ti ro : Int32} {B G : Nat → Nat → Int32} {T : Nat → Int32} {kb : Nat} {xv sn : Int32} (C : LawC p s m c sa tb D cA cL A) (hi : i < 16) (hk : kb < 4) (hG : GS i cu co ti ro B G T) (hs : sn = fsee dy ro B G T) (K : ∀ (cu dy co ti ro : Int32) (B G : Nat → Nat → Int32) (T : Nat → Int32), GS (i + 1) cu co ti ro B G T → KT p l e s m below meth c Q sa D cA A x 305 (lvT sa x cu ti i) dy co ti ro B G T) : KT p l e s m below meth c Q sa D cA A x 112 (lvT sa x cu ti i ++ [(5, .int xv), (6, .int (nI kb)), (9, .int sn)]) dy co ti ro B G T := by
  obtain ⟨hx, hb, hml, hown, hts, hA, hE⟩ := id C
  intro Wd H locs ls hW hP hD hS hl
  obtain ⟨a, u, ch, v, w, a2, dy2, co2, ti2, ro2, u2, n2, B2, ch2, v2, nb2, G2, w2, T2, rfl⟩ := hW
  have hl : lv_has ls 14 [(0, .ref sa.1), (1, .ref x), (2, .int cu), (3, .int ti), (4, .int (nI i)), (5, .int xv), (6, .int (nI kb)), (9, .int sn)] := hl
  have hbb : bel (xv >>> (5 &&& 31)) 2 < 2 := bel_lt (by decide)
  have hb6 : bel (xv >>> (2 &&& 31)) 6 < 6 := bel_lt (by decide)
  refine lv_iload hx hb dL_law_112 (lv_at hl 5 rfl) ?_
  refine lv_iconst (v := 2) hx hb dL_law_114 (by decide) ?_
  refine lv_ishr hx hb dL_law_115 ?_
  refine lv_bipush (v := 6) hx hb dL_law_116 (by decide) ?_
  refine goI ([]) (wX cA x a dy co ti ro u 4 B ch v 2 G w T a2 dy2 co2 ti2 ro2 u2 n2 B2 ch2 v2 nb2 G2 w2 T2) hP hD hS hA (rnS (rest := []) (c_below sa tb D cA cL l (xv >>> (2 &&& 31)) 6 (show 0 < 6 from by first | omega | assumption | decide) (show 6 < 2 ^ 31 from by first | omega | assumption | decide)) ([]) (wX cA x a dy co ti ro u 4 B ch v 2 G w T a2 dy2 co2 ti2 ro2 u2 n2 B2 ch2 v2 nb2 G2 w2 T2) hP hD hS hA hE ⟨hx, hb, hml, hown, hts⟩ (va_cwS 2 hts gL_law_L_below rfl rfl rfl (by decide +kernel) ⟨(Nat.le_of_ble_eq_true rfl), (Nat.le_of_ble_eq_true rfl)⟩) rfl hl.1 rfl (Nat.le_of_ble_eq_true rfl) dL_law_118 ⟨(Nat.le_of_ble_eq_true rfl), (Nat.le_of_ble_eq_true rfl)⟩) (fun _ => rfl) (fun r_118 u_118 H locs hw_118 hP hD hS => ?_)
  have hP : va_P D vwCl (wX cA x a dy co ti ro u 4 B ch v 2 G w T a2 dy2 co2 ti2 ro2 u2 n2 B2 ch2 v2 nb2 G2 w2 T2) H := hP
  have hD : va_D A (wX cA x a dy co ti ro u 4 B ch v 2 G w T a2 dy2 co2 ti2 ro2 u2 n2 B2 ch2 v2 nb2 G2 w2 T2) := hD
  obtain rfl : r_118 = nI (bel (xv >>> (2 &&& 31)) 6) := hw_118
  refine rz_ne (tgt := 146) (a := bel (xv >>> (2 &&& 31)) 6) hx hb (by omega) dL_law_121 (by decide) (fun c_121 => ?_) (fun c_121 => ?_)
  · refine lv_iload hx hb dL_law_146 (lv_at hl 5 rfl) ?_
    refine lv_iconst (v := 2) hx hb dL_law_148 (by decide) ?_
    refine lv_ishr hx hb dL_law_149 ?_
    refine lv_bipush (v := 6) hx hb dL_law_150 (by decide) ?_
    refine goI ([]) (wX cA x a dy co ti ro u 4 B ch v 2 G w T a2 dy2 co2 ti2 ro2 u2 n2 B2 ch2 v2 nb2 G2 w2 T2) hP hD hS hA (rnS (rest := []) (c_below sa tb D cA cL l (xv >>> (2 &&& 31)) 6 (show 0 < 6 from by first | omega | assumption | decide) (show 6 < 2 ^ 31 from by first | omega | assumption | decide)) ([]) (wX cA x a dy co ti ro u 4 B ch v 2 G w T a2 dy2 co2 ti2 ro2 u2 n2 B2 ch2 v2 nb2 G2 w2 T2) hP hD hS hA hE ⟨hx, hb, hml, hown, hts⟩ (va_cwS 2 hts gL_law_L_below rfl rfl rfl (by decide +kernel) ⟨(Nat.le_of_ble_eq_true rfl), (Nat.le_of_ble_eq_true rfl)⟩) rfl hl.1 rfl (Nat.le_of_ble_eq_true rfl) dL_law_152 ⟨(Nat.le_of_ble_eq_true rfl), (Nat.le_of_ble_eq_true rfl)⟩) (fun _ => rfl) (fun r_152 u_152 H locs hw_152 hP hD hS => ?_)
    have hP : va_P D vwCl (wX cA x a dy co ti ro u 4 B ch v 2 G w T a2 dy2 co2 ti2 ro2 u2 n2 B2 ch2 v2 nb2 G2 w2 T2) H := hP
    have hD : va_D A (wX cA x a dy co ti ro u 4 B ch v 2 G w T a2 dy2 co2 ti2 ro2 u2 n2 B2 ch2 v2 nb2 G2 w2 T2) := hD
    obtain rfl : r_152 = nI (bel (xv >>> (2 &&& 31)) 6) := hw_152
    refine lv_iconst (v := 1) hx hb dL_law_155 (by decide) ?_
    refine rc_ne (tgt := 171) (a := bel (xv >>> (2 &&& 31)) 6) (b := 1) hx hb (by omega) (by omega) dL_law_156 (by decide) (fun c_156 => ?_) (fun c_156 => ?_)
    · refine lv_iload hx hb dL_law_171 (lv_at hl 5 rfl) ?_
      refine lv_iconst (v := 2) hx hb dL_law_173 (by decide) ?_
      refine lv_ishr hx hb dL_law_174 ?_
      refine lv_bipush (v := 6) hx hb dL_law_175 (by decide) ?_
      refine goI ([]) (wX cA x a dy co ti ro u 4 B ch v 2 G w T a2 dy2 co2 ti2 ro2 u2 n2 B2 ch2 v2 nb2 G2 w2 T2) hP hD hS hA (rnS (rest := []) (c_below sa tb D cA cL l (xv >>> (2 &&& 31)) 6 (show 0 < 6 from by first | omega | assumption | decide) (show 6 < 2 ^ 31 from by first | omega | assumption | decide)) ([]) (wX cA x a dy co ti ro u 4 B ch v 2 G w T a2 dy2 co2 ti2 ro2 u2 n2 B2 ch2 v2 nb2 G2 w2 T2) hP hD hS hA hE ⟨hx, hb, hml, hown, hts⟩ (va_cwS 2 hts gL_law_L_below rfl rfl rfl (by decide +kernel) ⟨(Nat.le_of_ble_eq_true rfl), (Nat.le_of_ble_eq_true rfl)⟩) rfl hl.1 rfl (Nat.le_of_ble_eq_true rfl) dL_law_177 ⟨(Nat.le_of_ble_eq_true rfl), (Nat.le_of_ble_eq_true rfl)⟩) (fun _ => rfl) (fun r_177 u_177 H locs hw_177 hP hD hS => ?_)
      have hP : va_P D vwCl (wX cA x a dy co ti ro u 4 B ch v 2 G w T a2 dy2 co2 ti2 ro2 u2 n2 B2 ch2 v2 nb2 G2 w2 T2) H := hP
      have hD : va_D A (wX cA x a dy co ti ro u 4 B ch v 2 G w T a2 dy2 co2 ti2 ro2 u2 n2 B2 ch2 v2 nb2 G2 w2 T2) := hD
      obtain rfl : r_177 = nI (bel (xv >>> (2 &&& 31)) 6) := hw_177
      refine lv_iconst (v := 2) hx hb dL_law_180 (by decide) ?_
      refine rc_ne (tgt := 253) (a := bel (xv >>> (2 &&& 31)) 6) (b := 2) hx hb (by omega) (by omega) dL_law_181 (by decide) (fun c_181 => ?_) (fun c_181 => ?_)
      · refine lv_iload hx hb dL_law_253 (lv_at hl 5 rfl) ?_
        refine lv_iconst (v := 2) hx hb dL_law_255 (by decide) ?_
        refine lv_ishr hx hb dL_law_256 ?_
        refine lv_bipush (v := 6) hx hb dL_law_257 (by decide) ?_
        refine goI ([]) (wX cA x a dy co ti ro u 4 B ch v 2 G w T a2 dy2 co2 ti2 ro2 u2 n2 B2 ch2 v2 nb2 G2 w2 T2) hP hD hS hA (rnS (rest := []) (c_below sa tb D cA cL l (xv >>> (2 &&& 31)) 6 (show 0 < 6 from by first | omega | assumption | decide) (show 6 < 2 ^ 31 from by first | omega | assumption | decide)) ([]) (wX cA x a dy co ti ro u 4 B ch v 2 G w T a2 dy2 co2 ti2 ro2 u2 n2 B2 ch2 v2 nb2 G2 w2 T2) hP hD hS hA hE ⟨hx, hb, hml, hown, hts⟩ (va_cwS 2 hts gL_law_L_below rfl rfl rfl (by decide +kernel) ⟨(Nat.le_of_ble_eq_true rfl), (Nat.le_of_ble_eq_true rfl)⟩) rfl hl.1 rfl (Nat.le_of_ble_eq_true rfl) dL_law_259 ⟨(Nat.le_of_ble_eq_true rfl), (Nat.le_of_ble_eq_true rfl)⟩) (fun _ => rfl) (fun r_259 u_259 H locs hw_259 hP hD hS => ?_)
        have hP : va_P D vwCl (wX cA x a dy co ti ro u 4 B ch v 2 G w T a2 dy2 co2 ti2 ro2 u2 n2 B2 ch2 v2 nb2 G2 w2 T2) H := hP
        have hD : va_D A (wX cA x a dy co ti ro u 4 B ch v 2 G w T a2 dy2 co2 ti2 ro2 u2 n2 B2 ch2 v2 nb2 G2 w2 T2) := hD
        obtain rfl : r_259 = nI (bel (xv >>> (2 &&& 31)) 6) := hw_259
        refine lv_iconst (v := 3) hx hb dL_law_262 (by decide) ?_
        refine rc_ne (tgt := 284) (a := bel (xv >>> (2 &&& 31)) 6) (b := 3) hx hb (by omega) (by omega) dL_law_263 (by decide) (fun c_263 => ?_) (fun c_263 => ?_)
        · exact J_pass C hi hG hs (K _ _ _ _ _ _ _ _ ((hG.days hi 20).next)) _ H locs ls ⟨_, _, _, _, _, _, _, _, _, _, _, _, _, _, _, _, _, _, _, rfl⟩ hP hD hS (lv_sub hl [0, 1, 2, 3, 4, 7] rfl)
        · refine lv_aload_n hx hb dL_law_266 rfl (lv_at hl 1 rfl) ?_
          refine lv_iconst (v := 0) hx hb dL_law_267 (by decide) ?_
          refine lv_iconst (v := 4) hx hb dL_law_268 (by decide) ?_
          refine goI ([]) ([]) hP hD hS hA (rnV (rest := []) (c_told sa tb D cA cL l x a dy co ti ro u 4 B ch v 2 G w T a2 dy2 co2 ti2 ro2 u2 n2 B2 ch2 v2 nb2 G2 w2 T2 0 4 (show 0 < 2 from by first | omega | assumption | decide) (show 2 ≤ 3 from by first | omega | assumption | decide) (show 4 < 6 from by first | omega | assumption | decide)) ([]) ([]) hP hD hS hA hE ⟨hx, hb, hml, hown, hts⟩ (cwV 2 hts gL_law_X4_told rfl rfl rfl (by decide +kernel) ⟨(Nat.le_of_ble_eq_true rfl), (Nat.le_of_ble_eq_true rfl)⟩) 4 0 rfl rfl rfl rfl hl.1 rfl (Nat.le_of_ble_eq_true rfl) dL_law_269 ⟨(Nat.le_of_ble_eq_true rfl), (Nat.le_of_ble_eq_true rfl)⟩) (fun _ => rfl) (fun r_269 u_269 H locs hw_269 hP hD hS => ?_)
          have hP : va_P D vwCl (wX cA x a dy co ti ro u 4 B ch v 2 G w T a2 dy2 co2 ti2 ro2 u2 n2 B2 ch2 v2 nb2 G2 w2 T2) H := hP
          have hD : va_D A (wX cA x a dy co ti ro u 4 B ch v 2 G w T a2 dy2 co2 ti2 ro2 u2 n2 B2 ch2 v2 nb2 G2 w2 T2) := hD
          obtain rfl : r_269 = tellG G 0 4 := hw_269
          refine lv_if_lt (tgt := 284) hx hb dL_law_272 (by decide) (fun c_272 => ?_) (fun c_272 => ?_)
          · exact J_pass C hi hG hs (K _ _ _ _ _ _ _ _ ((hG.days hi 20).next)) _ H locs ls ⟨_, _, _, _, _, _, _, _, _, _, _, _, _, _, _, _, _, _, _, rfl⟩ hP hD hS (lv_sub hl [0, 1, 2, 3, 4, 7] rfl)
          · obtain ⟨j0, hj, hq⟩ := land_ix c_272
            exact J_sell C hj hq (K _ _ _ _ _ _ _ _ (hG.sell hi hj)) _ H locs ls ⟨_, _, _, _, _, _, _, _, _, _, _, _, _, _, _, _, _, _, _, rfl⟩ hP hD hS (lv_sub hl [0, 1, 2, 3, 4] rfl)
      · exact J_sail C hi hk hG (K _ _ _ _ _ _ _ _ (((hG.send hbb hk).days hi 7).load hi hbb hk)) _ H locs ls ⟨_, _, _, _, _, _, _, _, _, _, _, _, _, _, _, _, _, _, _, rfl⟩ hP hD hS (lv_sub hl [0, 1, 2, 3, 4, 5, 6] rfl)
    · exact J_tie C hk (K _ _ _ _ _ _ _ _ (hG.tie hi hk)) _ H locs ls ⟨_, _, _, _, _, _, _, _, _, _, _, _, _, _, _, _, _, _, _, rfl⟩ hP hD hS (lv_sub hl [0, 1, 2, 3, 4, 6] rfl)
  · refine lv_aload_n hx hb dL_law_124 rfl (lv_at hl 1 rfl) ?_
    refine lv_iload hx hb dL_law_125 (lv_at hl 6 rfl) ?_
    refine lv_iconst (v := 2) hx hb dL_law_127 (by decide) ?_
    refine goI ([]) ([]) hP hD hS hA (rnV (rest := []) (c_about sa tb D cA cL l x a dy co ti ro u 4 B ch v 2 G w T a2 dy2 co2 ti2 ro2 u2 n2 B2 ch2 v2 nb2 G2 w2 T2 kb 2 (show kb < 4 from by first | omega | assumption | decide) (show 4 ≤ 8 from by first | omega | assumption | decide) (show 2 < 10 from by first | omega | assumption | decide)) ([]) ([]) hP hD hS hA hE ⟨hx, hb, hml, hown, hts⟩ (cwV 2 hts gL_law_X4_about rfl rfl rfl (by decide +kernel) ⟨(Nat.le_of_ble_eq_true rfl), (Nat.le_of_ble_eq_true rfl)⟩) 4 0 rfl rfl rfl rfl hl.1 rfl (Nat.le_of_ble_eq_true rfl) dL_law_128 ⟨(Nat.le_of_ble_eq_true rfl), (Nat.le_of_ble_eq_true rfl)⟩) (fun _ => rfl) (fun r_128 u_128 H locs hw_128 hP hD hS => ?_)
    have hP : va_P D vwCl (wX cA x a dy co ti ro u 4 B ch v 2 G w T a2 dy2 co2 ti2 ro2 u2 n2 B2 ch2 v2 nb2 G2 w2 T2) H := hP
    have hD : va_D A (wX cA x a dy co ti ro u 4 B ch v 2 G w T a2 dy2 co2 ti2 ro2 u2 n2 B2 ch2 v2 nb2 G2 w2 T2) := hD
    obtain rfl : r_128 = tellB B kb 2 := hw_128
    refine lv_if_le (tgt := 146) hx hb dL_law_131 (by decide) (fun c_131 => ?_) (fun c_131 => ?_)
    · refine lv_iload hx hb dL_law_146 (lv_at hl 5 rfl) ?_
      refine lv_iconst (v := 2) hx hb dL_law_148 (by decide) ?_
      refine lv_ishr hx hb dL_law_149 ?_
      refine lv_bipush (v := 6) hx hb dL_law_150 (by decide) ?_
      refine goI ([]) (wX cA x a dy co ti ro u 4 B ch v 2 G w T a2 dy2 co2 ti2 ro2 u2 n2 B2 ch2 v2 nb2 G2 w2 T2) hP hD hS hA (rnS (rest := []) (c_below sa tb D cA cL l (xv >>> (2 &&& 31)) 6 (show 0 < 6 from by first | omega | assumption | decide) (show 6 < 2 ^ 31 from by first | omega | assumption | decide)) ([]) (wX cA x a dy co ti ro u 4 B ch v 2 G w T a2 dy2 co2 ti2 ro2 u2 n2 B2 ch2 v2 nb2 G2 w2 T2) hP hD hS hA hE ⟨hx, hb, hml, hown, hts⟩ (va_cwS 2 hts gL_law_L_below rfl rfl rfl (by decide +kernel) ⟨(Nat.le_of_ble_eq_true rfl), (Nat.le_of_ble_eq_true rfl)⟩) rfl hl.1 rfl (Nat.le_of_ble_eq_true rfl) dL_law_152 ⟨(Nat.le_of_ble_eq_true rfl), (Nat.le_of_ble_eq_true rfl)⟩) (fun _ => rfl) (fun r_152 u_152 H locs hw_152 hP hD hS => ?_)
      have hP : va_P D vwCl (wX cA x a dy co ti ro u 4 B ch v 2 G w T a2 dy2 co2 ti2 ro2 u2 n2 B2 ch2 v2 nb2 G2 w2 T2) H := hP
      have hD : va_D A (wX cA x a dy co ti ro u 4 B ch v 2 G w T a2 dy2 co2 ti2 ro2 u2 n2 B2 ch2 v2 nb2 G2 w2 T2) := hD
      obtain rfl : r_152 = nI (bel (xv >>> (2 &&& 31)) 6) := hw_152
      refine lv_iconst (v := 1) hx hb dL_law_155 (by decide) ?_
      refine rc_ne (tgt := 171) (a := bel (xv >>> (2 &&& 31)) 6) (b := 1) hx hb (by omega) (by omega) dL_law_156 (by decide) (fun c_156 => ?_) (fun c_156 => ?_)
      · refine lv_iload hx hb dL_law_171 (lv_at hl 5 rfl) ?_
        refine lv_iconst (v := 2) hx hb dL_law_173 (by decide) ?_
        refine lv_ishr hx hb dL_law_174 ?_
        refine lv_bipush (v := 6) hx hb dL_law_175 (by decide) ?_
        refine goI ([]) (wX cA x a dy co ti ro u 4 B ch v 2 G w T a2 dy2 co2 ti2 ro2 u2 n2 B2 ch2 v2 nb2 G2 w2 T2) hP hD hS hA (rnS (rest := []) (c_below sa tb D cA cL l (xv >>> (2 &&& 31)) 6 (show 0 < 6 from by first | omega | assumption | decide) (show 6 < 2 ^ 31 from by first | omega | assumption | decide)) ([]) (wX cA x a dy co ti ro u 4 B ch v 2 G w T a2 dy2 co2 ti2 ro2 u2 n2 B2 ch2 v2 nb2 G2 w2 T2) hP hD hS hA hE ⟨hx, hb, hml, hown, hts⟩ (va_cwS 2 hts gL_law_L_below rfl rfl rfl (by decide +kernel) ⟨(Nat.le_of_ble_eq_true rfl), (Nat.le_of_ble_eq_true rfl)⟩) rfl hl.1 rfl (Nat.le_of_ble_eq_true rfl) dL_law_177 ⟨(Nat.le_of_ble_eq_true rfl), (Nat.le_of_ble_eq_true rfl)⟩) (fun _ => rfl) (fun r_177 u_177 H locs hw_177 hP hD hS => ?_)
        have hP : va_P D vwCl (wX cA x a dy co ti ro u 4 B ch v 2 G w T a2 dy2 co2 ti2 ro2 u2 n2 B2 ch2 v2 nb2 G2 w2 T2) H := hP
        have hD : va_D A (wX cA x a dy co ti ro u 4 B ch v 2 G w T a2 dy2 co2 ti2 ro2 u2 n2 B2 ch2 v2 nb2 G2 w2 T2) := hD
        obtain rfl : r_177 = nI (bel (xv >>> (2 &&& 31)) 6) := hw_177
        refine lv_iconst (v := 2) hx hb dL_law_180 (by decide) ?_
        refine rc_ne (tgt := 253) (a := bel (xv >>> (2 &&& 31)) 6) (b := 2) hx hb (by omega) (by omega) dL_law_181 (by decide) (fun c_181 => ?_) (fun c_181 => ?_)
        · refine lv_iload hx hb dL_law_253 (lv_at hl 5 rfl) ?_
          refine lv_iconst (v := 2) hx hb dL_law_255 (by decide) ?_
          refine lv_ishr hx hb dL_law_256 ?_
          refine lv_bipush (v := 6) hx hb dL_law_257 (by decide) ?_
          refine goI ([]) (wX cA x a dy co ti ro u 4 B ch v 2 G w T a2 dy2 co2 ti2 ro2 u2 n2 B2 ch2 v2 nb2 G2 w2 T2) hP hD hS hA (rnS (rest := []) (c_below sa tb D cA cL l (xv >>> (2 &&& 31)) 6 (show 0 < 6 from by first | omega | assumption | decide) (show 6 < 2 ^ 31 from by first | omega | assumption | decide)) ([]) (wX cA x a dy co ti ro u 4 B ch v 2 G w T a2 dy2 co2 ti2 ro2 u2 n2 B2 ch2 v2 nb2 G2 w2 T2) hP hD hS hA hE ⟨hx, hb, hml, hown, hts⟩ (va_cwS 2 hts gL_law_L_below rfl rfl rfl (by decide +kernel) ⟨(Nat.le_of_ble_eq_true rfl), (Nat.le_of_ble_eq_true rfl)⟩) rfl hl.1 rfl (Nat.le_of_ble_eq_true rfl) dL_law_259 ⟨(Nat.le_of_ble_eq_true rfl), (Nat.le_of_ble_eq_true rfl)⟩) (fun _ => rfl) (fun r_259 u_259 H locs hw_259 hP hD hS => ?_)
          have hP : va_P D vwCl (wX cA x a dy co ti ro u 4 B ch v 2 G w T a2 dy2 co2 ti2 ro2 u2 n2 B2 ch2 v2 nb2 G2 w2 T2) H := hP
          have hD : va_D A (wX cA x a dy co ti ro u 4 B ch v 2 G w T a2 dy2 co2 ti2 ro2 u2 n2 B2 ch2 v2 nb2 G2 w2 T2) := hD
          obtain rfl : r_259 = nI (bel (xv >>> (2 &&& 31)) 6) := hw_259
          refine lv_iconst (v := 3) hx hb dL_law_262 (by decide) ?_
          refine rc_ne (tgt := 284) (a := bel (xv >>> (2 &&& 31)) 6) (b := 3) hx hb (by omega) (by omega) dL_law_263 (by decide) (fun c_263 => ?_) (fun c_263 => ?_)
          · exact J_pass C hi hG hs (K _ _ _ _ _ _ _ _ ((hG.days hi 20).next)) _ H locs ls ⟨_, _, _, _, _, _, _, _, _, _, _, _, _, _, _, _, _, _, _, rfl⟩ hP hD hS (lv_sub hl [0, 1, 2, 3, 4, 7] rfl)
          · refine lv_aload_n hx hb dL_law_266 rfl (lv_at hl 1 rfl) ?_
            refine lv_iconst (v := 0) hx hb dL_law_267 (by decide) ?_
            refine lv_iconst (v := 4) hx hb dL_law_268 (by decide) ?_
            refine goI ([]) ([]) hP hD hS hA (rnV (rest := []) (c_told sa tb D cA cL l x a dy co ti ro u 4 B ch v 2 G w T a2 dy2 co2 ti2 ro2 u2 n2 B2 ch2 v2 nb2 G2 w2 T2 0 4 (show 0 < 2 from by first | omega | assumption | decide) (show 2 ≤ 3 from by first | omega | assumption | decide) (show 4 < 6 from by first | omega | assumption | decide)) ([]) ([]) hP hD hS hA hE ⟨hx, hb, hml, hown, hts⟩ (cwV 2 hts gL_law_X4_told rfl rfl rfl (by decide +kernel) ⟨(Nat.le_of_ble_eq_true rfl), (Nat.le_of_ble_eq_true rfl)⟩) 4 0 rfl rfl rfl rfl hl.1 rfl (Nat.le_of_ble_eq_true rfl) dL_law_269 ⟨(Nat.le_of_ble_eq_true rfl), (Nat.le_of_ble_eq_true rfl)⟩) (fun _ => rfl) (fun r_269 u_269 H locs hw_269 hP hD hS => ?_)
            have hP : va_P D vwCl (wX cA x a dy co ti ro u 4 B ch v 2 G w T a2 dy2 co2 ti2 ro2 u2 n2 B2 ch2 v2 nb2 G2 w2 T2) H := hP
            have hD : va_D A (wX cA x a dy co ti ro u 4 B ch v 2 G w T a2 dy2 co2 ti2 ro2 u2 n2 B2 ch2 v2 nb2 G2 w2 T2) := hD
            obtain rfl : r_269 = tellG G 0 4 := hw_269
            refine lv_if_lt (tgt := 284) hx hb dL_law_272 (by decide) (fun c_272 => ?_) (fun c_272 => ?_)
            · exact J_pass C hi hG hs (K _ _ _ _ _ _ _ _ ((hG.days hi 20).next)) _ H locs ls ⟨_, _, _, _, _, _, _, _, _, _, _, _, _, _, _, _, _, _, _, rfl⟩ hP hD hS (lv_sub hl [0, 1, 2, 3, 4, 7] rfl)
            · obtain ⟨j0, hj, hq⟩ := land_ix c_272
              exact J_sell C hj hq (K _ _ _ _ _ _ _ _ (hG.sell hi hj)) _ H locs ls ⟨_, _, _, _, _, _, _, _, _, _, _, _, _, _, _, _, _, _, _, rfl⟩ hP hD hS (lv_sub hl [0, 1, 2, 3, 4] rfl)
        · exact J_sail C hi hk hG (K _ _ _ _ _ _ _ _ (((hG.send hbb hk).days hi 7).load hi hbb hk)) _ H locs ls ⟨_, _, _, _, _, _, _, _, _, _, _, _, _, _, _, _, _, _, _, rfl⟩ hP hD hS (lv_sub hl [0, 1, 2, 3, 4, 5, 6] rfl)
      · exact J_tie C hk (K _ _ _ _ _ _ _ _ (hG.tie hi hk)) _ H locs ls ⟨_, _, _, _, _, _, _, _, _, _, _, _, _, _, _, _, _, _, _, rfl⟩ hP hD hS (lv_sub hl [0, 1, 2, 3, 4, 6] rfl)
    · exact J_cut C hk (bOk.age c_131) (K _ _ _ _ _ _ _ _ (hG.cut hi hk)) _ H locs ls ⟨_, _, _, _, _, _, _, _, _, _, _, _, _, _, _, _, _, _, _, rfl⟩ hP hD hS (lv_sub hl [0, 1, 2, 3, 4, 6] rfl)
set_option maxRecDepth 100000 in
set_option maxHeartbeats 4000000 in
theorem J_ask {p : Program} {l : Launch} {e : Env} {s : State} {m : MethodId} {below : List Frame} {meth : Method} {c : Code} {Q : State → Prop} {sa : Nat × Nat × (Nat → Int32)} {tb : Nat → Nat} {D : va_G} {cA cL : ClassId} {A : Nat → Prop} {x i : Nat} {cu dy co ti ro : Int32} {B G : Nat → Nat → Int32} {T : Nat → Int32}  (C : LawC p s m c sa tb D cA cL A) (hi : i < 16) (hG : GS i cu co ti ro B G T) (K : ∀ (xv : Int32) (kb : Nat) (sn : Int32), kb < 4 → sn = fsee dy ro B G T → KT p l e s m below meth c Q sa D cA A x 112 (lvT sa x cu ti i ++ [(5, .int xv), (6, .int (nI kb)), (9, .int sn)]) dy co ti ro B G T) : KT p l e s m below meth c Q sa D cA A x 20 (lvT sa x cu ti i) dy co ti ro B G T := by
  obtain ⟨hx, hb, hml, hown, hts, hA, hE⟩ := id C
  intro Wd H locs ls hW hP hD hS hl
  obtain ⟨a, u, ch, v, w, a2, dy2, co2, ti2, ro2, u2, n2, B2, ch2, v2, nb2, G2, w2, T2, rfl⟩ := hW
  have hl : lv_has ls 14 [(0, .ref sa.1), (1, .ref x), (2, .int cu), (3, .int ti), (4, .int (nI i))] := hl
  refine lv_aload_n hx hb dL_law_20 rfl (lv_at hl 0 rfl) ?_
  refine lv_iconst (v := 5) hx hb dL_law_21 (by decide) ?_
  refine lv_iload hx hb dL_law_22 (lv_at hl 4 rfl) ?_
  refine rn_add (a := 5) (b := i) hx hb dL_law_24 ?_
  refine goI ([]) (wX cA x a dy co ti ro u 4 B ch v 2 G w T a2 dy2 co2 ti2 ro2 u2 n2 B2 ch2 v2 nb2 G2 w2 T2) hP hD hS hA (rnS (rest := []) (c_cell sa tb D cA cL l (5 + i) (show (5 + i) < 2 ^ 30 from by first | omega | assumption | decide)) ([]) (wX cA x a dy co ti ro u 4 B ch v 2 G w T a2 dy2 co2 ti2 ro2 u2 n2 B2 ch2 v2 nb2 G2 w2 T2) hP hD hS hA hE ⟨hx, hb, hml, hown, hts⟩ (va_cwS 2 hts gL_law_L_cell rfl rfl rfl (by decide +kernel) ⟨(Nat.le_of_ble_eq_true rfl), (Nat.le_of_ble_eq_true rfl)⟩) rfl hl.1 rfl (Nat.le_of_ble_eq_true rfl) dL_law_25 ⟨(Nat.le_of_ble_eq_true rfl), (Nat.le_of_ble_eq_true rfl)⟩) (fun _ => rfl) (fun r_25 u_25 H locs hw_25 hP hD hS => ?_)
  have hP : va_P D vwCl (wX cA x a dy co ti ro u 4 B ch v 2 G w T a2 dy2 co2 ti2 ro2 u2 n2 B2 ch2 v2 nb2 G2 w2 T2) H := hP
  have hD : va_D A (wX cA x a dy co ti ro u 4 B ch v 2 G w T a2 dy2 co2 ti2 ro2 u2 n2 B2 ch2 v2 nb2 G2 w2 T2) := hD
  obtain rfl : r_25 = cellV sa (5 + i) := hw_25
  refine lv_iconst (v := 2) hx hb dL_law_28 (by decide) ?_
  refine lv_ishr hx hb dL_law_29 ?_
  refine lv_topi (fun xv hxv => ?_)
  refine lv_istore (lv' := [(5, .int xv), (0, .ref sa.1), (1, .ref x), (2, .int cu), (3, .int ti), (4, .int (nI i))]) hx hb dL_law_30 hl (by decide) rfl (fun ls hl => ?_)
  refine lv_iload hx hb dL_law_32 (lv_at hl 0 rfl) ?_
  refine lv_iconst (v := 4) hx hb dL_law_34 (by decide) ?_
  refine goI ([]) (wX cA x a dy co ti ro u 4 B ch v 2 G w T a2 dy2 co2 ti2 ro2 u2 n2 B2 ch2 v2 nb2 G2 w2 T2) hP hD hS hA (rnS (rest := []) (c_below sa tb D cA cL l xv 4 (show 0 < 4 from by first | omega | assumption | decide) (show 4 < 2 ^ 31 from by first | omega | assumption | decide)) ([]) (wX cA x a dy co ti ro u 4 B ch v 2 G w T a2 dy2 co2 ti2 ro2 u2 n2 B2 ch2 v2 nb2 G2 w2 T2) hP hD hS hA hE ⟨hx, hb, hml, hown, hts⟩ (va_cwS 2 hts gL_law_L_below rfl rfl rfl (by decide +kernel) ⟨(Nat.le_of_ble_eq_true rfl), (Nat.le_of_ble_eq_true rfl)⟩) rfl hl.1 rfl (Nat.le_of_ble_eq_true rfl) dL_law_35 ⟨(Nat.le_of_ble_eq_true rfl), (Nat.le_of_ble_eq_true rfl)⟩) (fun _ => rfl) (fun r_35 u_35 H locs hw_35 hP hD hS => ?_)
  have hP : va_P D vwCl (wX cA x a dy co ti ro u 4 B ch v 2 G w T a2 dy2 co2 ti2 ro2 u2 n2 B2 ch2 v2 nb2 G2 w2 T2) H := hP
  have hD : va_D A (wX cA x a dy co ti ro u 4 B ch v 2 G w T a2 dy2 co2 ti2 ro2 u2 n2 B2 ch2 v2 nb2 G2 w2 T2) := hD
  obtain rfl : r_35 = nI (bel xv 4) := hw_35
  have hk : bel xv 4 < 4 := bel_lt (by decide)
  have hba : bel (xv >>> (3 &&& 31)) 2 < 2 := bel_lt (by decide)
  refine lv_istore (lv' := [(6, .int (nI (bel xv 4))), (5, .int xv), (0, .ref sa.1), (1, .ref x), (2, .int cu), (3, .int ti), (4, .int (nI i))]) hx hb dL_law_38 hl (by decide) rfl (fun ls hl => ?_)
  refine lv_aload_n hx hb dL_law_40 rfl (lv_at hl 3 rfl) ?_
  refine goL ([]) ([]) hP hD hS hA (rnV (rest := []) (c_digest sa tb D cA cL l x a dy co ti ro u 4 B ch v 2 G w T a2 dy2 co2 ti2 ro2 u2 n2 B2 ch2 v2 nb2 G2 w2 T2 (show 4 ≤ 8 from by first | omega | assumption | decide) (show 2 ≤ 3 from by first | omega | assumption | decide)) ([]) ([]) hP hD hS hA hE ⟨hx, hb, hml, hown, hts⟩ (cwV 0 hts gL_law_X4_digest rfl rfl rfl (by decide +kernel) ⟨(Nat.le_of_ble_eq_true rfl), (Nat.le_of_ble_eq_true rfl)⟩) 4 0 rfl rfl rfl rfl hl.1 rfl (Nat.le_of_ble_eq_true rfl) dL_law_41 ⟨(Nat.le_of_ble_eq_true rfl), (Nat.le_of_ble_eq_true rfl)⟩) (fun _ => rfl) (fun r_41 u_41 H locs hw_41 hP hD hS => ?_)
  have hP : va_P D vwCl (wX cA x a dy co ti ro u 4 B ch v 2 G w T a2 dy2 co2 ti2 ro2 u2 n2 B2 ch2 v2 nb2 G2 w2 T2) H := hP
  have hD : va_D A (wX cA x a dy co ti ro u 4 B ch v 2 G w T a2 dy2 co2 ti2 ro2 u2 n2 B2 ch2 v2 nb2 G2 w2 T2) := hD
  obtain rfl : r_41 = digF dy co ti ro 4 B 2 G T := hw_41
  refine lv_topl (fun dg0 hdg0 => ?_)
  refine lv_lstore (lv' := [(7, .long dg0), (6, .int (nI (bel xv 4))), (5, .int xv), (0, .ref sa.1), (1, .ref x), (2, .int cu), (3, .int ti), (4, .int (nI i))]) hx hb dL_law_44 hl (by decide) rfl (fun ls hl => ?_)
  refine lv_aload_n hx hb dL_law_46 rfl (lv_at hl 4 rfl) ?_
  refine lv_bipush (v := 20) hx hb dL_law_47 (by decide) ?_
  refine lv_iconst (v := 5) hx hb dL_law_49 (by decide) ?_
  refine goI ([]) ([]) hP hD hS hA (rnV (rest := []) (c_foresee sa tb D cA cL l x a dy co ti ro u 4 B ch v 2 G w T a2 dy2 co2 ti2 ro2 u2 n2 B2 ch2 v2 nb2 G2 w2 T2 20 5 (show 4 ≤ 8 from by first | omega | assumption | decide) (show 2 ≤ 3 from by first | omega | assumption | decide) (show 1 ≤ 20 from by first | omega | assumption | decide) (show 20 ≤ 200 from by first | omega | assumption | decide) (show 5 = 4 ∨ 5 = 5 ∨ 5 = 9 ∨ 5 = 10 from by first | omega | assumption | decide)) ([]) ([]) hP hD hS hA hE ⟨hx, hb, hml, hown, hts⟩ (cwV 2 hts gL_law_X4_foresee rfl rfl rfl (by decide +kernel) ⟨(Nat.le_of_ble_eq_true rfl), (Nat.le_of_ble_eq_true rfl)⟩) 4 0 rfl rfl rfl rfl hl.1 rfl (Nat.le_of_ble_eq_true rfl) dL_law_50 ⟨(Nat.le_of_ble_eq_true rfl), (Nat.le_of_ble_eq_true rfl)⟩) (fun _ => (show List.map Prod.fst _ = [x, a 0, a 1, u 0, u 1, u 2, u 3, u 4, u 5, u 6, u 7, u 8, a 2, v 0, v 1, v 2, v 3, v 4, a 3, w, a2 0, a2 1, u2 0, u2 1, u2 2, u2 3, u2 4, u2 5, u2 6, u2 7, u2 8, a2 2, v2 0, v2 1, v2 2, v2 3, v2 4, a2 3, w2] from rfl).trans (show [x, a 0, a 1, u 0, u 1, u 2, u 3, u 4, u 5, u 6, u 7, u 8, a 2, v 0, v 1, v 2, v 3, v 4, a 3, w, a2 0, a2 1, u2 0, u2 1, u2 2, u2 3, u2 4, u2 5, u2 6, u2 7, u2 8, a2 2, v2 0, v2 1, v2 2, v2 3, v2 4, a2 3, w2] = List.map Prod.fst _ from rfl)) (fun r_50 u_50 H locs hw_50 hP hD hS => ?_)
  have hP : va_P D vwCl (wX cA x a dy co ti ro u 4 B ch v 2 G w T a2 u_50.1 u_50.2.1 u_50.2.2.1 u_50.2.2.2.1 u2 4 u_50.2.2.2.2.1 u_50.2.2.2.2.2.1 v2 2 u_50.2.2.2.2.2.2.1 w2 u_50.2.2.2.2.2.2.2) H := hP
  have hD : va_D A (wX cA x a dy co ti ro u 4 B ch v 2 G w T a2 u_50.1 u_50.2.1 u_50.2.2.1 u_50.2.2.2.1 u2 4 u_50.2.2.2.2.1 u_50.2.2.2.2.2.1 v2 2 u_50.2.2.2.2.2.2.1 w2 u_50.2.2.2.2.2.2.2) := hD
  obtain rfl : r_50 = tellW (daysS 4 2 20 (dy, ro, cpB 4 B B2, cpG 2 G G2, cpT T T2)).1 co ti (daysS 4 2 20 (dy, ro, cpB 4 B B2, cpG 2 G G2, cpT T T2)).2.1 4 (daysS 4 2 20 (dy, ro, cpB 4 B B2, cpG 2 G G2, cpT T T2)).2.2.1 2 (daysS 4 2 20 (dy, ro, cpB 4 B B2, cpG 2 G G2, cpT T T2)).2.2.2.1 (daysS 4 2 20 (dy, ro, cpB 4 B B2, cpG 2 G G2, cpT T T2)).2.2.2.2 5 := hw_50
  refine lv_topi (fun sn hsn => ?_)
  have hs : sn = fsee dy ro B G T := hsn.trans fore_eq
  refine lv_istore (lv' := [(9, .int sn), (7, .long dg0), (6, .int (nI (bel xv 4))), (5, .int xv), (0, .ref sa.1), (1, .ref x), (2, .int cu), (3, .int ti), (4, .int (nI i))]) hx hb dL_law_53 hl (by decide) rfl (fun ls hl => ?_)
  refine lv_aload_n hx hb dL_law_55 rfl (lv_at hl 5 rfl) ?_
  refine lv_iload hx hb dL_law_56 (lv_at hl 2 rfl) ?_
  refine goI ([]) ([]) hP hD hS hA (rnV (rest := []) (c_best sa tb D cA cL l x a dy co ti ro u 4 B ch v 2 G w T a2 u_50.1 u_50.2.1 u_50.2.2.1 u_50.2.2.2.1 u2 4 u_50.2.2.2.2.1 u_50.2.2.2.2.2.1 v2 2 u_50.2.2.2.2.2.2.1 w2 u_50.2.2.2.2.2.2.2 (bel xv 4) (show (bel xv 4) < 4 from by first | omega | assumption | decide) (show 4 ≤ 8 from by first | omega | assumption | decide)) ([]) ([]) hP hD hS hA hE ⟨hx, hb, hml, hown, hts⟩ (cwV 1 hts gL_law_X4_best rfl rfl rfl (by decide +kernel) ⟨(Nat.le_of_ble_eq_true rfl), (Nat.le_of_ble_eq_true rfl)⟩) 4 0 rfl rfl rfl rfl hl.1 rfl (Nat.le_of_ble_eq_true rfl) dL_law_58 ⟨(Nat.le_of_ble_eq_true rfl), (Nat.le_of_ble_eq_true rfl)⟩) (fun _ => (show List.map Prod.fst _ = [x, a 0, a 1, u 0, u 1, u 2, u 3, u 4, u 5, u 6, u 7, u 8, a 2, v 0, v 1, v 2, v 3, v 4, a 3, w, a2 0, a2 1, u2 0, u2 1, u2 2, u2 3, u2 4, u2 5, u2 6, u2 7, u2 8, a2 2, v2 0, v2 1, v2 2, v2 3, v2 4, a2 3, w2] from rfl).trans (show [x, a 0, a 1, u 0, u 1, u 2, u 3, u 4, u 5, u 6, u 7, u 8, a 2, v 0, v 1, v 2, v 3, v 4, a 3, w, a2 0, a2 1, u2 0, u2 1, u2 2, u2 3, u2 4, u2 5, u2 6, u2 7, u2 8, a2 2, v2 0, v2 1, v2 2, v2 3, v2 4, a2 3, w2] = List.map Prod.fst _ from rfl)) (fun r_58 u_58 H locs hw_58 hP hD hS => ?_)
  have hP : va_P D vwCl (wX cA x a dy co ti ro u 4 B ch v 2 G w T a2 u_50.1 u_50.2.1 u_50.2.2.1 u_50.2.2.2.1 u2 4 u_58.1 u_58.2 v2 2 u_50.2.2.2.2.2.2.1 w2 u_50.2.2.2.2.2.2.2) H := hP
  have hD : va_D A (wX cA x a dy co ti ro u 4 B ch v 2 G w T a2 u_50.1 u_50.2.1 u_50.2.2.1 u_50.2.2.2.1 u2 4 u_58.1 u_58.2 v2 2 u_50.2.2.2.2.2.2.1 w2 u_50.2.2.2.2.2.2.2) := hD
  obtain rfl : r_58 = (bestS 4 (cpB 4 B u_50.2.2.2.2.1) (bel xv 4) 9).2 := hw_58
  refine lv_topi (fun bst hbst => ?_)
  have b0 : ¬ bst < 0 := by rw [hbst]; exact best_0
  have b9 : ¬ 9 < bst := by rw [hbst]; exact best_9
  refine lv_istore (lv' := [(10, .int bst), (9, .int sn), (7, .long dg0), (6, .int (nI (bel xv 4))), (5, .int xv), (0, .ref sa.1), (1, .ref x), (2, .int cu), (3, .int ti), (4, .int (nI i))]) hx hb dL_law_61 hl (by decide) rfl (fun ls hl => ?_)
  refine lv_aload_n hx hb dL_law_63 rfl (lv_at hl 6 rfl) ?_
  refine lv_iload hx hb dL_law_64 (lv_at hl 4 rfl) ?_
  refine lv_iconst (v := 3) hx hb dL_law_66 (by decide) ?_
  refine lv_ishr hx hb dL_law_67 ?_
  refine lv_iconst (v := 2) hx hb dL_law_68 (by decide) ?_
  refine goI ([]) (wX cA x a dy co ti ro u 4 B ch v 2 G w T a2 u_50.1 u_50.2.1 u_50.2.2.1 u_50.2.2.2.1 u2 4 u_58.1 u_58.2 v2 2 u_50.2.2.2.2.2.2.1 w2 u_50.2.2.2.2.2.2.2) hP hD hS hA (rnS (rest := [.ref x]) (c_below sa tb D cA cL l (xv >>> (3 &&& 31)) 2 (show 0 < 2 from by first | omega | assumption | decide) (show 2 < 2 ^ 31 from by first | omega | assumption | decide)) ([]) (wX cA x a dy co ti ro u 4 B ch v 2 G w T a2 u_50.1 u_50.2.1 u_50.2.2.1 u_50.2.2.2.1 u2 4 u_58.1 u_58.2 v2 2 u_50.2.2.2.2.2.2.1 w2 u_50.2.2.2.2.2.2.2) hP hD hS hA hE ⟨hx, hb, hml, hown, hts⟩ (va_cwS 2 hts gL_law_L_below rfl rfl rfl (by decide +kernel) ⟨(Nat.le_of_ble_eq_true rfl), (Nat.le_of_ble_eq_true rfl)⟩) rfl hl.1 rfl (Nat.le_of_ble_eq_true rfl) dL_law_69 ⟨(Nat.le_of_ble_eq_true rfl), (Nat.le_of_ble_eq_true rfl)⟩) (fun _ => rfl) (fun r_69 u_69 H locs hw_69 hP hD hS => ?_)
  have hP : va_P D vwCl (wX cA x a dy co ti ro u 4 B ch v 2 G w T a2 u_50.1 u_50.2.1 u_50.2.2.1 u_50.2.2.2.1 u2 4 u_58.1 u_58.2 v2 2 u_50.2.2.2.2.2.2.1 w2 u_50.2.2.2.2.2.2.2) H := hP
  have hD : va_D A (wX cA x a dy co ti ro u 4 B ch v 2 G w T a2 u_50.1 u_50.2.1 u_50.2.2.1 u_50.2.2.2.1 u2 4 u_58.1 u_58.2 v2 2 u_50.2.2.2.2.2.2.1 w2 u_50.2.2.2.2.2.2.2) := hD
  obtain rfl : r_69 = nI (bel (xv >>> (3 &&& 31)) 2) := hw_69
  refine goI ([]) ([]) hP hD hS hA (rnV (rest := []) (c_advise sa tb D cA cL l x a dy co ti ro u 4 B ch v 2 G w T a2 u_50.1 u_50.2.1 u_50.2.2.1 u_50.2.2.2.1 u2 4 u_58.1 u_58.2 v2 2 u_50.2.2.2.2.2.2.1 w2 u_50.2.2.2.2.2.2.2 (bel (xv >>> (3 &&& 31)) 2) (show (bel (xv >>> (3 &&& 31)) 2) < 2 from by first | omega | assumption | decide) (show 4 ≤ 8 from by first | omega | assumption | decide) (show 2 ≤ 3 from by first | omega | assumption | decide) (show ∃ p, p < 31 ∧ G 0 (bel (xv >>> (3 &&& 31)) 2) = nI p from (hG.1.2.1 _ hba).place)) ([]) ([]) hP hD hS hA hE ⟨hx, hb, hml, hown, hts⟩ (cwV 1 hts gL_law_X4_advise rfl rfl rfl (by decide +kernel) ⟨(Nat.le_of_ble_eq_true rfl), (Nat.le_of_ble_eq_true rfl)⟩) 4 0 rfl rfl rfl rfl hl.1 rfl (Nat.le_of_ble_eq_true rfl) dL_law_72 ⟨(Nat.le_of_ble_eq_true rfl), (Nat.le_of_ble_eq_true rfl)⟩) (fun _ => (show List.map Prod.fst _ = [x, a 0, a 1, u 0, u 1, u 2, u 3, u 4, u 5, u 6, u 7, u 8, a 2, v 0, v 1, v 2, v 3, v 4, a 3, w, a2 0, a2 1, u2 0, u2 1, u2 2, u2 3, u2 4, u2 5, u2 6, u2 7, u2 8, a2 2, v2 0, v2 1, v2 2, v2 3, v2 4, a2 3, w2] from rfl).trans (show [x, a 0, a 1, u 0, u 1, u 2, u 3, u 4, u 5, u 6, u 7, u 8, a 2, v 0, v 1, v 2, v 3, v 4, a 3, w, a2 0, a2 1, u2 0, u2 1, u2 2, u2 3, u2 4, u2 5, u2 6, u2 7, u2 8, a2 2, v2 0, v2 1, v2 2, v2 3, v2 4, a2 3, w2] = List.map Prod.fst _ from rfl)) (fun r_72 u_72 H locs hw_72 hP hD hS => ?_)
  have hP : va_P D vwCl (wX cA x a dy co ti ro u 4 B ch v 2 G w T a2 u_72.1 u_72.2.1 u_72.2.2.1 u_72.2.2.2.1 u2 4 u_72.2.2.2.2.1 u_72.2.2.2.2.2.1 v2 2 u_72.2.2.2.2.2.2.1 w2 u_72.2.2.2.2.2.2.2) H := hP
  have hD : va_D A (wX cA x a dy co ti ro u 4 B ch v 2 G w T a2 u_72.1 u_72.2.1 u_72.2.2.1 u_72.2.2.2.1 u2 4 u_72.2.2.2.2.1 u_72.2.2.2.2.2.1 v2 2 u_72.2.2.2.2.2.2.1 w2 u_72.2.2.2.2.2.2.2) := hD
  obtain rfl : r_72 = advF G T (bel (xv >>> (3 &&& 31)) 2) := hw_72
  refine lv_topi (fun adv hadv => ?_)
  have a0 : ¬ adv < 0 := by rw [hadv]; exact adv_0
  have a2 : adv ≤ 2 := by rw [hadv]; exact adv_2
  refine lv_istore (lv' := [(11, .int adv), (10, .int bst), (9, .int sn), (7, .long dg0), (6, .int (nI (bel xv 4))), (5, .int xv), (0, .ref sa.1), (1, .ref x), (2, .int cu), (3, .int ti), (4, .int (nI i))]) hx hb dL_law_75 hl (by decide) rfl (fun ls hl => ?_)
  refine lv_aload_n hx hb dL_law_77 rfl (lv_at hl 7 rfl) ?_
  refine goL ([]) ([]) hP hD hS hA (rnV (rest := []) (c_digest sa tb D cA cL l x a dy co ti ro u 4 B ch v 2 G w T a2 u_72.1 u_72.2.1 u_72.2.2.1 u_72.2.2.2.1 u2 4 u_72.2.2.2.2.1 u_72.2.2.2.2.2.1 v2 2 u_72.2.2.2.2.2.2.1 w2 u_72.2.2.2.2.2.2.2 (show 4 ≤ 8 from by first | omega | assumption | decide) (show 2 ≤ 3 from by first | omega | assumption | decide)) ([]) ([]) hP hD hS hA hE ⟨hx, hb, hml, hown, hts⟩ (cwV 0 hts gL_law_X4_digest rfl rfl rfl (by decide +kernel) ⟨(Nat.le_of_ble_eq_true rfl), (Nat.le_of_ble_eq_true rfl)⟩) 4 0 rfl rfl rfl rfl hl.1 rfl (Nat.le_of_ble_eq_true rfl) dL_law_78 ⟨(Nat.le_of_ble_eq_true rfl), (Nat.le_of_ble_eq_true rfl)⟩) (fun _ => rfl) (fun r_78 u_78 H locs hw_78 hP hD hS => ?_)
  have hP : va_P D vwCl (wX cA x a dy co ti ro u 4 B ch v 2 G w T a2 u_72.1 u_72.2.1 u_72.2.2.1 u_72.2.2.2.1 u2 4 u_72.2.2.2.2.1 u_72.2.2.2.2.2.1 v2 2 u_72.2.2.2.2.2.2.1 w2 u_72.2.2.2.2.2.2.2) H := hP
  have hD : va_D A (wX cA x a dy co ti ro u 4 B ch v 2 G w T a2 u_72.1 u_72.2.1 u_72.2.2.1 u_72.2.2.2.1 u2 4 u_72.2.2.2.2.1 u_72.2.2.2.2.2.1 v2 2 u_72.2.2.2.2.2.2.1 w2 u_72.2.2.2.2.2.2.2) := hD
  obtain rfl : r_78 = digF dy co ti ro 4 B 2 G T := hw_78
  refine lv_lload hx hb dL_law_81 (lv_at hl 3 rfl) ?_
  refine W.lcmp hx hb dL_law_83 ?_
  refine w_eqi (show lg_cmp (digF dy co ti ro 4 B 2 G T) dg0 = 0 from by rw [hdg0]; exact cmp_0 _) ?_
  refine lv_if_ne (tgt := 110) hx hb dL_law_84 (by decide) (fun q => absurd q (by decide)) (fun _ => ?_)
  refine lv_iload hx hb dL_law_87 (lv_at hl 1 rfl) ?_
  refine lv_if_lt (tgt := 110) hx hb dL_law_89 (by decide) (fun c_89 => False.elim (by exact b0 c_89)) (fun c_89 => ?_)
  refine lv_iload hx hb dL_law_92 (lv_at hl 1 rfl) ?_
  refine lv_bipush (v := 9) hx hb dL_law_94 (by decide) ?_
  refine lv_icmp_gt (tgt := 110) hx hb dL_law_96 (by decide) (fun c_96 => False.elim (by exact b9 c_96)) (fun c_96 => ?_)
  refine lv_iload hx hb dL_law_99 (lv_at hl 0 rfl) ?_
  refine lv_if_lt (tgt := 110) hx hb dL_law_101 (by decide) (fun c_101 => False.elim (by exact a0 c_101)) (fun c_101 => ?_)
  refine lv_iload hx hb dL_law_104 (lv_at hl 0 rfl) ?_
  refine lv_iconst (v := 2) hx hb dL_law_106 (by decide) ?_
  refine lv_icmp_le (tgt := 112) hx hb dL_law_107 (by decide) (fun c_107 => ?_) (fun c_107 => False.elim (by exact c_107 a2))
  exact K xv (bel xv 4) sn hk hs _ H locs ls ⟨_, _, _, _, _, _, _, _, _, _, _, _, _, _, _, _, _, _, _, rfl⟩ hP hD hS (lv_sub hl [6, 7, 8, 9, 10, 5, 4, 2] rfl)
set_option maxRecDepth 100000 in
set_option maxHeartbeats 4000000 in
theorem J_13 {p : Program} {l : Launch} {e : Env} {s : State} {m : MethodId} {below : List Frame} {meth : Method} {c : Code} {Q : State → Prop} {sa : Nat × Nat × (Nat → Int32)} {tb : Nat → Nat} {D : va_G} {cA cL : ClassId} {A : Nat → Prop} {x i : Nat} {cu dy co ti ro : Int32} {B G : Nat → Nat → Int32} {T : Nat → Int32}  (C : LawC p s m c sa tb D cA cL A) (h16 : i ≤ 16) (K1 : 16 ≤ i → KT p l e s m below meth c Q sa D cA A x 601 (lvT sa x cu ti i) dy co ti ro B G T) (K2 : ¬ 16 ≤ i → KT p l e s m below meth c Q sa D cA A x 20 (lvT sa x cu ti i) dy co ti ro B G T) : KT p l e s m below meth c Q sa D cA A x 13 (lvT sa x cu ti i) dy co ti ro B G T := by
  obtain ⟨hx, hb, hml, hown, hts, hA, hE⟩ := id C
  intro Wd H locs ls hW hP hD hS hl
  obtain ⟨a, u, ch, v, w, a2, dy2, co2, ti2, ro2, u2, n2, B2, ch2, v2, nb2, G2, w2, T2, rfl⟩ := hW
  have hl : lv_has ls 14 [(0, .ref sa.1), (1, .ref x), (2, .int cu), (3, .int ti), (4, .int (nI i))] := hl
  refine lv_iload hx hb dL_law_13 (lv_at hl 4 rfl) ?_
  refine lv_bipush (v := 16) hx hb dL_law_15 (by decide) ?_
  refine rc_ge (tgt := 601) (a := i) (b := 16) hx hb (by omega) (by omega) dL_law_17 (by decide) (fun c_17 => ?_) (fun c_17 => ?_)
  · exact (K1 c_17) _ H locs ls ⟨_, _, _, _, _, _, _, _, _, _, _, _, _, _, _, _, _, _, _, rfl⟩ hP hD hS (lv_sub hl [0, 1, 2, 3, 4] rfl)
  · exact (K2 c_17) _ H locs ls ⟨_, _, _, _, _, _, _, _, _, _, _, _, _, _, _, _, _, _, _, rfl⟩ hP hD hS (lv_sub hl [0, 1, 2, 3, 4] rfl)
set_option maxRecDepth 100000 in
set_option maxHeartbeats 4000000 in
theorem J_595 {p : Program} {l : Launch} {e : Env} {s : State} {m : MethodId} {below : List Frame} {meth : Method} {c : Code} {Q : State → Prop} {sa : Nat × Nat × (Nat → Int32)} {tb : Nat → Nat} {D : va_G} {cA cL : ClassId} {A : Nat → Prop} {x i : Nat} {cu dy co ti ro : Int32} {B G : Nat → Nat → Int32} {T : Nat → Int32}  (C : LawC p s m c sa tb D cA cL A) (hi : i < 16) (K : KT p l e s m below meth c Q sa D cA A x 13 (lvT sa x cu ti (i + 1)) dy co ti ro B G T) : KT p l e s m below meth c Q sa D cA A x 595 (lvT sa x cu ti i) dy co ti ro B G T := by
  obtain ⟨hx, hb, hml, hown, hts, hA, hE⟩ := id C
  intro Wd H locs ls hW hP hD hS hl
  obtain ⟨a, u, ch, v, w, a2, dy2, co2, ti2, ro2, u2, n2, B2, ch2, v2, nb2, G2, w2, T2, rfl⟩ := hW
  have hl : lv_has ls 14 [(0, .ref sa.1), (1, .ref x), (2, .int cu), (3, .int ti), (4, .int (nI i))] := hl
  refine lv_iinc (v := (nI (i + 1))) (lv' := [(4, .int (nI (i + 1))), (0, .ref sa.1), (1, .ref x), (2, .int cu), (3, .int ti)]) (k := 4) hx hb dL_law_595 hl rfl (iinc1 _) (by decide) rfl (fun ls hl => ?_)
  refine lv_goto (tgt := 13) hx hb dL_law_598 (by decide) ?_
  exact K _ H locs ls ⟨_, _, _, _, _, _, _, _, _, _, _, _, _, _, _, _, _, _, _, rfl⟩ hP hD hS (lv_sub hl [1, 2, 3, 4, 0] rfl)
set_option maxRecDepth 100000 in
set_option maxHeartbeats 4000000 in
/-- the law's loop -/
theorem J_loop {p : Program} {l : Launch} {e : Env} {s : State} {m : MethodId} {below : List Frame} {meth : Method} {c : Code} {Q : State → Prop} {sa : Nat × Nat × (Nat → Int32)} {tb : Nat → Nat} {D : va_G} {cA cL : ClassId} {A : Nat → Prop} {x : Nat} (C : LawC p s m c sa tb D cA cL A)
    (Kend : ∀ (i : Nat) (cu dy co ti ro : Int32) (B G : Nat → Nat → Int32) (T : Nat → Int32), KT p l e s m below meth c Q sa D cA A x 601 (lvT sa x cu ti i) dy co ti ro B G T) :
    ∀ (f i : Nat), i ≤ 16 → 16 ≤ i + f → ∀ (cu dy co ti ro : Int32) (B G : Nat → Nat → Int32) (T : Nat → Int32), GS i cu co ti ro B G T → KT p l e s m below meth c Q sa D cA A x 13 (lvT sa x cu ti i) dy co ti ro B G T := by
  intro f
  induction f with
  | zero =>
    intro i h1 h2 cu dy co ti ro B G T hG
    exact J_13 C h1 (fun _ => Kend i cu dy co ti ro B G T) (fun h => absurd (show 16 ≤ i by omega) h)
  | succ f ih =>
    intro i h1 h2 cu dy co ti ro B G T hG
    refine J_13 C h1 (fun _ => Kend i cu dy co ti ro B G T) (fun h => ?_)
    have hi : i < 16 := Nat.lt_of_not_le h
    refine J_ask C hi hG (fun xv kb sn hk hs => ?_)
    refine J_turn C hi hk hG hs (fun cu' dy' co' ti' ro' B' G' T' hG' => ?_)
    refine J_chkA C hi hG' (J_chkB C hi hG' (J_chkC C hi hG' (J_chkD C hi hG' (J_595 C hi ?_))))
    exact ih (i + 1) (by omega) (by omega) cu' dy' co' ti' ro' B' G' T' hG'
