theorem w_eqi {p : Program} {l : Launch} {e : Env} {R : Room} {s : State} {m : MethodId} {args : Array Value} {below : List Frame} {meth : Method} {c : Code} {H : Heap} {locs : List Loc} {cells slots : Nat} {Q : State → Prop} {rest : List Value} {pc : Nat} {ls : Array Slot} {x y : Int32} (h : x = y) (k : W p l e R s m args below meth c H locs cells slots Q (F0 m pc ls (.int y :: rest))) : W p l e R s m args below meth c H locs cells slots Q (F0 m pc ls (.int x :: rest)) := h ▸ k
set_option maxRecDepth 100000 in
set_option maxHeartbeats 4000000 in
theorem c_needPlace (sa : Nat × Nat × (Nat → Int32)) (tb : Nat → Nat) (D : va_G) (cA cL : ClassId) (l : Launch) (x : Int32) (h0 : ¬ x < 0) (h1 : x ≤ 30) : KM sa tb D cA cL l yX4_needPlace wsX4_needPlace ({ frames := 0, cells := 0, slots := 0, locals := 0 }) [.int x] ([]) (qV D (fun (_ : Unit) => True) (fun _ => [])) := by
  refine KM.of (cc := cX4_needPlace) (maxL := 1) (ret := none) (by decide) rfl (Nat.le_of_ble_eq_true rfl) ?_
  intro pg e s m args below meth c A hx hb hr hml hlocks hts hown hS hA hE hP hD ls hl
  have hown : s.vm.findClass RX4 = some m.cls := hown
  have hl : lv_has ls 1 [(0, .int x)] := hl
  refine lv_iload_n hx hb dX4_needPlace_0 rfl (lv_at hl 0 rfl) ?_
  refine lv_if_lt (tgt := 10) hx hb dX4_needPlace_1 (by decide) (fun c_1 => False.elim (by exact h0 c_1)) (fun c_1 => ?_)
  refine lv_iload_n hx hb dX4_needPlace_4 rfl (lv_at hl 0 rfl) ?_
  refine lv_bipush (v := 30) hx hb dX4_needPlace_5 (by decide) ?_
  refine lv_icmp_le (tgt := 20) hx hb dX4_needPlace_7 (by decide) (fun c_7 => ?_) (fun c_7 => False.elim (by exact c_7 h1))
  exact enV () hx hb hr hlocks hS hP (trivial) dX4_needPlace_20
set_option maxRecDepth 100000 in
set_option maxHeartbeats 4000000 in
theorem c_needLanding (sa : Nat × Nat × (Nat → Int32)) (tb : Nat → Nat) (D : va_G) (cA cL : ClassId) (l : Launch) (k : Nat) (hk : k < 3) : KM sa tb D cA cL l yX4_needLanding wsX4_needLanding ({ frames := 0, cells := 0, slots := 0, locals := 0 }) [.int (nI k)] ([]) (qV D (fun (_ : Unit) => True) (fun _ => [])) := by
  refine KM.of (cc := cX4_needLanding) (maxL := 1) (ret := none) (by decide) rfl (Nat.le_of_ble_eq_true rfl) ?_
  intro pg e s m args below meth c A hx hb hr hml hlocks hts hown hS hA hE hP hD ls hl
  have hown : s.vm.findClass RX4 = some m.cls := hown
  have hl : lv_has ls 1 [(0, .int (nI k))] := hl
  refine lv_iload_n hx hb dX4_needLanding_0 rfl (lv_at hl 0 rfl) ?_
  refine lv_if_lt (tgt := 9) hx hb dX4_needLanding_1 (by decide) (fun q => absurd q (nI_pos (by omega))) (fun _ => ?_)
  refine lv_iload_n hx hb dX4_needLanding_4 rfl (lv_at hl 0 rfl) ?_
  refine lv_iconst (v := 3) hx hb dX4_needLanding_5 (by decide) ?_
  refine rc_lt (tgt := 19) (a := k) (b := 3) hx hb (by omega) (by omega) dX4_needLanding_6 (by decide) (fun c_6 => ?_) (fun c_6 => False.elim (by omega))
  exact enV () hx hb hr hlocks hS hP (trivial) dX4_needLanding_19
set_option maxRecDepth 100000 in
set_option maxHeartbeats 4000000 in
theorem c_needFigure (sa : Nat × Nat × (Nat → Int32)) (tb : Nat → Nat) (D : va_G) (cA cL : ClassId) (l : Launch) (qw : Nat) (f : Nat) (hw : qw < f) (hf : f < 100) : KM sa tb D cA cL l yX4_needFigure wsX4_needFigure ({ frames := 0, cells := 0, slots := 0, locals := 0 }) [.int (nI qw), .int (nI f)] ([]) (qV D (fun (_ : Unit) => True) (fun _ => [])) := by
  refine KM.of (cc := cX4_needFigure) (maxL := 2) (ret := none) (by decide) rfl (Nat.le_of_ble_eq_true rfl) ?_
  intro pg e s m args below meth c A hx hb hr hml hlocks hts hown hS hA hE hP hD ls hl
  have hown : s.vm.findClass RX4 = some m.cls := hown
  have hl : lv_has ls 2 [(0, .int (nI qw)), (1, .int (nI f))] := hl
  refine lv_iload_n hx hb dX4_needFigure_0 rfl (lv_at hl 0 rfl) ?_
  refine lv_if_lt (tgt := 9) hx hb dX4_needFigure_1 (by decide) (fun q => absurd q (nI_pos (by omega))) (fun _ => ?_)
  refine lv_iload_n hx hb dX4_needFigure_4 rfl (lv_at hl 0 rfl) ?_
  refine lv_iload_n hx hb dX4_needFigure_5 rfl (lv_at hl 1 rfl) ?_
  refine rc_lt (tgt := 19) (a := qw) (b := f) hx hb (by omega) (by omega) dX4_needFigure_6 (by decide) (fun c_6 => ?_) (fun c_6 => False.elim (by omega))
  exact enV () hx hb hr hlocks hS hP (trivial) dX4_needFigure_19
set_option maxRecDepth 100000 in
set_option maxHeartbeats 4000000 in
theorem c_needDays (sa : Nat × Nat × (Nat → Int32)) (tb : Nat → Nat) (D : va_G) (cA cL : ClassId) (l : Launch) (d : Nat) (h0 : 1 ≤ d) (h1 : d ≤ 200) : KM sa tb D cA cL l yX4_needDays wsX4_needDays ({ frames := 0, cells := 0, slots := 0, locals := 0 }) [.int (nI d)] ([]) (qV D (fun (_ : Unit) => True) (fun _ => [])) := by
  refine KM.of (cc := cX4_needDays) (maxL := 1) (ret := none) (by decide) rfl (Nat.le_of_ble_eq_true rfl) ?_
  intro pg e s m args below meth c A hx hb hr hml hlocks hts hown hS hA hE hP hD ls hl
  have hown : s.vm.findClass RX4 = some m.cls := hown
  have hl : lv_has ls 1 [(0, .int (nI d))] := hl
  refine lv_iload_n hx hb dX4_needDays_0 rfl (lv_at hl 0 rfl) ?_
  refine lv_iconst (v := 1) hx hb dX4_needDays_1 (by decide) ?_
  refine rc_lt (tgt := 12) (a := d) (b := 1) hx hb (by omega) (by omega) dX4_needDays_2 (by decide) (fun c_2 => False.elim (by omega)) (fun c_2 => ?_)
  refine lv_iload_n hx hb dX4_needDays_5 rfl (lv_at hl 0 rfl) ?_
  refine lv_sipush (v := 200) hx hb dX4_needDays_6 (by decide) ?_
  refine rc_le (tgt := 22) (a := d) (b := 200) hx hb (by omega) (by omega) dX4_needDays_9 (by decide) (fun c_9 => ?_) (fun c_9 => False.elim (by omega))
  exact enV () hx hb hr hlocks hS hP (trivial) dX4_needDays_22
set_option maxRecDepth 100000 in
set_option maxHeartbeats 4000000 in
theorem c_needBed (sa : Nat × Nat × (Nat → Int32)) (tb : Nat → Nat) (D : va_G) (cA cL : ClassId) (l : Launch) (ox : Nat) (a : Nat → Nat) (dy : Int32) (co : Int32) (ti : Int32) (ro : Int32) (u : Nat → Nat) (n : Nat) (B : Nat → Nat → Int32) (ch : Nat → Int32) (v : Nat → Nat) (nb : Nat) (G : Nat → Nat → Int32) (w : Nat) (T : Nat → Int32) (a2 : Nat → Nat) (dy2 : Int32) (co2 : Int32) (ti2 : Int32) (ro2 : Int32) (u2 : Nat → Nat) (n2 : Nat) (B2 : Nat → Nat → Int32) (ch2 : Nat → Int32) (v2 : Nat → Nat) (nb2 : Nat) (G2 : Nat → Nat → Int32) (w2 : Nat) (T2 : Nat → Int32) (k : Nat) (hk : k < n) (hn : n ≤ 8) : KM sa tb D cA cL l yX4_needBed wsX4_needBed ({ frames := 0, cells := 0, slots := 0, locals := 0 }) [.ref ox, .int (nI k)] (wX cA ox a dy co ti ro u n B ch v nb G w T a2 dy2 co2 ti2 ro2 u2 n2 B2 ch2 v2 nb2 G2 w2 T2) (qV D (fun (_ : Unit) => True) (fun _ => wX cA ox a dy co ti ro u n B ch v nb G w T a2 dy2 co2 ti2 ro2 u2 n2 B2 ch2 v2 nb2 G2 w2 T2)) := by
  refine KM.of (cc := cX4_needBed) (maxL := 2) (ret := none) (by decide) rfl (Nat.le_of_ble_eq_true rfl) ?_
  intro pg e s m args below meth c A hx hb hr hml hlocks hts hown hS hA hE hP hD ls hl
  have hown : s.vm.findClass RX4 = some m.cls := hown
  have hl : lv_has ls 2 [(0, .ref ox), (1, .int (nI k))] := hl
  have hwX1 : ∀ w ∈ wsX10, w ∈ wsX4_needBed := (fun _ h => List.mem_cons_of_mem _ (List.mem_append_left _ (List.mem_append_right _ h)))
  have hwX3 : ∀ w ∈ wsX30, w ∈ wsX4_needBed := (fun _ h => List.mem_cons_of_mem _ (List.mem_append_left _ (List.mem_append_left _ (List.mem_append_right _ h))))
  have hwX4 : ∀ w ∈ wsX40, w ∈ wsX4_needBed := (fun _ h => List.mem_cons_of_mem _ (List.mem_append_left _ (List.mem_append_left _ (List.mem_append_left _ (List.mem_append_right _ h)))))
  refine lv_iload_n hx hb dX4_needBed_0 rfl (lv_at hl 1 rfl) ?_
  refine lv_if_lt (tgt := 18) hx hb dX4_needBed_1 (by decide) (fun q => absurd q (nI_pos (by omega))) (fun _ => ?_)
  refine lv_iload_n hx hb dX4_needBed_4 rfl (lv_at hl 1 rfl) ?_
  refine lv_aload_n hx hb dX4_needBed_5 rfl (lv_at hl 0 rfl) ?_
  refine va_get (D := D) (ci := 4) (v := .ref (a 0)) (C := RX4) (T := TX4) (N := 2) hx hb hts hwX4 hown hE.K hP 0 rfl rfl 0 (by decide) (hts (.fieldLink RX4 10 "SedgeBarges" "now" "LSedgeBarges$Waterway;") (List.mem_of_getElem? (i := 3) rfl)) (fun _ h9 => h9) rfl dX4_needBed_6 ?_
  refine va_getN (D := D) (ci := 3) (v := .ref (a 1)) (C := RX3) (T := TX3) (N := 7) hx hb hts hwX3 hown hE.K hP 1 rfl rfl 4 (by decide) (nf_5 hE) (fun _ h9 => h9) rfl dX4_needBed_9 ?_
  refine va_getN (D := D) (ci := 1) (v := .int (nI n)) (C := RX1) (T := TX1) (N := 10) hx hb hts hwX1 hown hE.K hP 2 rfl rfl 0 (by decide) (nf_3 hE) (fun _ h9 => h9) rfl dX4_needBed_12 ?_
  refine rc_lt (tgt := 28) (a := k) (b := n) hx hb (by omega) (by omega) dX4_needBed_15 (by decide) (fun c_15 => ?_) (fun c_15 => False.elim (by omega))
  exact enV () hx hb hr hlocks hS hP (trivial) dX4_needBed_28
set_option maxRecDepth 100000 in
set_option maxHeartbeats 4000000 in
theorem c_needBarge (sa : Nat × Nat × (Nat → Int32)) (tb : Nat → Nat) (D : va_G) (cA cL : ClassId) (l : Launch) (ox : Nat) (a : Nat → Nat) (dy : Int32) (co : Int32) (ti : Int32) (ro : Int32) (u : Nat → Nat) (n : Nat) (B : Nat → Nat → Int32) (ch : Nat → Int32) (v : Nat → Nat) (nb : Nat) (G : Nat → Nat → Int32) (w : Nat) (T : Nat → Int32) (a2 : Nat → Nat) (dy2 : Int32) (co2 : Int32) (ti2 : Int32) (ro2 : Int32) (u2 : Nat → Nat) (n2 : Nat) (B2 : Nat → Nat → Int32) (ch2 : Nat → Int32) (v2 : Nat → Nat) (nb2 : Nat) (G2 : Nat → Nat → Int32) (w2 : Nat) (T2 : Nat → Int32) (k : Nat) (hk : k < nb) (hnb : nb ≤ 3) : KM sa tb D cA cL l yX4_needBarge wsX4_needBarge ({ frames := 0, cells := 0, slots := 0, locals := 0 }) [.ref ox, .int (nI k)] (wX cA ox a dy co ti ro u n B ch v nb G w T a2 dy2 co2 ti2 ro2 u2 n2 B2 ch2 v2 nb2 G2 w2 T2) (qV D (fun (_ : Unit) => True) (fun _ => wX cA ox a dy co ti ro u n B ch v nb G w T a2 dy2 co2 ti2 ro2 u2 n2 B2 ch2 v2 nb2 G2 w2 T2)) := by
  refine KM.of (cc := cX4_needBarge) (maxL := 2) (ret := none) (by decide) rfl (Nat.le_of_ble_eq_true rfl) ?_
  intro pg e s m args below meth c A hx hb hr hml hlocks hts hown hS hA hE hP hD ls hl
  have hown : s.vm.findClass RX4 = some m.cls := hown
  have hl : lv_has ls 2 [(0, .ref ox), (1, .int (nI k))] := hl
  have hwX0 : ∀ w ∈ wsX00, w ∈ wsX4_needBarge := (fun _ h => List.mem_cons_of_mem _ (List.mem_append_left _ (List.mem_append_right _ h)))
  have hwX3 : ∀ w ∈ wsX30, w ∈ wsX4_needBarge := (fun _ h => List.mem_cons_of_mem _ (List.mem_append_left _ (List.mem_append_left _ (List.mem_append_right _ h))))
  have hwX4 : ∀ w ∈ wsX40, w ∈ wsX4_needBarge := (fun _ h => List.mem_cons_of_mem _ (List.mem_append_left _ (List.mem_append_left _ (List.mem_append_left _ (List.mem_append_right _ h)))))
  refine lv_iload_n hx hb dX4_needBarge_0 rfl (lv_at hl 1 rfl) ?_
  refine lv_if_lt (tgt := 18) hx hb dX4_needBarge_1 (by decide) (fun q => absurd q (nI_pos (by omega))) (fun _ => ?_)
  refine lv_iload_n hx hb dX4_needBarge_4 rfl (lv_at hl 1 rfl) ?_
  refine lv_aload_n hx hb dX4_needBarge_5 rfl (lv_at hl 0 rfl) ?_
  refine va_get (D := D) (ci := 4) (v := .ref (a 0)) (C := RX4) (T := TX4) (N := 2) hx hb hts hwX4 hown hE.K hP 0 rfl rfl 0 (by decide) (hts (.fieldLink RX4 10 "SedgeBarges" "now" "LSedgeBarges$Waterway;") (List.mem_of_getElem? (i := 3) rfl)) (fun _ h9 => h9) rfl dX4_needBarge_6 ?_
  refine va_getN (D := D) (ci := 3) (v := .ref (a 2)) (C := RX3) (T := TX3) (N := 7) hx hb hts hwX3 hown hE.K hP 1 rfl rfl 5 (by decide) (nf_8 hE) (fun _ h9 => h9) rfl dX4_needBarge_9 ?_
  refine va_getN (D := D) (ci := 0) (v := .int (nI nb)) (C := RX0) (T := TX0) (N := 6) hx hb hts hwX0 hown hE.K hP 12 rfl rfl 0 (by decide) (nf_4 hE) (fun _ h9 => h9) rfl dX4_needBarge_12 ?_
  refine rc_lt (tgt := 28) (a := k) (b := nb) hx hb (by omega) (by omega) dX4_needBarge_15 (by decide) (fun c_15 => ?_) (fun c_15 => False.elim (by omega))
  exact enV () hx hb hr hlocks hS hP (trivial) dX4_needBarge_28
set_option maxRecDepth 100000 in
set_option maxHeartbeats 4000000 in
theorem c_bed (sa : Nat × Nat × (Nat → Int32)) (tb : Nat → Nat) (D : va_G) (cA cL : ClassId) (l : Launch) (ox : Nat) (a : Nat → Nat) (dy : Int32) (co : Int32) (ti : Int32) (ro : Int32) (u : Nat → Nat) (n : Nat) (B : Nat → Nat → Int32) (ch : Nat → Int32) (v : Nat → Nat) (nb : Nat) (G : Nat → Nat → Int32) (w : Nat) (T : Nat → Int32) (a2 : Nat → Nat) (dy2 : Int32) (co2 : Int32) (ti2 : Int32) (ro2 : Int32) (u2 : Nat → Nat) (n2 : Nat) (B2 : Nat → Nat → Int32) (ch2 : Nat → Int32) (v2 : Nat → Nat) (nb2 : Nat) (G2 : Nat → Nat → Int32) (w2 : Nat) (T2 : Nat → Int32) (p1 : Int32) (p2 : Int32) (p3 : Int32) (q0 : ¬ p1 < 0) (q1 : p1 ≤ 30) (q2 : ¬ p2 < 1) (q3 : p2 ≤ 9) (q4 : ¬ p3 < 0) (q5 : p3 ≤ 100) (hn : n < 8) : KM sa tb D cA cL l yX4_bed wsX4_bed ({ frames := 1, cells := 0, slots := 0, locals := 24 }) [.ref ox, .int p1, .int p2, .int p3] (wX cA ox a dy co ti ro u n B ch v nb G w T a2 dy2 co2 ti2 ro2 u2 n2 B2 ch2 v2 nb2 G2 w2 T2) (qI D (fun (r : Int32) (_ : Unit) => r = nI n) (fun _ => wX cA ox a dy co ti ro u (n + 1) (addB B n p1 p2 p3) ch v nb G w T a2 dy2 co2 ti2 ro2 u2 n2 B2 ch2 v2 nb2 G2 w2 T2)) := by
  refine KM.of (cc := cX4_bed) (maxL := 4) (ret := some .int) (by decide) rfl (Nat.le_of_ble_eq_true rfl) ?_
  intro pg e s m args below meth c A hx hb hr hml hlocks hts hown hS hA hE hP hD ls hl
  have hown : s.vm.findClass RX4 = some m.cls := hown
  have hl : lv_has ls 4 [(0, .ref ox), (1, .int p1), (2, .int p2), (3, .int p3)] := hl
  have hwX3 : ∀ w ∈ wsX30, w ∈ wsX4_bed := (fun _ h => List.mem_cons_of_mem _ (List.mem_append_left _ (List.mem_append_left _ (List.mem_append_left _ (List.mem_append_left _ (List.mem_append_right _ h))))))
  have hwX4 : ∀ w ∈ wsX40, w ∈ wsX4_bed := (fun _ h => List.mem_cons_of_mem _ (List.mem_append_left _ (List.mem_append_left _ (List.mem_append_left _ (List.mem_append_left _ (List.mem_append_left _ (List.mem_append_right _ h)))))))
  refine lv_iload_n hx hb dX4_bed_0 rfl (lv_at hl 1 rfl) ?_
  refine goV ([]) (wX cA ox a dy co ti ro u n B ch v nb G w T a2 dy2 co2 ti2 ro2 u2 n2 B2 ch2 v2 nb2 G2 w2 T2) hP hD hS hA (rnS (rest := []) (c_needPlace sa tb D cA cL l p1 (show ¬ p1 < 0 from q0) (show p1 ≤ 30 from q1)) ([]) (wX cA ox a dy co ti ro u n B ch v nb G w T a2 dy2 co2 ti2 ro2 u2 n2 B2 ch2 v2 nb2 G2 w2 T2) hP hD hS hA hE ⟨hx, hb, hml, hown, hts⟩ (va_cwS 1 hts gX4_bed_X4_needPlace rfl rfl rfl (by decide +kernel) ⟨(Nat.le_of_ble_eq_true rfl), (Nat.le_of_ble_eq_true rfl)⟩) rfl hl.1 rfl (Nat.le_of_ble_eq_true rfl) dX4_bed_1 ⟨(Nat.le_of_ble_eq_true rfl), (Nat.le_of_ble_eq_true rfl)⟩) (fun _ => rfl) (fun u_1 H locs hw_1 hP hD hS => ?_)
  have hP : va_P D vwCl (wX cA ox a dy co ti ro u n B ch v nb G w T a2 dy2 co2 ti2 ro2 u2 n2 B2 ch2 v2 nb2 G2 w2 T2) H := hP
  have hD : va_D A (wX cA ox a dy co ti ro u n B ch v nb G w T a2 dy2 co2 ti2 ro2 u2 n2 B2 ch2 v2 nb2 G2 w2 T2) := hD
  refine lv_iload_n hx hb dX4_bed_4 rfl (lv_at hl 2 rfl) ?_
  refine lv_iconst (v := 1) hx hb dX4_bed_5 (by decide) ?_
  refine lv_icmp_lt (tgt := 15) hx hb dX4_bed_6 (by decide) (fun c_6 => False.elim (by exact q2 c_6)) (fun c_6 => ?_)
  refine lv_iload_n hx hb dX4_bed_9 rfl (lv_at hl 2 rfl) ?_
  refine lv_bipush (v := 9) hx hb dX4_bed_10 (by decide) ?_
  refine lv_icmp_le (tgt := 25) hx hb dX4_bed_12 (by decide) (fun c_12 => ?_) (fun c_12 => False.elim (by exact c_12 q3))
  refine lv_iload_n hx hb dX4_bed_25 rfl (lv_at hl 3 rfl) ?_
  refine lv_if_lt (tgt := 35) hx hb dX4_bed_26 (by decide) (fun c_26 => False.elim (by exact q4 c_26)) (fun c_26 => ?_)
  refine lv_iload_n hx hb dX4_bed_29 rfl (lv_at hl 3 rfl) ?_
  refine lv_bipush (v := 100) hx hb dX4_bed_30 (by decide) ?_
  refine lv_icmp_le (tgt := 45) hx hb dX4_bed_32 (by decide) (fun c_32 => ?_) (fun c_32 => False.elim (by exact c_32 q5))
  refine lv_aload_n hx hb dX4_bed_45 rfl (lv_at hl 0 rfl) ?_
  refine va_get (D := D) (ci := 4) (v := .ref (a 0)) (C := RX4) (T := TX4) (N := 2) hx hb hts hwX4 hown hE.K hP 0 rfl rfl 0 (by decide) (hts (.fieldLink RX4 10 "SedgeBarges" "now" "LSedgeBarges$Waterway;") (List.mem_of_getElem? (i := 5) rfl)) (fun _ h9 => h9) rfl dX4_bed_46 ?_
  refine va_getN (D := D) (ci := 3) (v := .ref (a 1)) (C := RX3) (T := TX3) (N := 7) hx hb hts hwX3 hown hE.K hP 1 rfl rfl 4 (by decide) (nf_5 hE) (fun _ h9 => h9) rfl dX4_bed_49 ?_
  refine goI ([oX ox a a2, oWay a dy co ti ro]) (wBars cA (a 2) v nb G ++ (wLand cA (a 3) w T ++ (wWay cA a2 dy2 co2 ti2 ro2 u2 n2 B2 ch2 v2 nb2 G2 w2 T2))) hP hD hS hA (rnV (rest := []) (c_Beds_areFull sa tb D cA cL l (a 1) u n B ch (show n ≤ 8 from by first | omega | assumption | decide)) ([oX ox a a2, oWay a dy co ti ro]) (wBars cA (a 2) v nb G ++ (wLand cA (a 3) w T ++ (wWay cA a2 dy2 co2 ti2 ro2 u2 n2 B2 ch2 v2 nb2 G2 w2 T2))) hP hD hS hA hE ⟨hx, hb, hml, hown, hts⟩ (cwV 0 hts gX4_bed_X1_areFull rfl rfl rfl (by decide +kernel) ⟨(Nat.le_of_ble_eq_true rfl), (Nat.le_of_ble_eq_true rfl)⟩) 1 0 rfl rfl rfl rfl hl.1 rfl (Nat.le_of_ble_eq_true rfl) dX4_bed_52 ⟨(Nat.le_of_ble_eq_true rfl), (Nat.le_of_ble_eq_true rfl)⟩) (fun _ => rfl) (fun r_52 u_52 H locs hw_52 hP hD hS => ?_)
  have hP : va_P D vwCl (wX cA ox a dy co ti ro u n B ch v nb G w T a2 dy2 co2 ti2 ro2 u2 n2 B2 ch2 v2 nb2 G2 w2 T2) H := hP
  have hD : va_D A (wX cA ox a dy co ti ro u n B ch v nb G w T a2 dy2 co2 ti2 ro2 u2 n2 B2 ch2 v2 nb2 G2 w2 T2) := hD
  obtain rfl : r_52 = bI (decide (8 ≤ n)) := hw_52
  refine lv_if_eq (tgt := 68) hx hb dX4_bed_55 (by decide) (fun c_55 => ?_) (fun c_55 => False.elim (by exact c_55 (congrArg bI (decide_eq_false (by omega)))))
  refine lv_aload_n hx hb dX4_bed_68 rfl (lv_at hl 0 rfl) ?_
  refine va_get (D := D) (ci := 4) (v := .ref (a 0)) (C := RX4) (T := TX4) (N := 2) hx hb hts hwX4 hown hE.K hP 0 rfl rfl 0 (by decide) (hts (.fieldLink RX4 10 "SedgeBarges" "now" "LSedgeBarges$Waterway;") (List.mem_of_getElem? (i := 5) rfl)) (fun _ h9 => h9) rfl dX4_bed_69 ?_
  refine va_getN (D := D) (ci := 3) (v := .ref (a 1)) (C := RX3) (T := TX3) (N := 7) hx hb hts hwX3 hown hE.K hP 1 rfl rfl 4 (by decide) (nf_5 hE) (fun _ h9 => h9) rfl dX4_bed_72 ?_
  refine lv_iload_n hx hb dX4_bed_75 rfl (lv_at hl 1 rfl) ?_
  refine lv_iload_n hx hb dX4_bed_76 rfl (lv_at hl 2 rfl) ?_
  refine lv_iload_n hx hb dX4_bed_77 rfl (lv_at hl 3 rfl) ?_
  refine goI ([oX ox a a2, oWay a dy co ti ro]) (wBars cA (a 2) v nb G ++ (wLand cA (a 3) w T ++ (wWay cA a2 dy2 co2 ti2 ro2 u2 n2 B2 ch2 v2 nb2 G2 w2 T2))) hP hD hS hA (rnV (rest := []) (c_Beds_add sa tb D cA cL l (a 1) u n B ch p1 p2 p3 (show n < 8 from by first | omega | assumption | decide)) ([oX ox a a2, oWay a dy co ti ro]) (wBars cA (a 2) v nb G ++ (wLand cA (a 3) w T ++ (wWay cA a2 dy2 co2 ti2 ro2 u2 n2 B2 ch2 v2 nb2 G2 w2 T2))) hP hD hS hA hE ⟨hx, hb, hml, hown, hts⟩ (cwV 3 hts gX4_bed_X1_add rfl rfl rfl (by decide +kernel) ⟨(Nat.le_of_ble_eq_true rfl), (Nat.le_of_ble_eq_true rfl)⟩) 1 0 rfl rfl rfl rfl hl.1 rfl (Nat.le_of_ble_eq_true rfl) dX4_bed_78 ⟨(Nat.le_of_ble_eq_true rfl), (Nat.le_of_ble_eq_true rfl)⟩) (fun _ => rfl) (fun r_78 u_78 H locs hw_78 hP hD hS => ?_)
  have hP : va_P D vwCl (wX cA ox a dy co ti ro u (n + 1) (addB B n p1 p2 p3) ch v nb G w T a2 dy2 co2 ti2 ro2 u2 n2 B2 ch2 v2 nb2 G2 w2 T2) H := hP
  have hD : va_D A (wX cA ox a dy co ti ro u (n + 1) (addB B n p1 p2 p3) ch v nb G w T a2 dy2 co2 ti2 ro2 u2 n2 B2 ch2 v2 nb2 G2 w2 T2) := hD
  obtain rfl : r_78 = nI n := hw_78
  exact enI () hx hb hr hlocks hS hP (rfl) dX4_bed_81
set_option maxRecDepth 100000 in
set_option maxHeartbeats 4000000 in
theorem c_cut (sa : Nat × Nat × (Nat → Int32)) (tb : Nat → Nat) (D : va_G) (cA cL : ClassId) (l : Launch) (ox : Nat) (a : Nat → Nat) (dy : Int32) (co : Int32) (ti : Int32) (ro : Int32) (u : Nat → Nat) (n : Nat) (B : Nat → Nat → Int32) (ch : Nat → Int32) (v : Nat → Nat) (nb : Nat) (G : Nat → Nat → Int32) (w : Nat) (T : Nat → Int32) (a2 : Nat → Nat) (dy2 : Int32) (co2 : Int32) (ti2 : Int32) (ro2 : Int32) (u2 : Nat → Nat) (n2 : Nat) (B2 : Nat → Nat → Int32) (ch2 : Nat → Int32) (v2 : Nat → Nat) (nb2 : Nat) (G2 : Nat → Nat → Int32) (w2 : Nat) (T2 : Nat → Int32) (k : Nat) (hk : k < n) (hn : n ≤ 8) (ha : ¬ B 2 k = 0) : KM sa tb D cA cL l yX4_cut wsX4_cut ({ frames := 3, cells := 0, slots := 0, locals := 67 }) [.ref ox, .int (nI k)] (wX cA ox a dy co ti ro u n B ch v nb G w T a2 dy2 co2 ti2 ro2 u2 n2 B2 ch2 v2 nb2 G2 w2 T2) (qI D (fun (r : Int32) (_ : Unit) => r = given B k) (fun _ => wX cA ox a dy co ti ro u n (cutB B k) ch v nb G w T a2 dy2 co2 ti2 ro2 u2 n2 B2 ch2 v2 nb2 G2 w2 T2)) := by
  refine KM.of (cc := cX4_cut) (maxL := 2) (ret := some .int) (by decide) rfl (Nat.le_of_ble_eq_true rfl) ?_
  intro pg e s m args below meth c A hx hb hr hml hlocks hts hown hS hA hE hP hD ls hl
  have hown : s.vm.findClass RX4 = some m.cls := hown
  have hl : lv_has ls 2 [(0, .ref ox), (1, .int (nI k))] := hl
  have hwX1 : ∀ w ∈ wsX10, w ∈ wsX4_cut := (fun _ h => List.mem_cons_of_mem _ (List.mem_append_left _ (List.mem_append_left _ (List.mem_append_right _ h))))
  have hwX3 : ∀ w ∈ wsX30, w ∈ wsX4_cut := (fun _ h => List.mem_cons_of_mem _ (List.mem_append_left _ (List.mem_append_left _ (List.mem_append_left _ (List.mem_append_right _ h)))))
  have hwX4 : ∀ w ∈ wsX40, w ∈ wsX4_cut := (fun _ h => List.mem_cons_of_mem _ (List.mem_append_left _ (List.mem_append_left _ (List.mem_append_left _ (List.mem_append_left _ (List.mem_append_right _ h))))))
  refine lv_aload_n hx hb dX4_cut_0 rfl (lv_at hl 0 rfl) ?_
  refine lv_iload_n hx hb dX4_cut_1 rfl (lv_at hl 1 rfl) ?_
  refine goV ([]) ([]) hP hD hS hA (rnV (rest := []) (c_needBed sa tb D cA cL l ox a dy co ti ro u n B ch v nb G w T a2 dy2 co2 ti2 ro2 u2 n2 B2 ch2 v2 nb2 G2 w2 T2 k (show k < n from by first | omega | assumption | decide) (show n ≤ 8 from by first | omega | assumption | decide)) ([]) ([]) hP hD hS hA hE ⟨hx, hb, hml, hown, hts⟩ (cwV 1 hts gX4_cut_X4_needBed rfl rfl rfl (by decide +kernel) ⟨(Nat.le_of_ble_eq_true rfl), (Nat.le_of_ble_eq_true rfl)⟩) 4 0 rfl rfl rfl rfl hl.1 rfl (Nat.le_of_ble_eq_true rfl) dX4_cut_2 ⟨(Nat.le_of_ble_eq_true rfl), (Nat.le_of_ble_eq_true rfl)⟩) (fun _ => rfl) (fun u_2 H locs hw_2 hP hD hS => ?_)
  have hP : va_P D vwCl (wX cA ox a dy co ti ro u n B ch v nb G w T a2 dy2 co2 ti2 ro2 u2 n2 B2 ch2 v2 nb2 G2 w2 T2) H := hP
  have hD : va_D A (wX cA ox a dy co ti ro u n B ch v nb G w T a2 dy2 co2 ti2 ro2 u2 n2 B2 ch2 v2 nb2 G2 w2 T2) := hD
  refine lv_aload_n hx hb dX4_cut_5 rfl (lv_at hl 0 rfl) ?_
  refine va_get (D := D) (ci := 4) (v := .ref (a 0)) (C := RX4) (T := TX4) (N := 2) hx hb hts hwX4 hown hE.K hP 0 rfl rfl 0 (by decide) (hts (.fieldLink RX4 10 "SedgeBarges" "now" "LSedgeBarges$Waterway;") (List.mem_of_getElem? (i := 3) rfl)) (fun _ h9 => h9) rfl dX4_cut_6 ?_
  refine va_getN (D := D) (ci := 3) (v := .ref (a 1)) (C := RX3) (T := TX3) (N := 7) hx hb hts hwX3 hown hE.K hP 1 rfl rfl 4 (by decide) (nf_5 hE) (fun _ h9 => h9) rfl dX4_cut_9 ?_
  refine va_getN (D := D) (ci := 1) (v := .ref (u 2)) (C := RX1) (T := TX1) (N := 10) hx hb hts hwX1 hown hE.K hP 2 rfl rfl 3 (by decide) (nf_6 hE) (fun _ h9 => h9) rfl dX4_cut_12 ?_
  refine lv_iload_n hx hb dX4_cut_15 rfl (lv_at hl 1 rfl) ?_
  refine r_ald (f := B 2) (v := (B 2) k) hx hb hE hP 5 (k) rfl rfl (by omega) (by decide) rfl dX4_cut_16 ?_
  refine lv_if_ne (tgt := 30) hx hb dX4_cut_17 (by decide) (fun c_17 => ?_) (fun c_17 => False.elim (by exact ha c_17))
  refine lv_aload_n hx hb dX4_cut_30 rfl (lv_at hl 0 rfl) ?_
  refine va_get (D := D) (ci := 4) (v := .ref (a 0)) (C := RX4) (T := TX4) (N := 2) hx hb hts hwX4 hown hE.K hP 0 rfl rfl 0 (by decide) (hts (.fieldLink RX4 10 "SedgeBarges" "now" "LSedgeBarges$Waterway;") (List.mem_of_getElem? (i := 3) rfl)) (fun _ h9 => h9) rfl dX4_cut_31 ?_
  refine va_getN (D := D) (ci := 3) (v := .ref (a 1)) (C := RX3) (T := TX3) (N := 7) hx hb hts hwX3 hown hE.K hP 1 rfl rfl 4 (by decide) (nf_5 hE) (fun _ h9 => h9) rfl dX4_cut_34 ?_
  refine lv_iload_n hx hb dX4_cut_37 rfl (lv_at hl 1 rfl) ?_
  refine goI ([oX ox a a2, oWay a dy co ti ro]) (wBars cA (a 2) v nb G ++ (wLand cA (a 3) w T ++ (wWay cA a2 dy2 co2 ti2 ro2 u2 n2 B2 ch2 v2 nb2 G2 w2 T2))) hP hD hS hA (rnV (rest := []) (c_Beds_cutDown sa tb D cA cL l (a 1) u n B ch k (show k < 8 from by first | omega | assumption | decide)) ([oX ox a a2, oWay a dy co ti ro]) (wBars cA (a 2) v nb G ++ (wLand cA (a 3) w T ++ (wWay cA a2 dy2 co2 ti2 ro2 u2 n2 B2 ch2 v2 nb2 G2 w2 T2))) hP hD hS hA hE ⟨hx, hb, hml, hown, hts⟩ (cwV 1 hts gX4_cut_X1_cutDown rfl rfl rfl (by decide +kernel) ⟨(Nat.le_of_ble_eq_true rfl), (Nat.le_of_ble_eq_true rfl)⟩) 1 0 rfl rfl rfl rfl hl.1 rfl (Nat.le_of_ble_eq_true rfl) dX4_cut_38 ⟨(Nat.le_of_ble_eq_true rfl), (Nat.le_of_ble_eq_true rfl)⟩) (fun _ => rfl) (fun r_38 u_38 H locs hw_38 hP hD hS => ?_)
  have hP : va_P D vwCl (wX cA ox a dy co ti ro u n (cutB B k) ch v nb G w T a2 dy2 co2 ti2 ro2 u2 n2 B2 ch2 v2 nb2 G2 w2 T2) H := hP
  have hD : va_D A (wX cA ox a dy co ti ro u n (cutB B k) ch v nb G w T a2 dy2 co2 ti2 ro2 u2 n2 B2 ch2 v2 nb2 G2 w2 T2) := hD
  obtain rfl : r_38 = given B k := hw_38
  exact enI () hx hb hr hlocks hS hP (rfl) dX4_cut_41
set_option maxRecDepth 100000 in
set_option maxHeartbeats 4000000 in
theorem c_tie (sa : Nat × Nat × (Nat → Int32)) (tb : Nat → Nat) (D : va_G) (cA cL : ClassId) (l : Launch) (ox : Nat) (a : Nat → Nat) (dy : Int32) (co : Int32) (ti : Int32) (ro : Int32) (u : Nat → Nat) (n : Nat) (B : Nat → Nat → Int32) (ch : Nat → Int32) (v : Nat → Nat) (nb : Nat) (G : Nat → Nat → Int32) (w : Nat) (T : Nat → Int32) (a2 : Nat → Nat) (dy2 : Int32) (co2 : Int32) (ti2 : Int32) (ro2 : Int32) (u2 : Nat → Nat) (n2 : Nat) (B2 : Nat → Nat → Int32) (ch2 : Nat → Int32) (v2 : Nat → Nat) (nb2 : Nat) (G2 : Nat → Nat → Int32) (w2 : Nat) (T2 : Nat → Int32) (k : Nat) (hk : k < n) (hn : n ≤ 8) : KM sa tb D cA cL l yX4_tie wsX4_tie ({ frames := 2, cells := 0, slots := 0, locals := 48 }) [.ref ox, .int (nI k)] (wX cA ox a dy co ti ro u n B ch v nb G w T a2 dy2 co2 ti2 ro2 u2 n2 B2 ch2 v2 nb2 G2 w2 T2) (qI D (fun (r : Int32) (_ : Unit) => r = tieS B k ti + tieR B k ti) (fun _ => wX cA ox a dy co (ti - (tieS B k ti + tieR B k ti)) ro u n (tieB B k ti) ch v nb G w T a2 dy2 co2 ti2 ro2 u2 n2 B2 ch2 v2 nb2 G2 w2 T2)) := by
  refine KM.of (cc := cX4_tie) (maxL := 3) (ret := some .int) (by decide) rfl (Nat.le_of_ble_eq_true rfl) ?_
  intro pg e s m args below meth c A hx hb hr hml hlocks hts hown hS hA hE hP hD ls hl
  have hown : s.vm.findClass RX4 = some m.cls := hown
  have hl : lv_has ls 3 [(0, .ref ox), (1, .int (nI k))] := hl
  have hwX3 : ∀ w ∈ wsX30, w ∈ wsX4_tie := (fun _ h => List.mem_cons_of_mem _ (List.mem_append_left _ (List.mem_append_left _ (List.mem_append_right _ h))))
  have hwX4 : ∀ w ∈ wsX40, w ∈ wsX4_tie := (fun _ h => List.mem_cons_of_mem _ (List.mem_append_left _ (List.mem_append_left _ (List.mem_append_left _ (List.mem_append_right _ h)))))
  refine lv_aload_n hx hb dX4_tie_0 rfl (lv_at hl 0 rfl) ?_
  refine lv_iload_n hx hb dX4_tie_1 rfl (lv_at hl 1 rfl) ?_
  refine goV ([]) ([]) hP hD hS hA (rnV (rest := []) (c_needBed sa tb D cA cL l ox a dy co ti ro u n B ch v nb G w T a2 dy2 co2 ti2 ro2 u2 n2 B2 ch2 v2 nb2 G2 w2 T2 k (show k < n from by first | omega | assumption | decide) (show n ≤ 8 from by first | omega | assumption | decide)) ([]) ([]) hP hD hS hA hE ⟨hx, hb, hml, hown, hts⟩ (cwV 1 hts gX4_tie_X4_needBed rfl rfl rfl (by decide +kernel) ⟨(Nat.le_of_ble_eq_true rfl), (Nat.le_of_ble_eq_true rfl)⟩) 4 0 rfl rfl rfl rfl hl.1 rfl (Nat.le_of_ble_eq_true rfl) dX4_tie_2 ⟨(Nat.le_of_ble_eq_true rfl), (Nat.le_of_ble_eq_true rfl)⟩) (fun _ => rfl) (fun u_2 H locs hw_2 hP hD hS => ?_)
  have hP : va_P D vwCl (wX cA ox a dy co ti ro u n B ch v nb G w T a2 dy2 co2 ti2 ro2 u2 n2 B2 ch2 v2 nb2 G2 w2 T2) H := hP
  have hD : va_D A (wX cA ox a dy co ti ro u n B ch v nb G w T a2 dy2 co2 ti2 ro2 u2 n2 B2 ch2 v2 nb2 G2 w2 T2) := hD
  refine lv_aload_n hx hb dX4_tie_5 rfl (lv_at hl 0 rfl) ?_
  refine va_get (D := D) (ci := 4) (v := .ref (a 0)) (C := RX4) (T := TX4) (N := 2) hx hb hts hwX4 hown hE.K hP 0 rfl rfl 0 (by decide) (hts (.fieldLink RX4 10 "SedgeBarges" "now" "LSedgeBarges$Waterway;") (List.mem_of_getElem? (i := 1) rfl)) (fun _ h9 => h9) rfl dX4_tie_6 ?_
  refine va_getN (D := D) (ci := 3) (v := .ref (a 1)) (C := RX3) (T := TX3) (N := 7) hx hb hts hwX3 hown hE.K hP 1 rfl rfl 4 (by decide) (nf_5 hE) (fun _ h9 => h9) rfl dX4_tie_9 ?_
  refine lv_iload_n hx hb dX4_tie_12 rfl (lv_at hl 1 rfl) ?_
  refine lv_aload_n hx hb dX4_tie_13 rfl (lv_at hl 0 rfl) ?_
  refine va_get (D := D) (ci := 4) (v := .ref (a 0)) (C := RX4) (T := TX4) (N := 2) hx hb hts hwX4 hown hE.K hP 0 rfl rfl 0 (by decide) (hts (.fieldLink RX4 10 "SedgeBarges" "now" "LSedgeBarges$Waterway;") (List.mem_of_getElem? (i := 1) rfl)) (fun _ h9 => h9) rfl dX4_tie_14 ?_
  refine va_getN (D := D) (ci := 3) (v := .int ti) (C := RX3) (T := TX3) (N := 7) hx hb hts hwX3 hown hE.K hP 1 rfl rfl 2 (by decide) (nf_7 hE) (fun _ h9 => h9) rfl dX4_tie_17 ?_
  refine goI ([oX ox a a2, oWay a dy co ti ro]) (wBars cA (a 2) v nb G ++ (wLand cA (a 3) w T ++ (wWay cA a2 dy2 co2 ti2 ro2 u2 n2 B2 ch2 v2 nb2 G2 w2 T2))) hP hD hS hA (rnV (rest := []) (c_Beds_tieUp sa tb D cA cL l (a 1) u n B ch k ti (show k < 8 from by first | omega | assumption | decide)) ([oX ox a a2, oWay a dy co ti ro]) (wBars cA (a 2) v nb G ++ (wLand cA (a 3) w T ++ (wWay cA a2 dy2 co2 ti2 ro2 u2 n2 B2 ch2 v2 nb2 G2 w2 T2))) hP hD hS hA hE ⟨hx, hb, hml, hown, hts⟩ (cwV 2 hts gX4_tie_X1_tieUp rfl rfl rfl (by decide +kernel) ⟨(Nat.le_of_ble_eq_true rfl), (Nat.le_of_ble_eq_true rfl)⟩) 1 0 rfl rfl rfl rfl hl.1 rfl (Nat.le_of_ble_eq_true rfl) dX4_tie_20 ⟨(Nat.le_of_ble_eq_true rfl), (Nat.le_of_ble_eq_true rfl)⟩) (fun _ => rfl) (fun r_20 u_20 H locs hw_20 hP hD hS => ?_)
  have hP : va_P D vwCl (wX cA ox a dy co ti ro u n (tieB B k ti) ch v nb G w T a2 dy2 co2 ti2 ro2 u2 n2 B2 ch2 v2 nb2 G2 w2 T2) H := hP
  have hD : va_D A (wX cA ox a dy co ti ro u n (tieB B k ti) ch v nb G w T a2 dy2 co2 ti2 ro2 u2 n2 B2 ch2 v2 nb2 G2 w2 T2) := hD
  obtain rfl : r_20 = tieS B k ti + tieR B k ti := hw_20
  refine lv_topi (fun z_1 hz_1 => ?_)
  refine lv_istore_n (lv' := [(2, .int z_1), (0, .ref ox), (1, .int (nI k))]) hx hb dX4_tie_23 rfl hl (by decide) rfl (fun ls hl => ?_)
  refine lv_aload_n hx hb dX4_tie_24 rfl (lv_at hl 1 rfl) ?_
  refine va_get (D := D) (ci := 4) (v := .ref (a 0)) (C := RX4) (T := TX4) (N := 2) hx hb hts hwX4 hown hE.K hP 0 rfl rfl 0 (by decide) (hts (.fieldLink RX4 10 "SedgeBarges" "now" "LSedgeBarges$Waterway;") (List.mem_of_getElem? (i := 1) rfl)) (fun _ h9 => h9) rfl dX4_tie_25 ?_
  refine lv_dup hx hb dX4_tie_28 rfl ?_
  refine va_getN (D := D) (ci := 3) (v := .int ti) (C := RX3) (T := TX3) (N := 7) hx hb hts hwX3 hown hE.K hP 1 rfl rfl 2 (by decide) (nf_7 hE) (fun _ h9 => h9) rfl dX4_tie_29 ?_
  refine lv_iload_n hx hb dX4_tie_32 rfl (lv_at hl 0 rfl) ?_
  refine lv_isub hx hb dX4_tie_33 ?_
  refine lv_topi (fun z_2 hz_2 => ?_)
  refine va_putN (D := D) (ci := 3) (v := .int z_2) (ty := .int) (C := RX3) (T := TX3) (N := 7) hx hb hts hwX3 tyX3 tyX3_ok nmX3 hown hE.K hP hD hS 1 rfl rfl 2 (by decide) (nf_7 hE) (fun _ h9 => h9) rfl (by decide +kernel) rfl rfl (Nat.le_of_ble_eq_true rfl) dX4_tie_34 (fun H locs hP hD hS => ?_)
  have hP : va_P D vwCl (wX cA ox a dy co z_2 ro u n (tieB B k ti) ch v nb G w T a2 dy2 co2 ti2 ro2 u2 n2 B2 ch2 v2 nb2 G2 w2 T2) H := hP
  have hD : va_D A (wX cA ox a dy co z_2 ro u n (tieB B k ti) ch v nb G w T a2 dy2 co2 ti2 ro2 u2 n2 B2 ch2 v2 nb2 G2 w2 T2) := hD
  refine lv_iload_n hx hb dX4_tie_37 rfl (lv_at hl 0 rfl) ?_
  subst hz_2
  subst hz_1
  exact enI () hx hb hr hlocks hS hP (rfl) dX4_tie_38
set_option maxRecDepth 100000 in
set_option maxHeartbeats 4000000 in
theorem c_about (sa : Nat × Nat × (Nat → Int32)) (tb : Nat → Nat) (D : va_G) (cA cL : ClassId) (l : Launch) (ox : Nat) (a : Nat → Nat) (dy : Int32) (co : Int32) (ti : Int32) (ro : Int32) (u : Nat → Nat) (n : Nat) (B : Nat → Nat → Int32) (ch : Nat → Int32) (v : Nat → Nat) (nb : Nat) (G : Nat → Nat → Int32) (w : Nat) (T : Nat → Int32) (a2 : Nat → Nat) (dy2 : Int32) (co2 : Int32) (ti2 : Int32) (ro2 : Int32) (u2 : Nat → Nat) (n2 : Nat) (B2 : Nat → Nat → Int32) (ch2 : Nat → Int32) (v2 : Nat → Nat) (nb2 : Nat) (G2 : Nat → Nat → Int32) (w2 : Nat) (T2 : Nat → Int32) (k : Nat) (qw : Nat) (hk : k < n) (hn : n ≤ 8) (hw : qw < 10) : KM sa tb D cA cL l yX4_about wsX4_about ({ frames := 3, cells := 0, slots := 0, locals := 66 }) [.ref ox, .int (nI k), .int (nI qw)] (wX cA ox a dy co ti ro u n B ch v nb G w T a2 dy2 co2 ti2 ro2 u2 n2 B2 ch2 v2 nb2 G2 w2 T2) (qI D (fun (r : Int32) (_ : Unit) => r = tellB B k qw) (fun _ => wX cA ox a dy co ti ro u n B ch v nb G w T a2 dy2 co2 ti2 ro2 u2 n2 B2 ch2 v2 nb2 G2 w2 T2)) := by
  refine KM.of (cc := cX4_about) (maxL := 3) (ret := some .int) (by decide) rfl (Nat.le_of_ble_eq_true rfl) ?_
  intro pg e s m args below meth c A hx hb hr hml hlocks hts hown hS hA hE hP hD ls hl
  have hown : s.vm.findClass RX4 = some m.cls := hown
  have hl : lv_has ls 3 [(0, .ref ox), (1, .int (nI k)), (2, .int (nI qw))] := hl
  have hwX3 : ∀ w ∈ wsX30, w ∈ wsX4_about := (fun _ h => List.mem_cons_of_mem _ (List.mem_append_left _ (List.mem_append_left _ (List.mem_append_right _ h))))
  have hwX4 : ∀ w ∈ wsX40, w ∈ wsX4_about := (fun _ h => List.mem_cons_of_mem _ (List.mem_append_left _ (List.mem_append_left _ (List.mem_append_left _ (List.mem_append_right _ h)))))
  refine lv_aload_n hx hb dX4_about_0 rfl (lv_at hl 0 rfl) ?_
  refine lv_iload_n hx hb dX4_about_1 rfl (lv_at hl 1 rfl) ?_
  refine goV ([]) ([]) hP hD hS hA (rnV (rest := []) (c_needBed sa tb D cA cL l ox a dy co ti ro u n B ch v nb G w T a2 dy2 co2 ti2 ro2 u2 n2 B2 ch2 v2 nb2 G2 w2 T2 k (show k < n from by first | omega | assumption | decide) (show n ≤ 8 from by first | omega | assumption | decide)) ([]) ([]) hP hD hS hA hE ⟨hx, hb, hml, hown, hts⟩ (cwV 1 hts gX4_about_X4_needBed rfl rfl rfl (by decide +kernel) ⟨(Nat.le_of_ble_eq_true rfl), (Nat.le_of_ble_eq_true rfl)⟩) 4 0 rfl rfl rfl rfl hl.1 rfl (Nat.le_of_ble_eq_true rfl) dX4_about_2 ⟨(Nat.le_of_ble_eq_true rfl), (Nat.le_of_ble_eq_true rfl)⟩) (fun _ => rfl) (fun u_2 H locs hw_2 hP hD hS => ?_)
  have hP : va_P D vwCl (wX cA ox a dy co ti ro u n B ch v nb G w T a2 dy2 co2 ti2 ro2 u2 n2 B2 ch2 v2 nb2 G2 w2 T2) H := hP
  have hD : va_D A (wX cA ox a dy co ti ro u n B ch v nb G w T a2 dy2 co2 ti2 ro2 u2 n2 B2 ch2 v2 nb2 G2 w2 T2) := hD
  refine lv_iload_n hx hb dX4_about_5 rfl (lv_at hl 2 rfl) ?_
  refine lv_bipush (v := 10) hx hb dX4_about_6 (by decide) ?_
  refine goV ([]) (wX cA ox a dy co ti ro u n B ch v nb G w T a2 dy2 co2 ti2 ro2 u2 n2 B2 ch2 v2 nb2 G2 w2 T2) hP hD hS hA (rnS (rest := []) (c_needFigure sa tb D cA cL l qw 10 (show qw < 10 from by first | omega | assumption | decide) (show 10 < 100 from by first | omega | assumption | decide)) ([]) (wX cA ox a dy co ti ro u n B ch v nb G w T a2 dy2 co2 ti2 ro2 u2 n2 B2 ch2 v2 nb2 G2 w2 T2) hP hD hS hA hE ⟨hx, hb, hml, hown, hts⟩ (va_cwS 2 hts gX4_about_X4_needFigure rfl rfl rfl (by decide +kernel) ⟨(Nat.le_of_ble_eq_true rfl), (Nat.le_of_ble_eq_true rfl)⟩) rfl hl.1 rfl (Nat.le_of_ble_eq_true rfl) dX4_about_8 ⟨(Nat.le_of_ble_eq_true rfl), (Nat.le_of_ble_eq_true rfl)⟩) (fun _ => rfl) (fun u_8 H locs hw_8 hP hD hS => ?_)
  have hP : va_P D vwCl (wX cA ox a dy co ti ro u n B ch v nb G w T a2 dy2 co2 ti2 ro2 u2 n2 B2 ch2 v2 nb2 G2 w2 T2) H := hP
  have hD : va_D A (wX cA ox a dy co ti ro u n B ch v nb G w T a2 dy2 co2 ti2 ro2 u2 n2 B2 ch2 v2 nb2 G2 w2 T2) := hD
  refine lv_aload_n hx hb dX4_about_11 rfl (lv_at hl 0 rfl) ?_
  refine va_get (D := D) (ci := 4) (v := .ref (a 0)) (C := RX4) (T := TX4) (N := 2) hx hb hts hwX4 hown hE.K hP 0 rfl rfl 0 (by decide) (hts (.fieldLink RX4 10 "SedgeBarges" "now" "LSedgeBarges$Waterway;") (List.mem_of_getElem? (i := 1) rfl)) (fun _ h9 => h9) rfl dX4_about_12 ?_
  refine va_getN (D := D) (ci := 3) (v := .ref (a 1)) (C := RX3) (T := TX3) (N := 7) hx hb hts hwX3 hown hE.K hP 1 rfl rfl 4 (by decide) (nf_5 hE) (fun _ h9 => h9) rfl dX4_about_15 ?_
  refine lv_iload_n hx hb dX4_about_18 rfl (lv_at hl 1 rfl) ?_
  refine lv_iload_n hx hb dX4_about_19 rfl (lv_at hl 2 rfl) ?_
  refine goI ([oX ox a a2, oWay a dy co ti ro]) (wBars cA (a 2) v nb G ++ (wLand cA (a 3) w T ++ (wWay cA a2 dy2 co2 ti2 ro2 u2 n2 B2 ch2 v2 nb2 G2 w2 T2))) hP hD hS hA (rnV (rest := []) (c_Beds_tell sa tb D cA cL l (a 1) u n B ch k qw (show k < 8 from by first | omega | assumption | decide) (show qw < 10 from by first | omega | assumption | decide)) ([oX ox a a2, oWay a dy co ti ro]) (wBars cA (a 2) v nb G ++ (wLand cA (a 3) w T ++ (wWay cA a2 dy2 co2 ti2 ro2 u2 n2 B2 ch2 v2 nb2 G2 w2 T2))) hP hD hS hA hE ⟨hx, hb, hml, hown, hts⟩ (cwV 2 hts gX4_about_X1_tell rfl rfl rfl (by decide +kernel) ⟨(Nat.le_of_ble_eq_true rfl), (Nat.le_of_ble_eq_true rfl)⟩) 1 0 rfl rfl rfl rfl hl.1 rfl (Nat.le_of_ble_eq_true rfl) dX4_about_20 ⟨(Nat.le_of_ble_eq_true rfl), (Nat.le_of_ble_eq_true rfl)⟩) (fun _ => rfl) (fun r_20 u_20 H locs hw_20 hP hD hS => ?_)
  have hP : va_P D vwCl (wX cA ox a dy co ti ro u n B ch v nb G w T a2 dy2 co2 ti2 ro2 u2 n2 B2 ch2 v2 nb2 G2 w2 T2) H := hP
  have hD : va_D A (wX cA ox a dy co ti ro u n B ch v nb G w T a2 dy2 co2 ti2 ro2 u2 n2 B2 ch2 v2 nb2 G2 w2 T2) := hD
  obtain rfl : r_20 = tellB B k qw := hw_20
  exact enI () hx hb hr hlocks hS hP (rfl) dX4_about_23
set_option maxRecDepth 100000 in
set_option maxHeartbeats 4000000 in
theorem c_best (sa : Nat × Nat × (Nat → Int32)) (tb : Nat → Nat) (D : va_G) (cA cL : ClassId) (l : Launch) (ox : Nat) (a : Nat → Nat) (dy : Int32) (co : Int32) (ti : Int32) (ro : Int32) (u : Nat → Nat) (n : Nat) (B : Nat → Nat → Int32) (ch : Nat → Int32) (v : Nat → Nat) (nb : Nat) (G : Nat → Nat → Int32) (w : Nat) (T : Nat → Int32) (a2 : Nat → Nat) (dy2 : Int32) (co2 : Int32) (ti2 : Int32) (ro2 : Int32) (u2 : Nat → Nat) (n2 : Nat) (B2 : Nat → Nat → Int32) (ch2 : Nat → Int32) (v2 : Nat → Nat) (nb2 : Nat) (G2 : Nat → Nat → Int32) (w2 : Nat) (T2 : Nat → Int32) (k : Nat) (hk : k < n) (hn : n ≤ 8) : KM sa tb D cA cL l yX4_best wsX4_best ({ frames := 3, cells := 0, slots := 0, locals := 67 }) [.ref ox, .int (nI k)] (wX cA ox a dy co ti ro u n B ch v nb G w T a2 dy2 co2 ti2 ro2 u2 n2 B2 ch2 v2 nb2 G2 w2 T2) (qI D (fun (r : Int32) (uu : (Nat → Nat → Int32) × (Nat → Int32)) => r = (bestS n (cpB n B B2) k 9).2) (fun uu => wX cA ox a dy co ti ro u n B ch v nb G w T a2 dy2 co2 ti2 ro2 u2 n uu.1 uu.2 v2 nb2 G2 w2 T2)) := by
  refine KM.of (cc := cX4_best) (maxL := 6) (ret := some .int) (by decide) rfl (Nat.le_of_ble_eq_true rfl) ?_
  intro pg e s m args below meth c A hx hb hr hml hlocks hts hown hS hA hE hP hD ls hl
  have hown : s.vm.findClass RX4 = some m.cls := hown
  have hl : lv_has ls 6 [(0, .ref ox), (1, .int (nI k))] := hl
  have hwX3 : ∀ w ∈ wsX30, w ∈ wsX4_best := (fun _ h => List.mem_cons_of_mem _ (List.mem_append_left _ (List.mem_append_left _ (List.mem_append_right _ h))))
  have hwX4 : ∀ w ∈ wsX40, w ∈ wsX4_best := (fun _ h => List.mem_cons_of_mem _ (List.mem_append_left _ (List.mem_append_left _ (List.mem_append_left _ (List.mem_append_right _ h)))))
  refine lv_aload_n hx hb dX4_best_0 rfl (lv_at hl 0 rfl) ?_
  refine lv_iload_n hx hb dX4_best_1 rfl (lv_at hl 1 rfl) ?_
  refine goV ([]) ([]) hP hD hS hA (rnV (rest := []) (c_needBed sa tb D cA cL l ox a dy co ti ro u n B ch v nb G w T a2 dy2 co2 ti2 ro2 u2 n2 B2 ch2 v2 nb2 G2 w2 T2 k (show k < n from by first | omega | assumption | decide) (show n ≤ 8 from by first | omega | assumption | decide)) ([]) ([]) hP hD hS hA hE ⟨hx, hb, hml, hown, hts⟩ (cwV 1 hts gX4_best_X4_needBed rfl rfl rfl (by decide +kernel) ⟨(Nat.le_of_ble_eq_true rfl), (Nat.le_of_ble_eq_true rfl)⟩) 4 0 rfl rfl rfl rfl hl.1 rfl (Nat.le_of_ble_eq_true rfl) dX4_best_2 ⟨(Nat.le_of_ble_eq_true rfl), (Nat.le_of_ble_eq_true rfl)⟩) (fun _ => rfl) (fun u_2 H locs hw_2 hP hD hS => ?_)
  have hP : va_P D vwCl (wX cA ox a dy co ti ro u n B ch v nb G w T a2 dy2 co2 ti2 ro2 u2 n2 B2 ch2 v2 nb2 G2 w2 T2) H := hP
  have hD : va_D A (wX cA ox a dy co ti ro u n B ch v nb G w T a2 dy2 co2 ti2 ro2 u2 n2 B2 ch2 v2 nb2 G2 w2 T2) := hD
  refine lv_aload_n hx hb dX4_best_5 rfl (lv_at hl 0 rfl) ?_
  refine va_get (D := D) (ci := 4) (v := .ref (a2 0)) (C := RX4) (T := TX4) (N := 2) hx hb hts hwX4 hown hE.K hP 0 rfl rfl 1 (by decide) (hts (.fieldLink RX4 16 "SedgeBarges" "ahead" "LSedgeBarges$Waterway;") (List.mem_of_getElem? (i := 1) rfl)) (fun _ h9 => h9) rfl dX4_best_6 ?_
  refine va_getN (D := D) (ci := 3) (v := .ref (a2 1)) (C := RX3) (T := TX3) (N := 7) hx hb hts hwX3 hown hE.K hP 20 rfl rfl 4 (by decide) (nf_5 hE) (fun _ h9 => h9) rfl dX4_best_9 ?_
  refine lv_aload_n hx hb dX4_best_12 rfl (lv_at hl 0 rfl) ?_
  refine va_get (D := D) (ci := 4) (v := .ref (a 0)) (C := RX4) (T := TX4) (N := 2) hx hb hts hwX4 hown hE.K hP 0 rfl rfl 0 (by decide) (hts (.fieldLink RX4 10 "SedgeBarges" "now" "LSedgeBarges$Waterway;") (List.mem_of_getElem? (i := 2) rfl)) (fun _ h9 => h9) rfl dX4_best_13 ?_
  refine va_getN (D := D) (ci := 3) (v := .ref (a 1)) (C := RX3) (T := TX3) (N := 7) hx hb hts hwX3 hown hE.K hP 1 rfl rfl 4 (by decide) (nf_5 hE) (fun _ h9 => h9) rfl dX4_best_16 ?_
  have hPq : va_P D vwCl ([] ++ ((wBeds cA (a2 1) u2 n2 B2 ch2 ++ wBeds cA (a 1) u n B ch) ++ ([(ox, .inr (4, [.ref (a 0), .ref (a2 0)])), (a 0, .inr (3, [.int dy, .int co, .int ti, .int ro, .ref (a 1), .ref (a 2), .ref (a 3)])), (a 2, .inr (0, [.int (nI nb), .ref (v 0), .ref (v 1), .ref (v 2), .ref (v 3), .ref (v 4)])), (v 0, I_ cA 3 (G 0)), (v 1, I_ cA 3 (G 1)), (v 2, I_ cA 3 (G 2)), (v 3, I_ cA 3 (G 3)), (v 4, I_ cA 3 (G 4)), (a 3, .inr (2, [.ref w])), (w, I_ cA 3 T), (a2 0, .inr (3, [.int dy2, .int co2, .int ti2, .int ro2, .ref (a2 1), .ref (a2 2), .ref (a2 3)])), (a2 2, .inr (0, [.int (nI nb2), .ref (v2 0), .ref (v2 1), .ref (v2 2), .ref (v2 3), .ref (v2 4)])), (v2 0, I_ cA 3 (G2 0)), (v2 1, I_ cA 3 (G2 1)), (v2 2, I_ cA 3 (G2 2)), (v2 3, I_ cA 3 (G2 3)), (v2 4, I_ cA 3 (G2 4)), (a2 3, .inr (2, [.ref w2])), (w2, I_ cA 3 T2)]))) _ := hP.sub [21, 22, 23, 24, 25, 26, 27, 28, 29, 30, 2, 3, 4, 5, 6, 7, 8, 9, 10, 11, 0, 1, 12, 13, 14, 15, 16, 17, 18, 19, 20, 31, 32, 33, 34, 35, 36, 37, 38] rfl
  have hDq : va_D A ([] ++ ((wBeds cA (a2 1) u2 n2 B2 ch2 ++ wBeds cA (a 1) u n B ch) ++ ([(ox, .inr (4, [.ref (a 0), .ref (a2 0)])), (a 0, .inr (3, [.int dy, .int co, .int ti, .int ro, .ref (a 1), .ref (a 2), .ref (a 3)])), (a 2, .inr (0, [.int (nI nb), .ref (v 0), .ref (v 1), .ref (v 2), .ref (v 3), .ref (v 4)])), (v 0, I_ cA 3 (G 0)), (v 1, I_ cA 3 (G 1)), (v 2, I_ cA 3 (G 2)), (v 3, I_ cA 3 (G 3)), (v 4, I_ cA 3 (G 4)), (a 3, .inr (2, [.ref w])), (w, I_ cA 3 T), (a2 0, .inr (3, [.int dy2, .int co2, .int ti2, .int ro2, .ref (a2 1), .ref (a2 2), .ref (a2 3)])), (a2 2, .inr (0, [.int (nI nb2), .ref (v2 0), .ref (v2 1), .ref (v2 2), .ref (v2 3), .ref (v2 4)])), (v2 0, I_ cA 3 (G2 0)), (v2 1, I_ cA 3 (G2 1)), (v2 2, I_ cA 3 (G2 2)), (v2 3, I_ cA 3 (G2 3)), (v2 4, I_ cA 3 (G2 4)), (a2 3, .inr (2, [.ref w2])), (w2, I_ cA 3 T2)]))) := hD.sub [21, 22, 23, 24, 25, 26, 27, 28, 29, 30, 2, 3, 4, 5, 6, 7, 8, 9, 10, 11, 0, 1, 12, 13, 14, 15, 16, 17, 18, 19, 20, 31, 32, 33, 34, 35, 36, 37, 38] (by decide) rfl
  refine goV ([]) ([(ox, .inr (4, [.ref (a 0), .ref (a2 0)])), (a 0, .inr (3, [.int dy, .int co, .int ti, .int ro, .ref (a 1), .ref (a 2), .ref (a 3)])), (a 2, .inr (0, [.int (nI nb), .ref (v 0), .ref (v 1), .ref (v 2), .ref (v 3), .ref (v 4)])), (v 0, I_ cA 3 (G 0)), (v 1, I_ cA 3 (G 1)), (v 2, I_ cA 3 (G 2)), (v 3, I_ cA 3 (G 3)), (v 4, I_ cA 3 (G 4)), (a 3, .inr (2, [.ref w])), (w, I_ cA 3 T), (a2 0, .inr (3, [.int dy2, .int co2, .int ti2, .int ro2, .ref (a2 1), .ref (a2 2), .ref (a2 3)])), (a2 2, .inr (0, [.int (nI nb2), .ref (v2 0), .ref (v2 1), .ref (v2 2), .ref (v2 3), .ref (v2 4)])), (v2 0, I_ cA 3 (G2 0)), (v2 1, I_ cA 3 (G2 1)), (v2 2, I_ cA 3 (G2 2)), (v2 3, I_ cA 3 (G2 3)), (v2 4, I_ cA 3 (G2 4)), (a2 3, .inr (2, [.ref w2])), (w2, I_ cA 3 T2)]) hPq hDq hS hA (rnV (rest := []) (c_Beds_copyFrom sa tb D cA cL l (a2 1) u2 n2 B2 ch2 (a 1) u n B ch (show n ≤ 8 from by first | omega | assumption | decide)) ([]) ([(ox, .inr (4, [.ref (a 0), .ref (a2 0)])), (a 0, .inr (3, [.int dy, .int co, .int ti, .int ro, .ref (a 1), .ref (a 2), .ref (a 3)])), (a 2, .inr (0, [.int (nI nb), .ref (v 0), .ref (v 1), .ref (v 2), .ref (v 3), .ref (v 4)])), (v 0, I_ cA 3 (G 0)), (v 1, I_ cA 3 (G 1)), (v 2, I_ cA 3 (G 2)), (v 3, I_ cA 3 (G 3)), (v 4, I_ cA 3 (G 4)), (a 3, .inr (2, [.ref w])), (w, I_ cA 3 T), (a2 0, .inr (3, [.int dy2, .int co2, .int ti2, .int ro2, .ref (a2 1), .ref (a2 2), .ref (a2 3)])), (a2 2, .inr (0, [.int (nI nb2), .ref (v2 0), .ref (v2 1), .ref (v2 2), .ref (v2 3), .ref (v2 4)])), (v2 0, I_ cA 3 (G2 0)), (v2 1, I_ cA 3 (G2 1)), (v2 2, I_ cA 3 (G2 2)), (v2 3, I_ cA 3 (G2 3)), (v2 4, I_ cA 3 (G2 4)), (a2 3, .inr (2, [.ref w2])), (w2, I_ cA 3 T2)]) hPq hDq hS hA hE ⟨hx, hb, hml, hown, hts⟩ (cwV 1 hts gX4_best_X1_copyFrom rfl rfl rfl (by decide +kernel) ⟨(Nat.le_of_ble_eq_true rfl), (Nat.le_of_ble_eq_true rfl)⟩) 1 0 rfl rfl rfl rfl hl.1 rfl (Nat.le_of_ble_eq_true rfl) dX4_best_19 ⟨(Nat.le_of_ble_eq_true rfl), (Nat.le_of_ble_eq_true rfl)⟩) (fun _ => rfl) (fun u_19 H locs hw_19 hP hD hS => ?_)
  have hP : va_P D vwCl (wX cA ox a dy co ti ro u n B ch v nb G w T a2 dy2 co2 ti2 ro2 u2 n (cpB n B B2) ch2 v2 nb2 G2 w2 T2) H := hP.sub [20, 21, 10, 11, 12, 13, 14, 15, 16, 17, 18, 19, 22, 23, 24, 25, 26, 27, 28, 29, 30, 0, 1, 2, 3, 4, 5, 6, 7, 8, 9, 31, 32, 33, 34, 35, 36, 37, 38] rfl
  have hD : va_D A (wX cA ox a dy co ti ro u n B ch v nb G w T a2 dy2 co2 ti2 ro2 u2 n (cpB n B B2) ch2 v2 nb2 G2 w2 T2) := hD.sub [20, 21, 10, 11, 12, 13, 14, 15, 16, 17, 18, 19, 22, 23, 24, 25, 26, 27, 28, 29, 30, 0, 1, 2, 3, 4, 5, 6, 7, 8, 9, 31, 32, 33, 34, 35, 36, 37, 38] (by decide) rfl
  refine lv_iconst (v := 0) hx hb dX4_best_22 (by decide) ?_
  refine lv_istore_n (lv' := [(2, .int 0), (0, .ref ox), (1, .int (nI k))]) hx hb dX4_best_23 rfl hl (by decide) rfl (fun ls hl => ?_)
  refine lv_aload_n hx hb dX4_best_24 rfl (lv_at hl 1 rfl) ?_
  refine va_get (D := D) (ci := 4) (v := .ref (a2 0)) (C := RX4) (T := TX4) (N := 2) hx hb hts hwX4 hown hE.K hP 0 rfl rfl 1 (by decide) (hts (.fieldLink RX4 16 "SedgeBarges" "ahead" "LSedgeBarges$Waterway;") (List.mem_of_getElem? (i := 1) rfl)) (fun _ h9 => h9) rfl dX4_best_25 ?_
  refine va_getN (D := D) (ci := 3) (v := .ref (a2 1)) (C := RX3) (T := TX3) (N := 7) hx hb hts hwX3 hown hE.K hP 20 rfl rfl 4 (by decide) (nf_5 hE) (fun _ h9 => h9) rfl dX4_best_28 ?_
  refine lv_iload_n hx hb dX4_best_31 rfl (lv_at hl 2 rfl) ?_
  refine goI ([oX ox a a2] ++ (wWay cA a dy co ti ro u n B ch v nb G w T ++ ([oWay a2 dy2 co2 ti2 ro2]))) (wBars cA (a2 2) v2 nb2 G2 ++ (wLand cA (a2 3) w2 T2)) hP hD hS hA (rnV (rest := []) (c_Beds_sedgeGiven sa tb D cA cL l (a2 1) u2 n (cpB n B B2) ch2 k (show k < 8 from by first | omega | assumption | decide)) ([oX ox a a2] ++ (wWay cA a dy co ti ro u n B ch v nb G w T ++ ([oWay a2 dy2 co2 ti2 ro2]))) (wBars cA (a2 2) v2 nb2 G2 ++ (wLand cA (a2 3) w2 T2)) hP hD hS hA hE ⟨hx, hb, hml, hown, hts⟩ (cwV 1 hts gX4_best_X1_sedgeGiven rfl rfl rfl (by decide +kernel) ⟨(Nat.le_of_ble_eq_true rfl), (Nat.le_of_ble_eq_true rfl)⟩) 1 0 rfl rfl rfl rfl hl.1 rfl (Nat.le_of_ble_eq_true rfl) dX4_best_32 ⟨(Nat.le_of_ble_eq_true rfl), (Nat.le_of_ble_eq_true rfl)⟩) (fun _ => rfl) (fun r_32 u_32 H locs hw_32 hP hD hS => ?_)
  have hP : va_P D vwCl (wX cA ox a dy co ti ro u n B ch v nb G w T a2 dy2 co2 ti2 ro2 u2 n (cpB n B B2) ch2 v2 nb2 G2 w2 T2) H := hP
  have hD : va_D A (wX cA ox a dy co ti ro u n B ch v nb G w T a2 dy2 co2 ti2 ro2 u2 n (cpB n B B2) ch2 v2 nb2 G2 w2 T2) := hD
  obtain rfl : r_32 = sgiv (cpB n B B2) k := hw_32
  refine lv_istore_n (lv' := [(3, .int (sgiv (cpB n B B2) k)), (2, .int 0), (0, .ref ox), (1, .int (nI k))]) hx hb dX4_best_35 rfl hl (by decide) rfl (fun ls hl => ?_)
  refine lv_iconst (v := 1) hx hb dX4_best_36 (by decide) ?_
  refine lv_istore (lv' := [(4, .int 1), (3, .int (sgiv (cpB n B B2) k)), (2, .int 0), (0, .ref ox), (1, .int (nI k))]) hx hb dX4_best_37 hl (by decide) rfl (fun ls hl => ?_)
  have loop_39 : ∀ (f_39 : Nat) (y : Nat) (ms : Int32) (ys : Int32) (Bx : Nat → Nat → Int32) (cx : Nat → Int32), (9 - y) < f_39 → (y ≤ 9) → (Bx = yearsB n y (cpB n B B2)) → (ms = (bestS n (cpB n B B2) k y).1) → (ys = (bestS n (cpB n B B2) k y).2) → ∀ (H : Heap) (locs : List Loc), va_P D vwCl (wX cA ox a dy co ti ro u n B ch v nb G w T a2 dy2 co2 ti2 ro2 u2 n Bx cx v2 nb2 G2 w2 T2) H → va_D A (wX cA ox a dy co ti ro u n B ch v nb G w T a2 dy2 co2 ti2 ro2 u2 n Bx cx v2 nb2 G2 w2 T2) → va_S A s.heap H locs → ∀ ls : Array Slot, lv_has ls 6 [(0, .ref ox), (1, .int (nI k)), (2, .int ys), (3, .int ms), (4, .int (nI (y + 1)))] → W pg l e ({ frames := 3, cells := 0, slots := 0, locals := 67 }) s m args below meth c H locs 0 0 (MQ below (qI D (fun (r : Int32) (uu : (Nat → Nat → Int32) × (Nat → Int32)) => r = (bestS n (cpB n B B2) k 9).2) (fun uu => wX cA ox a dy co ti ro u n B ch v nb G w T a2 dy2 co2 ti2 ro2 u2 n uu.1 uu.2 v2 nb2 G2 w2 T2) A) args s 0 0 A) (F0 m 39 ls []) := by
    intro f_39
    induction f_39 with
    | zero => intro y ms ys Bx cx h_f; exact absurd h_f (Nat.not_lt_zero _)
    | succ f_39 ih_39 =>
      intro y ms ys Bx cx h_f39 hy hB hm hs H locs hP hD hS ls hl
      refine lv_iload hx hb dX4_best_39 (lv_at hl 4 rfl) ?_
      refine lv_bipush (v := 9) hx hb dX4_best_41 (by decide) ?_
      refine rc_gt (tgt := 87) (a := y + 1) (b := 9) hx hb (by omega) (by omega) dX4_best_43 (by decide) (fun c_43 => ?_) (fun c_43 => ?_)
      · refine lv_iload_n hx hb dX4_best_87 rfl (lv_at hl 2 rfl) ?_
        rw [show y = 9 from by omega] at hs
        exact enI (Bx, cx) hx hb hr hlocks hS hP (hs) dX4_best_88
      · refine lv_aload_n hx hb dX4_best_46 rfl (lv_at hl 0 rfl) ?_
        refine va_get (D := D) (ci := 4) (v := .ref (a2 0)) (C := RX4) (T := TX4) (N := 2) hx hb hts hwX4 hown hE.K hP 0 rfl rfl 1 (by decide) (hts (.fieldLink RX4 16 "SedgeBarges" "ahead" "LSedgeBarges$Waterway;") (List.mem_of_getElem? (i := 1) rfl)) (fun _ h9 => h9) rfl dX4_best_47 ?_
        refine va_getN (D := D) (ci := 3) (v := .ref (a2 1)) (C := RX3) (T := TX3) (N := 7) hx hb hts hwX3 hown hE.K hP 20 rfl rfl 4 (by decide) (nf_5 hE) (fun _ h9 => h9) rfl dX4_best_50 ?_
        refine goV ([oX ox a a2] ++ (wWay cA a dy co ti ro u n B ch v nb G w T ++ ([oWay a2 dy2 co2 ti2 ro2]))) (wBars cA (a2 2) v2 nb2 G2 ++ (wLand cA (a2 3) w2 T2)) hP hD hS hA (rnV (rest := []) (c_Beds_endYear sa tb D cA cL l (a2 1) u2 n Bx cx (show n ≤ 8 from by first | omega | assumption | decide)) ([oX ox a a2] ++ (wWay cA a dy co ti ro u n B ch v nb G w T ++ ([oWay a2 dy2 co2 ti2 ro2]))) (wBars cA (a2 2) v2 nb2 G2 ++ (wLand cA (a2 3) w2 T2)) hP hD hS hA hE ⟨hx, hb, hml, hown, hts⟩ (cwV 0 hts gX4_best_X1_endYear rfl rfl rfl (by decide +kernel) ⟨(Nat.le_of_ble_eq_true rfl), (Nat.le_of_ble_eq_true rfl)⟩) 1 0 rfl rfl rfl rfl hl.1 rfl (Nat.le_of_ble_eq_true rfl) dX4_best_53 ⟨(Nat.le_of_ble_eq_true rfl), (Nat.le_of_ble_eq_true rfl)⟩) (fun _ => rfl) (fun u_53 H locs hw_53 hP hD hS => ?_)
        have hP : va_P D vwCl (wX cA ox a dy co ti ro u n B ch v nb G w T a2 dy2 co2 ti2 ro2 u2 n (yearB n Bx) u_53 v2 nb2 G2 w2 T2) H := hP
        have hD : va_D A (wX cA ox a dy co ti ro u n B ch v nb G w T a2 dy2 co2 ti2 ro2 u2 n (yearB n Bx) u_53 v2 nb2 G2 w2 T2) := hD
        refine lv_aload_n hx hb dX4_best_56 rfl (lv_at hl 0 rfl) ?_
        refine va_get (D := D) (ci := 4) (v := .ref (a2 0)) (C := RX4) (T := TX4) (N := 2) hx hb hts hwX4 hown hE.K hP 0 rfl rfl 1 (by decide) (hts (.fieldLink RX4 16 "SedgeBarges" "ahead" "LSedgeBarges$Waterway;") (List.mem_of_getElem? (i := 1) rfl)) (fun _ h9 => h9) rfl dX4_best_57 ?_
        refine va_getN (D := D) (ci := 3) (v := .ref (a2 1)) (C := RX3) (T := TX3) (N := 7) hx hb hts hwX3 hown hE.K hP 20 rfl rfl 4 (by decide) (nf_5 hE) (fun _ h9 => h9) rfl dX4_best_60 ?_
        refine lv_iload_n hx hb dX4_best_63 rfl (lv_at hl 1 rfl) ?_
        refine goI ([oX ox a a2] ++ (wWay cA a dy co ti ro u n B ch v nb G w T ++ ([oWay a2 dy2 co2 ti2 ro2]))) (wBars cA (a2 2) v2 nb2 G2 ++ (wLand cA (a2 3) w2 T2)) hP hD hS hA (rnV (rest := []) (c_Beds_sedgeGiven sa tb D cA cL l (a2 1) u2 n (yearB n Bx) u_53 k (show k < 8 from by first | omega | assumption | decide)) ([oX ox a a2] ++ (wWay cA a dy co ti ro u n B ch v nb G w T ++ ([oWay a2 dy2 co2 ti2 ro2]))) (wBars cA (a2 2) v2 nb2 G2 ++ (wLand cA (a2 3) w2 T2)) hP hD hS hA hE ⟨hx, hb, hml, hown, hts⟩ (cwV 1 hts gX4_best_X1_sedgeGiven rfl rfl rfl (by decide +kernel) ⟨(Nat.le_of_ble_eq_true rfl), (Nat.le_of_ble_eq_true rfl)⟩) 1 0 rfl rfl rfl rfl hl.1 rfl (Nat.le_of_ble_eq_true rfl) dX4_best_64 ⟨(Nat.le_of_ble_eq_true rfl), (Nat.le_of_ble_eq_true rfl)⟩) (fun _ => rfl) (fun r_64 u_64 H locs hw_64 hP hD hS => ?_)
        have hP : va_P D vwCl (wX cA ox a dy co ti ro u n B ch v nb G w T a2 dy2 co2 ti2 ro2 u2 n (yearB n Bx) u_53 v2 nb2 G2 w2 T2) H := hP
        have hD : va_D A (wX cA ox a dy co ti ro u n B ch v nb G w T a2 dy2 co2 ti2 ro2 u2 n (yearB n Bx) u_53 v2 nb2 G2 w2 T2) := hD
        obtain rfl : r_64 = sgiv (yearB n Bx) k := hw_64
        refine lv_istore (lv' := [(5, .int (sgiv (yearB n Bx) k)), (0, .ref ox), (1, .int (nI k)), (2, .int ys), (3, .int ms), (4, .int (nI (y + 1)))]) hx hb dX4_best_67 hl (by decide) rfl (fun ls hl => ?_)
        refine lv_iload hx hb dX4_best_69 (lv_at hl 0 rfl) ?_
        refine lv_iload_n hx hb dX4_best_71 rfl (lv_at hl 4 rfl) ?_
        refine lv_icmp_le (tgt := 81) hx hb dX4_best_72 (by decide) (fun c_72 => ?_) (fun c_72 => ?_)
        · refine lv_iinc (v := (nI ((y + 1) + 1))) (lv' := [(4, .int (nI ((y + 1) + 1))), (5, .int (sgiv (yearB n Bx) k)), (0, .ref ox), (1, .int (nI k)), (2, .int ys), (3, .int ms)]) (k := 5) hx hb dX4_best_81 hl rfl (iinc1 _) (by decide) rfl (fun ls hl => ?_)
          refine lv_goto (tgt := 39) hx hb dX4_best_84 (by decide) ?_
          exact ih_39  (y + 1) ms ys (yearB n Bx) u_53 (show 9 - (y + 1) < f_39 from by omega) (show (y + 1) ≤ 9 from by omega) (show (yearB n Bx) = yearsB n (y + 1) (cpB n B B2) from by subst hB; rfl) (show ms = (bestS n (cpB n B B2) k (y + 1)).1 from by subst hB; subst hm; first | exact (congrArg Prod.fst (best_le c_72)).symm | exact (congrArg Prod.fst (best_gt c_72)).symm) (show ys = (bestS n (cpB n B B2) k (y + 1)).2 from by subst hB; subst hm; subst hs; first | exact (congrArg Prod.snd (best_le c_72)).symm | exact (congrArg Prod.snd (best_gt c_72)).symm) _ _ hP hD hS ls (lv_sub hl [2, 3, 4, 5, 0] rfl)
        · refine lv_iload hx hb dX4_best_75 (lv_at hl 0 rfl) ?_
          refine lv_istore_n (lv' := [(3, .int (sgiv (yearB n Bx) k)), (5, .int (sgiv (yearB n Bx) k)), (0, .ref ox), (1, .int (nI k)), (2, .int ys), (4, .int (nI (y + 1)))]) hx hb dX4_best_77 rfl hl (by decide) rfl (fun ls hl => ?_)
          refine lv_iload hx hb dX4_best_78 (lv_at hl 5 rfl) ?_
          refine lv_istore_n (lv' := [(2, .int (nI (y + 1))), (3, .int (sgiv (yearB n Bx) k)), (5, .int (sgiv (yearB n Bx) k)), (0, .ref ox), (1, .int (nI k)), (4, .int (nI (y + 1)))]) hx hb dX4_best_80 rfl hl (by decide) rfl (fun ls hl => ?_)
          refine lv_iinc (v := (nI ((y + 1) + 1))) (lv' := [(4, .int (nI ((y + 1) + 1))), (2, .int (nI (y + 1))), (3, .int (sgiv (yearB n Bx) k)), (5, .int (sgiv (yearB n Bx) k)), (0, .ref ox), (1, .int (nI k))]) (k := 5) hx hb dX4_best_81 hl rfl (iinc1 _) (by decide) rfl (fun ls hl => ?_)
          refine lv_goto (tgt := 39) hx hb dX4_best_84 (by decide) ?_
          exact ih_39  (y + 1) (sgiv (yearB n Bx) k) (nI (y + 1)) (yearB n Bx) u_53 (show 9 - (y + 1) < f_39 from by omega) (show (y + 1) ≤ 9 from by omega) (show (yearB n Bx) = yearsB n (y + 1) (cpB n B B2) from by subst hB; rfl) (show (sgiv (yearB n Bx) k) = (bestS n (cpB n B B2) k (y + 1)).1 from by subst hB; subst hm; first | exact (congrArg Prod.fst (best_le c_72)).symm | exact (congrArg Prod.fst (best_gt c_72)).symm) (show (nI (y + 1)) = (bestS n (cpB n B B2) k (y + 1)).2 from by subst hB; subst hm; subst hs; first | exact (congrArg Prod.snd (best_le c_72)).symm | exact (congrArg Prod.snd (best_gt c_72)).symm) _ _ hP hD hS ls (lv_sub hl [4, 5, 1, 2, 0] rfl)
  exact loop_39 ((9 - 0) + 1) 0 (sgiv (cpB n B B2) k) 0 (cpB n B B2) ch2 (Nat.lt_succ_self _) (show 0 ≤ 9 from by omega) (show (cpB n B B2) = yearsB n 0 (cpB n B B2) from rfl) (show (sgiv (cpB n B B2) k) = (bestS n (cpB n B B2) k 0).1 from rfl) (show 0 = (bestS n (cpB n B B2) k 0).2 from rfl) _ _ hP hD hS ls (lv_sub hl [3, 4, 2, 1, 0] rfl)
set_option maxRecDepth 100000 in
set_option maxHeartbeats 4000000 in
theorem c_barge (sa : Nat × Nat × (Nat → Int32)) (tb : Nat → Nat) (D : va_G) (cA cL : ClassId) (l : Launch) (ox : Nat) (a : Nat → Nat) (dy : Int32) (co : Int32) (ti : Int32) (ro : Int32) (u : Nat → Nat) (n : Nat) (B : Nat → Nat → Int32) (ch : Nat → Int32) (v : Nat → Nat) (nb : Nat) (G : Nat → Nat → Int32) (w : Nat) (T : Nat → Int32) (a2 : Nat → Nat) (dy2 : Int32) (co2 : Int32) (ti2 : Int32) (ro2 : Int32) (u2 : Nat → Nat) (n2 : Nat) (B2 : Nat → Nat → Int32) (ch2 : Nat → Int32) (v2 : Nat → Nat) (nb2 : Nat) (G2 : Nat → Nat → Int32) (w2 : Nat) (T2 : Nat → Int32) (p1 : Int32) (q0 : ¬ p1 < 0) (q1 : p1 ≤ 30) (hnb : nb < 3) : KM sa tb D cA cL l yX4_barge wsX4_barge ({ frames := 1, cells := 0, slots := 0, locals := 22 }) [.ref ox, .int p1] (wX cA ox a dy co ti ro u n B ch v nb G w T a2 dy2 co2 ti2 ro2 u2 n2 B2 ch2 v2 nb2 G2 w2 T2) (qI D (fun (r : Int32) (_ : Unit) => r = nI nb) (fun _ => wX cA ox a dy co ti ro u n B ch v (nb + 1) (addG G nb p1) w T a2 dy2 co2 ti2 ro2 u2 n2 B2 ch2 v2 nb2 G2 w2 T2)) := by
  refine KM.of (cc := cX4_barge) (maxL := 2) (ret := some .int) (by decide) rfl (Nat.le_of_ble_eq_true rfl) ?_
  intro pg e s m args below meth c A hx hb hr hml hlocks hts hown hS hA hE hP hD ls hl
  have hown : s.vm.findClass RX4 = some m.cls := hown
  have hl : lv_has ls 2 [(0, .ref ox), (1, .int p1)] := hl
  have hwX3 : ∀ w ∈ wsX30, w ∈ wsX4_barge := (fun _ h => List.mem_cons_of_mem _ (List.mem_append_left _ (List.mem_append_left _ (List.mem_append_left _ (List.mem_append_right _ h)))))
  have hwX4 : ∀ w ∈ wsX40, w ∈ wsX4_barge := (fun _ h => List.mem_cons_of_mem _ (List.mem_append_left _ (List.mem_append_left _ (List.mem_append_left _ (List.mem_append_left _ (List.mem_append_right _ h))))))
  refine lv_iload_n hx hb dX4_barge_0 rfl (lv_at hl 1 rfl) ?_
  refine goV ([]) (wX cA ox a dy co ti ro u n B ch v nb G w T a2 dy2 co2 ti2 ro2 u2 n2 B2 ch2 v2 nb2 G2 w2 T2) hP hD hS hA (rnS (rest := []) (c_needPlace sa tb D cA cL l p1 (show ¬ p1 < 0 from q0) (show p1 ≤ 30 from q1)) ([]) (wX cA ox a dy co ti ro u n B ch v nb G w T a2 dy2 co2 ti2 ro2 u2 n2 B2 ch2 v2 nb2 G2 w2 T2) hP hD hS hA hE ⟨hx, hb, hml, hown, hts⟩ (va_cwS 1 hts gX4_barge_X4_needPlace rfl rfl rfl (by decide +kernel) ⟨(Nat.le_of_ble_eq_true rfl), (Nat.le_of_ble_eq_true rfl)⟩) rfl hl.1 rfl (Nat.le_of_ble_eq_true rfl) dX4_barge_1 ⟨(Nat.le_of_ble_eq_true rfl), (Nat.le_of_ble_eq_true rfl)⟩) (fun _ => rfl) (fun u_1 H locs hw_1 hP hD hS => ?_)
  have hP : va_P D vwCl (wX cA ox a dy co ti ro u n B ch v nb G w T a2 dy2 co2 ti2 ro2 u2 n2 B2 ch2 v2 nb2 G2 w2 T2) H := hP
  have hD : va_D A (wX cA ox a dy co ti ro u n B ch v nb G w T a2 dy2 co2 ti2 ro2 u2 n2 B2 ch2 v2 nb2 G2 w2 T2) := hD
  refine lv_aload_n hx hb dX4_barge_4 rfl (lv_at hl 0 rfl) ?_
  refine va_get (D := D) (ci := 4) (v := .ref (a 0)) (C := RX4) (T := TX4) (N := 2) hx hb hts hwX4 hown hE.K hP 0 rfl rfl 0 (by decide) (hts (.fieldLink RX4 10 "SedgeBarges" "now" "LSedgeBarges$Waterway;") (List.mem_of_getElem? (i := 3) rfl)) (fun _ h9 => h9) rfl dX4_barge_5 ?_
  refine va_getN (D := D) (ci := 3) (v := .ref (a 2)) (C := RX3) (T := TX3) (N := 7) hx hb hts hwX3 hown hE.K hP 1 rfl rfl 5 (by decide) (nf_8 hE) (fun _ h9 => h9) rfl dX4_barge_8 ?_
  refine goI ([oX ox a a2, oWay a dy co ti ro] ++ wBeds cA (a 1) u n B ch) (wLand cA (a 3) w T ++ (wWay cA a2 dy2 co2 ti2 ro2 u2 n2 B2 ch2 v2 nb2 G2 w2 T2)) hP hD hS hA (rnV (rest := []) (c_Bars_areFull sa tb D cA cL l (a 2) v nb G (show nb ≤ 3 from by first | omega | assumption | decide)) ([oX ox a a2, oWay a dy co ti ro] ++ wBeds cA (a 1) u n B ch) (wLand cA (a 3) w T ++ (wWay cA a2 dy2 co2 ti2 ro2 u2 n2 B2 ch2 v2 nb2 G2 w2 T2)) hP hD hS hA hE ⟨hx, hb, hml, hown, hts⟩ (cwV 0 hts gX4_barge_X0_areFull rfl rfl rfl (by decide +kernel) ⟨(Nat.le_of_ble_eq_true rfl), (Nat.le_of_ble_eq_true rfl)⟩) 0 0 rfl rfl rfl rfl hl.1 rfl (Nat.le_of_ble_eq_true rfl) dX4_barge_11 ⟨(Nat.le_of_ble_eq_true rfl), (Nat.le_of_ble_eq_true rfl)⟩) (fun _ => rfl) (fun r_11 u_11 H locs hw_11 hP hD hS => ?_)
  have hP : va_P D vwCl (wX cA ox a dy co ti ro u n B ch v nb G w T a2 dy2 co2 ti2 ro2 u2 n2 B2 ch2 v2 nb2 G2 w2 T2) H := hP
  have hD : va_D A (wX cA ox a dy co ti ro u n B ch v nb G w T a2 dy2 co2 ti2 ro2 u2 n2 B2 ch2 v2 nb2 G2 w2 T2) := hD
  obtain rfl : r_11 = bI (decide (3 ≤ nb)) := hw_11
  refine lv_if_eq (tgt := 27) hx hb dX4_barge_14 (by decide) (fun c_14 => ?_) (fun c_14 => False.elim (by exact c_14 (congrArg bI (decide_eq_false (by omega)))))
  refine lv_aload_n hx hb dX4_barge_27 rfl (lv_at hl 0 rfl) ?_
  refine va_get (D := D) (ci := 4) (v := .ref (a 0)) (C := RX4) (T := TX4) (N := 2) hx hb hts hwX4 hown hE.K hP 0 rfl rfl 0 (by decide) (hts (.fieldLink RX4 10 "SedgeBarges" "now" "LSedgeBarges$Waterway;") (List.mem_of_getElem? (i := 3) rfl)) (fun _ h9 => h9) rfl dX4_barge_28 ?_
  refine va_getN (D := D) (ci := 3) (v := .ref (a 2)) (C := RX3) (T := TX3) (N := 7) hx hb hts hwX3 hown hE.K hP 1 rfl rfl 5 (by decide) (nf_8 hE) (fun _ h9 => h9) rfl dX4_barge_31 ?_
  refine lv_iload_n hx hb dX4_barge_34 rfl (lv_at hl 1 rfl) ?_
  refine goI ([oX ox a a2, oWay a dy co ti ro] ++ wBeds cA (a 1) u n B ch) (wLand cA (a 3) w T ++ (wWay cA a2 dy2 co2 ti2 ro2 u2 n2 B2 ch2 v2 nb2 G2 w2 T2)) hP hD hS hA (rnV (rest := []) (c_Bars_add sa tb D cA cL l (a 2) v nb G p1 (show nb < 3 from by first | omega | assumption | decide)) ([oX ox a a2, oWay a dy co ti ro] ++ wBeds cA (a 1) u n B ch) (wLand cA (a 3) w T ++ (wWay cA a2 dy2 co2 ti2 ro2 u2 n2 B2 ch2 v2 nb2 G2 w2 T2)) hP hD hS hA hE ⟨hx, hb, hml, hown, hts⟩ (cwV 1 hts gX4_barge_X0_add rfl rfl rfl (by decide +kernel) ⟨(Nat.le_of_ble_eq_true rfl), (Nat.le_of_ble_eq_true rfl)⟩) 0 0 rfl rfl rfl rfl hl.1 rfl (Nat.le_of_ble_eq_true rfl) dX4_barge_35 ⟨(Nat.le_of_ble_eq_true rfl), (Nat.le_of_ble_eq_true rfl)⟩) (fun _ => rfl) (fun r_35 u_35 H locs hw_35 hP hD hS => ?_)
  have hP : va_P D vwCl (wX cA ox a dy co ti ro u n B ch v (nb + 1) (addG G nb p1) w T a2 dy2 co2 ti2 ro2 u2 n2 B2 ch2 v2 nb2 G2 w2 T2) H := hP
  have hD : va_D A (wX cA ox a dy co ti ro u n B ch v (nb + 1) (addG G nb p1) w T a2 dy2 co2 ti2 ro2 u2 n2 B2 ch2 v2 nb2 G2 w2 T2) := hD
  obtain rfl : r_35 = nI nb := hw_35
  exact enI () hx hb hr hlocks hS hP (rfl) dX4_barge_38
set_option maxRecDepth 100000 in
set_option maxHeartbeats 4000000 in
theorem c_sail (sa : Nat × Nat × (Nat → Int32)) (tb : Nat → Nat) (D : va_G) (cA cL : ClassId) (l : Launch) (ox : Nat) (a : Nat → Nat) (dy : Int32) (co : Int32) (ti : Int32) (ro : Int32) (u : Nat → Nat) (n : Nat) (B : Nat → Nat → Int32) (ch : Nat → Int32) (v : Nat → Nat) (nb : Nat) (G : Nat → Nat → Int32) (w : Nat) (T : Nat → Int32) (a2 : Nat → Nat) (dy2 : Int32) (co2 : Int32) (ti2 : Int32) (ro2 : Int32) (u2 : Nat → Nat) (n2 : Nat) (B2 : Nat → Nat → Int32) (ch2 : Nat → Int32) (v2 : Nat → Nat) (nb2 : Nat) (G2 : Nat → Nat → Int32) (w2 : Nat) (T2 : Nat → Int32) (k : Nat) (p1 : Int32) (hk : k < nb) (hnb : nb ≤ 3) (q0 : ¬ p1 < 0) (q1 : p1 ≤ 30) : KM sa tb D cA cL l yX4_sail wsX4_sail ({ frames := 2, cells := 0, slots := 0, locals := 47 }) [.ref ox, .int (nI k), .int p1] (wX cA ox a dy co ti ro u n B ch v nb G w T a2 dy2 co2 ti2 ro2 u2 n2 B2 ch2 v2 nb2 G2 w2 T2) (qI D (fun (r : Int32) (_ : Unit) => r = sendD G k p1) (fun _ => wX cA ox a dy co ti ro u n B ch v nb (sendG G k p1) w T a2 dy2 co2 ti2 ro2 u2 n2 B2 ch2 v2 nb2 G2 w2 T2)) := by
  refine KM.of (cc := cX4_sail) (maxL := 3) (ret := some .int) (by decide) rfl (Nat.le_of_ble_eq_true rfl) ?_
  intro pg e s m args below meth c A hx hb hr hml hlocks hts hown hS hA hE hP hD ls hl
  have hown : s.vm.findClass RX4 = some m.cls := hown
  have hl : lv_has ls 3 [(0, .ref ox), (1, .int (nI k)), (2, .int p1)] := hl
  have hwX3 : ∀ w ∈ wsX30, w ∈ wsX4_sail := (fun _ h => List.mem_cons_of_mem _ (List.mem_append_left _ (List.mem_append_left _ (List.mem_append_right _ h))))
  have hwX4 : ∀ w ∈ wsX40, w ∈ wsX4_sail := (fun _ h => List.mem_cons_of_mem _ (List.mem_append_left _ (List.mem_append_left _ (List.mem_append_left _ (List.mem_append_right _ h)))))
  refine lv_aload_n hx hb dX4_sail_0 rfl (lv_at hl 0 rfl) ?_
  refine lv_iload_n hx hb dX4_sail_1 rfl (lv_at hl 1 rfl) ?_
  refine goV ([]) ([]) hP hD hS hA (rnV (rest := []) (c_needBarge sa tb D cA cL l ox a dy co ti ro u n B ch v nb G w T a2 dy2 co2 ti2 ro2 u2 n2 B2 ch2 v2 nb2 G2 w2 T2 k (show k < nb from by first | omega | assumption | decide) (show nb ≤ 3 from by first | omega | assumption | decide)) ([]) ([]) hP hD hS hA hE ⟨hx, hb, hml, hown, hts⟩ (cwV 1 hts gX4_sail_X4_needBarge rfl rfl rfl (by decide +kernel) ⟨(Nat.le_of_ble_eq_true rfl), (Nat.le_of_ble_eq_true rfl)⟩) 4 0 rfl rfl rfl rfl hl.1 rfl (Nat.le_of_ble_eq_true rfl) dX4_sail_2 ⟨(Nat.le_of_ble_eq_true rfl), (Nat.le_of_ble_eq_true rfl)⟩) (fun _ => rfl) (fun u_2 H locs hw_2 hP hD hS => ?_)
  have hP : va_P D vwCl (wX cA ox a dy co ti ro u n B ch v nb G w T a2 dy2 co2 ti2 ro2 u2 n2 B2 ch2 v2 nb2 G2 w2 T2) H := hP
  have hD : va_D A (wX cA ox a dy co ti ro u n B ch v nb G w T a2 dy2 co2 ti2 ro2 u2 n2 B2 ch2 v2 nb2 G2 w2 T2) := hD
  refine lv_iload_n hx hb dX4_sail_5 rfl (lv_at hl 2 rfl) ?_
  refine goV ([]) (wX cA ox a dy co ti ro u n B ch v nb G w T a2 dy2 co2 ti2 ro2 u2 n2 B2 ch2 v2 nb2 G2 w2 T2) hP hD hS hA (rnS (rest := []) (c_needPlace sa tb D cA cL l p1 (show ¬ p1 < 0 from q0) (show p1 ≤ 30 from q1)) ([]) (wX cA ox a dy co ti ro u n B ch v nb G w T a2 dy2 co2 ti2 ro2 u2 n2 B2 ch2 v2 nb2 G2 w2 T2) hP hD hS hA hE ⟨hx, hb, hml, hown, hts⟩ (va_cwS 1 hts gX4_sail_X4_needPlace rfl rfl rfl (by decide +kernel) ⟨(Nat.le_of_ble_eq_true rfl), (Nat.le_of_ble_eq_true rfl)⟩) rfl hl.1 rfl (Nat.le_of_ble_eq_true rfl) dX4_sail_6 ⟨(Nat.le_of_ble_eq_true rfl), (Nat.le_of_ble_eq_true rfl)⟩) (fun _ => rfl) (fun u_6 H locs hw_6 hP hD hS => ?_)
  have hP : va_P D vwCl (wX cA ox a dy co ti ro u n B ch v nb G w T a2 dy2 co2 ti2 ro2 u2 n2 B2 ch2 v2 nb2 G2 w2 T2) H := hP
  have hD : va_D A (wX cA ox a dy co ti ro u n B ch v nb G w T a2 dy2 co2 ti2 ro2 u2 n2 B2 ch2 v2 nb2 G2 w2 T2) := hD
  refine lv_aload_n hx hb dX4_sail_9 rfl (lv_at hl 0 rfl) ?_
  refine va_get (D := D) (ci := 4) (v := .ref (a 0)) (C := RX4) (T := TX4) (N := 2) hx hb hts hwX4 hown hE.K hP 0 rfl rfl 0 (by decide) (hts (.fieldLink RX4 10 "SedgeBarges" "now" "LSedgeBarges$Waterway;") (List.mem_of_getElem? (i := 1) rfl)) (fun _ h9 => h9) rfl dX4_sail_10 ?_
  refine va_getN (D := D) (ci := 3) (v := .ref (a 2)) (C := RX3) (T := TX3) (N := 7) hx hb hts hwX3 hown hE.K hP 1 rfl rfl 5 (by decide) (nf_8 hE) (fun _ h9 => h9) rfl dX4_sail_13 ?_
  refine lv_iload_n hx hb dX4_sail_16 rfl (lv_at hl 1 rfl) ?_
  refine lv_iload_n hx hb dX4_sail_17 rfl (lv_at hl 2 rfl) ?_
  refine goI ([oX ox a a2, oWay a dy co ti ro] ++ wBeds cA (a 1) u n B ch) (wLand cA (a 3) w T ++ (wWay cA a2 dy2 co2 ti2 ro2 u2 n2 B2 ch2 v2 nb2 G2 w2 T2)) hP hD hS hA (rnV (rest := []) (c_Bars_send sa tb D cA cL l (a 2) v nb G k p1 (show k < 3 from by first | omega | assumption | decide)) ([oX ox a a2, oWay a dy co ti ro] ++ wBeds cA (a 1) u n B ch) (wLand cA (a 3) w T ++ (wWay cA a2 dy2 co2 ti2 ro2 u2 n2 B2 ch2 v2 nb2 G2 w2 T2)) hP hD hS hA hE ⟨hx, hb, hml, hown, hts⟩ (cwV 2 hts gX4_sail_X0_send rfl rfl rfl (by decide +kernel) ⟨(Nat.le_of_ble_eq_true rfl), (Nat.le_of_ble_eq_true rfl)⟩) 0 0 rfl rfl rfl rfl hl.1 rfl (Nat.le_of_ble_eq_true rfl) dX4_sail_18 ⟨(Nat.le_of_ble_eq_true rfl), (Nat.le_of_ble_eq_true rfl)⟩) (fun _ => rfl) (fun r_18 u_18 H locs hw_18 hP hD hS => ?_)
  have hP : va_P D vwCl (wX cA ox a dy co ti ro u n B ch v nb (sendG G k p1) w T a2 dy2 co2 ti2 ro2 u2 n2 B2 ch2 v2 nb2 G2 w2 T2) H := hP
  have hD : va_D A (wX cA ox a dy co ti ro u n B ch v nb (sendG G k p1) w T a2 dy2 co2 ti2 ro2 u2 n2 B2 ch2 v2 nb2 G2 w2 T2) := hD
  obtain rfl : r_18 = sendD G k p1 := hw_18
  exact enI () hx hb hr hlocks hS hP (rfl) dX4_sail_21
set_option maxRecDepth 100000 in
set_option maxHeartbeats 4000000 in
theorem c_load (sa : Nat × Nat × (Nat → Int32)) (tb : Nat → Nat) (D : va_G) (cA cL : ClassId) (l : Launch) (ox : Nat) (a : Nat → Nat) (dy : Int32) (co : Int32) (ti : Int32) (ro : Int32) (u : Nat → Nat) (n : Nat) (B : Nat → Nat → Int32) (ch : Nat → Int32) (v : Nat → Nat) (nb : Nat) (G : Nat → Nat → Int32) (w : Nat) (T : Nat → Int32) (a2 : Nat → Nat) (dy2 : Int32) (co2 : Int32) (ti2 : Int32) (ro2 : Int32) (u2 : Nat → Nat) (n2 : Nat) (B2 : Nat → Nat → Int32) (ch2 : Nat → Int32) (v2 : Nat → Nat) (nb2 : Nat) (G2 : Nat → Nat → Int32) (w2 : Nat) (T2 : Nat → Int32) (k : Nat) (j : Nat) (hk : k < nb) (hj : j < n) (hn : n ≤ 8) (hnb : nb ≤ 3) (hq : G 0 k = B 0 j) : KM sa tb D cA cL l yX4_load wsX4_load ({ frames := 2, cells := 0, slots := 0, locals := 49 }) [.ref ox, .int (nI k), .int (nI j)] (wX cA ox a dy co ti ro u n B ch v nb G w T a2 dy2 co2 ti2 ro2 u2 n2 B2 ch2 v2 nb2 G2 w2 T2) (qI D (fun (r : Int32) (_ : Unit) => r = ldS B G k j + ldR B G k j) (fun _ => wX cA ox a dy co ti ro u n (ldB B G k j) ch v nb (ldG B G k j) w T a2 dy2 co2 ti2 ro2 u2 n2 B2 ch2 v2 nb2 G2 w2 T2)) := by
  refine KM.of (cc := cX4_load) (maxL := 3) (ret := some .int) (by decide) rfl (Nat.le_of_ble_eq_true rfl) ?_
  intro pg e s m args below meth c A hx hb hr hml hlocks hts hown hS hA hE hP hD ls hl
  have hown : s.vm.findClass RX4 = some m.cls := hown
  have hl : lv_has ls 3 [(0, .ref ox), (1, .int (nI k)), (2, .int (nI j))] := hl
  have hwX0 : ∀ w ∈ wsX00, w ∈ wsX4_load := (fun _ h => List.mem_cons_of_mem _ (List.mem_append_left _ (List.mem_append_left _ (List.mem_append_left _ (List.mem_append_right _ h)))))
  have hwX1 : ∀ w ∈ wsX10, w ∈ wsX4_load := (fun _ h => List.mem_cons_of_mem _ (List.mem_append_left _ (List.mem_append_left _ (List.mem_append_right _ h))))
  have hwX3 : ∀ w ∈ wsX30, w ∈ wsX4_load := (fun _ h => List.mem_cons_of_mem _ (List.mem_append_left _ (List.mem_append_left _ (List.mem_append_left _ (List.mem_append_left _ (List.mem_append_right _ h))))))
  have hwX4 : ∀ w ∈ wsX40, w ∈ wsX4_load := (fun _ h => List.mem_cons_of_mem _ (List.mem_append_left _ (List.mem_append_left _ (List.mem_append_left _ (List.mem_append_left _ (List.mem_append_left _ (List.mem_append_right _ h)))))))
  refine lv_aload_n hx hb dX4_load_0 rfl (lv_at hl 0 rfl) ?_
  refine lv_iload_n hx hb dX4_load_1 rfl (lv_at hl 1 rfl) ?_
  refine goV ([]) ([]) hP hD hS hA (rnV (rest := []) (c_needBarge sa tb D cA cL l ox a dy co ti ro u n B ch v nb G w T a2 dy2 co2 ti2 ro2 u2 n2 B2 ch2 v2 nb2 G2 w2 T2 k (show k < nb from by first | omega | assumption | decide) (show nb ≤ 3 from by first | omega | assumption | decide)) ([]) ([]) hP hD hS hA hE ⟨hx, hb, hml, hown, hts⟩ (cwV 1 hts gX4_load_X4_needBarge rfl rfl rfl (by decide +kernel) ⟨(Nat.le_of_ble_eq_true rfl), (Nat.le_of_ble_eq_true rfl)⟩) 4 0 rfl rfl rfl rfl hl.1 rfl (Nat.le_of_ble_eq_true rfl) dX4_load_2 ⟨(Nat.le_of_ble_eq_true rfl), (Nat.le_of_ble_eq_true rfl)⟩) (fun _ => rfl) (fun u_2 H locs hw_2 hP hD hS => ?_)
  have hP : va_P D vwCl (wX cA ox a dy co ti ro u n B ch v nb G w T a2 dy2 co2 ti2 ro2 u2 n2 B2 ch2 v2 nb2 G2 w2 T2) H := hP
  have hD : va_D A (wX cA ox a dy co ti ro u n B ch v nb G w T a2 dy2 co2 ti2 ro2 u2 n2 B2 ch2 v2 nb2 G2 w2 T2) := hD
  refine lv_aload_n hx hb dX4_load_5 rfl (lv_at hl 0 rfl) ?_
  refine lv_iload_n hx hb dX4_load_6 rfl (lv_at hl 2 rfl) ?_
  refine goV ([]) ([]) hP hD hS hA (rnV (rest := []) (c_needBed sa tb D cA cL l ox a dy co ti ro u n B ch v nb G w T a2 dy2 co2 ti2 ro2 u2 n2 B2 ch2 v2 nb2 G2 w2 T2 j (show j < n from by first | omega | assumption | decide) (show n ≤ 8 from by first | omega | assumption | decide)) ([]) ([]) hP hD hS hA hE ⟨hx, hb, hml, hown, hts⟩ (cwV 1 hts gX4_load_X4_needBed rfl rfl rfl (by decide +kernel) ⟨(Nat.le_of_ble_eq_true rfl), (Nat.le_of_ble_eq_true rfl)⟩) 4 0 rfl rfl rfl rfl hl.1 rfl (Nat.le_of_ble_eq_true rfl) dX4_load_7 ⟨(Nat.le_of_ble_eq_true rfl), (Nat.le_of_ble_eq_true rfl)⟩) (fun _ => rfl) (fun u_7 H locs hw_7 hP hD hS => ?_)
  have hP : va_P D vwCl (wX cA ox a dy co ti ro u n B ch v nb G w T a2 dy2 co2 ti2 ro2 u2 n2 B2 ch2 v2 nb2 G2 w2 T2) H := hP
  have hD : va_D A (wX cA ox a dy co ti ro u n B ch v nb G w T a2 dy2 co2 ti2 ro2 u2 n2 B2 ch2 v2 nb2 G2 w2 T2) := hD
  refine lv_aload_n hx hb dX4_load_10 rfl (lv_at hl 0 rfl) ?_
  refine va_get (D := D) (ci := 4) (v := .ref (a 0)) (C := RX4) (T := TX4) (N := 2) hx hb hts hwX4 hown hE.K hP 0 rfl rfl 0 (by decide) (hts (.fieldLink RX4 10 "SedgeBarges" "now" "LSedgeBarges$Waterway;") (List.mem_of_getElem? (i := 3) rfl)) (fun _ h9 => h9) rfl dX4_load_11 ?_
  refine va_getN (D := D) (ci := 3) (v := .ref (a 2)) (C := RX3) (T := TX3) (N := 7) hx hb hts hwX3 hown hE.K hP 1 rfl rfl 5 (by decide) (nf_8 hE) (fun _ h9 => h9) rfl dX4_load_14 ?_
  refine va_getN (D := D) (ci := 0) (v := .ref (v 0)) (C := RX0) (T := TX0) (N := 6) hx hb hts hwX0 hown hE.K hP 12 rfl rfl 1 (by decide) (nf_0 hE) (fun _ h9 => h9) rfl dX4_load_17 ?_
  refine lv_iload_n hx hb dX4_load_20 rfl (lv_at hl 1 rfl) ?_
  refine r_ald (f := G 0) (v := (G 0) k) hx hb hE hP 13 (k) rfl rfl (by omega) (by decide) rfl dX4_load_21 ?_
  refine lv_aload_n hx hb dX4_load_22 rfl (lv_at hl 0 rfl) ?_
  refine va_get (D := D) (ci := 4) (v := .ref (a 0)) (C := RX4) (T := TX4) (N := 2) hx hb hts hwX4 hown hE.K hP 0 rfl rfl 0 (by decide) (hts (.fieldLink RX4 10 "SedgeBarges" "now" "LSedgeBarges$Waterway;") (List.mem_of_getElem? (i := 3) rfl)) (fun _ h9 => h9) rfl dX4_load_23 ?_
  refine va_getN (D := D) (ci := 3) (v := .ref (a 1)) (C := RX3) (T := TX3) (N := 7) hx hb hts hwX3 hown hE.K hP 1 rfl rfl 4 (by decide) (nf_5 hE) (fun _ h9 => h9) rfl dX4_load_26 ?_
  refine va_getN (D := D) (ci := 1) (v := .ref (u 0)) (C := RX1) (T := TX1) (N := 10) hx hb hts hwX1 hown hE.K hP 2 rfl rfl 1 (by decide) (nf_1 hE) (fun _ h9 => h9) rfl dX4_load_29 ?_
  refine lv_iload_n hx hb dX4_load_32 rfl (lv_at hl 2 rfl) ?_
  refine r_ald (f := B 0) (v := (B 0) j) hx hb hE hP 3 (j) rfl rfl (by omega) (by decide) rfl dX4_load_33 ?_
  refine lv_icmp_eq (tgt := 47) hx hb dX4_load_34 (by decide) (fun c_34 => ?_) (fun c_34 => False.elim (by exact c_34 hq))
  refine lv_aload_n hx hb dX4_load_47 rfl (lv_at hl 0 rfl) ?_
  refine va_get (D := D) (ci := 4) (v := .ref (a 0)) (C := RX4) (T := TX4) (N := 2) hx hb hts hwX4 hown hE.K hP 0 rfl rfl 0 (by decide) (hts (.fieldLink RX4 10 "SedgeBarges" "now" "LSedgeBarges$Waterway;") (List.mem_of_getElem? (i := 3) rfl)) (fun _ h9 => h9) rfl dX4_load_48 ?_
  refine lv_iload_n hx hb dX4_load_51 rfl (lv_at hl 1 rfl) ?_
  refine lv_iload_n hx hb dX4_load_52 rfl (lv_at hl 2 rfl) ?_
  refine goI ([oX ox a a2]) (wWay cA a2 dy2 co2 ti2 ro2 u2 n2 B2 ch2 v2 nb2 G2 w2 T2) hP hD hS hA (rnV (rest := []) (c_Way_take sa tb D cA cL l a dy co ti ro u n B ch v nb G w T k j (show k < 3 from by first | omega | assumption | decide) (show j < 8 from by first | omega | assumption | decide)) ([oX ox a a2]) (wWay cA a2 dy2 co2 ti2 ro2 u2 n2 B2 ch2 v2 nb2 G2 w2 T2) hP hD hS hA hE ⟨hx, hb, hml, hown, hts⟩ (cwV 2 hts gX4_load_X3_takeAboard rfl rfl rfl (by decide +kernel) ⟨(Nat.le_of_ble_eq_true rfl), (Nat.le_of_ble_eq_true rfl)⟩) 3 0 rfl rfl rfl rfl hl.1 rfl (Nat.le_of_ble_eq_true rfl) dX4_load_53 ⟨(Nat.le_of_ble_eq_true rfl), (Nat.le_of_ble_eq_true rfl)⟩) (fun _ => rfl) (fun r_53 u_53 H locs hw_53 hP hD hS => ?_)
  have hP : va_P D vwCl (wX cA ox a dy co ti ro u n (ldB B G k j) ch v nb (ldG B G k j) w T a2 dy2 co2 ti2 ro2 u2 n2 B2 ch2 v2 nb2 G2 w2 T2) H := hP
  have hD : va_D A (wX cA ox a dy co ti ro u n (ldB B G k j) ch v nb (ldG B G k j) w T a2 dy2 co2 ti2 ro2 u2 n2 B2 ch2 v2 nb2 G2 w2 T2) := hD
  obtain rfl : r_53 = ldS B G k j + ldR B G k j := hw_53
  exact enI () hx hb hr hlocks hS hP (rfl) dX4_load_56
set_option maxRecDepth 100000 in
set_option maxHeartbeats 4000000 in
theorem c_sell (sa : Nat × Nat × (Nat → Int32)) (tb : Nat → Nat) (D : va_G) (cA cL : ClassId) (l : Launch) (ox : Nat) (a : Nat → Nat) (dy : Int32) (co : Int32) (ti : Int32) (ro : Int32) (u : Nat → Nat) (n : Nat) (B : Nat → Nat → Int32) (ch : Nat → Int32) (v : Nat → Nat) (nb : Nat) (G : Nat → Nat → Int32) (w : Nat) (T : Nat → Int32) (a2 : Nat → Nat) (dy2 : Int32) (co2 : Int32) (ti2 : Int32) (ro2 : Int32) (u2 : Nat → Nat) (n2 : Nat) (B2 : Nat → Nat → Int32) (ch2 : Nat → Int32) (v2 : Nat → Nat) (nb2 : Nat) (G2 : Nat → Nat → Int32) (w2 : Nat) (T2 : Nat → Int32) (k : Nat) (j : Nat) (hk : k < nb) (hnb : nb ≤ 3) (hj : j < 3) (hq : landAt (G 0 k) = nI j) : KM sa tb D cA cL l yX4_sell wsX4_sell ({ frames := 4, cells := 0, slots := 0, locals := 90 }) [.ref ox, .int (nI k)] (wX cA ox a dy co ti ro u n B ch v nb G w T a2 dy2 co2 ti2 ro2 u2 n2 B2 ch2 v2 nb2 G2 w2 T2) (qI D (fun (r : Int32) (_ : Unit) => r = earn G T k j) (fun _ => wX cA ox a dy (co + earn G T k j) ti ro u n B ch v nb (sellG G T k j) w (sellT G T k j) a2 dy2 co2 ti2 ro2 u2 n2 B2 ch2 v2 nb2 G2 w2 T2)) := by
  refine KM.of (cc := cX4_sell) (maxL := 3) (ret := some .int) (by decide) rfl (Nat.le_of_ble_eq_true rfl) ?_
  intro pg e s m args below meth c A hx hb hr hml hlocks hts hown hS hA hE hP hD ls hl
  have hown : s.vm.findClass RX4 = some m.cls := hown
  have hl : lv_has ls 3 [(0, .ref ox), (1, .int (nI k))] := hl
  have hwX0 : ∀ w ∈ wsX00, w ∈ wsX4_sell := (fun _ h => List.mem_cons_of_mem _ (List.mem_append_left _ (List.mem_append_left _ (List.mem_append_left _ (List.mem_append_right _ h)))))
  have hwX3 : ∀ w ∈ wsX30, w ∈ wsX4_sell := (fun _ h => List.mem_cons_of_mem _ (List.mem_append_left _ (List.mem_append_left _ (List.mem_append_left _ (List.mem_append_left _ (List.mem_append_right _ h))))))
  have hwX4 : ∀ w ∈ wsX40, w ∈ wsX4_sell := (fun _ h => List.mem_cons_of_mem _ (List.mem_append_left _ (List.mem_append_left _ (List.mem_append_left _ (List.mem_append_left _ (List.mem_append_left _ (List.mem_append_right _ h)))))))
  refine lv_aload_n hx hb dX4_sell_0 rfl (lv_at hl 0 rfl) ?_
  refine lv_iload_n hx hb dX4_sell_1 rfl (lv_at hl 1 rfl) ?_
  refine goV ([]) ([]) hP hD hS hA (rnV (rest := []) (c_needBarge sa tb D cA cL l ox a dy co ti ro u n B ch v nb G w T a2 dy2 co2 ti2 ro2 u2 n2 B2 ch2 v2 nb2 G2 w2 T2 k (show k < nb from by first | omega | assumption | decide) (show nb ≤ 3 from by first | omega | assumption | decide)) ([]) ([]) hP hD hS hA hE ⟨hx, hb, hml, hown, hts⟩ (cwV 1 hts gX4_sell_X4_needBarge rfl rfl rfl (by decide +kernel) ⟨(Nat.le_of_ble_eq_true rfl), (Nat.le_of_ble_eq_true rfl)⟩) 4 0 rfl rfl rfl rfl hl.1 rfl (Nat.le_of_ble_eq_true rfl) dX4_sell_2 ⟨(Nat.le_of_ble_eq_true rfl), (Nat.le_of_ble_eq_true rfl)⟩) (fun _ => rfl) (fun u_2 H locs hw_2 hP hD hS => ?_)
  have hP : va_P D vwCl (wX cA ox a dy co ti ro u n B ch v nb G w T a2 dy2 co2 ti2 ro2 u2 n2 B2 ch2 v2 nb2 G2 w2 T2) H := hP
  have hD : va_D A (wX cA ox a dy co ti ro u n B ch v nb G w T a2 dy2 co2 ti2 ro2 u2 n2 B2 ch2 v2 nb2 G2 w2 T2) := hD
  refine lv_aload_n hx hb dX4_sell_5 rfl (lv_at hl 0 rfl) ?_
  refine va_get (D := D) (ci := 4) (v := .ref (a 0)) (C := RX4) (T := TX4) (N := 2) hx hb hts hwX4 hown hE.K hP 0 rfl rfl 0 (by decide) (hts (.fieldLink RX4 10 "SedgeBarges" "now" "LSedgeBarges$Waterway;") (List.mem_of_getElem? (i := 3) rfl)) (fun _ h9 => h9) rfl dX4_sell_6 ?_
  refine va_getN (D := D) (ci := 3) (v := .ref (a 2)) (C := RX3) (T := TX3) (N := 7) hx hb hts hwX3 hown hE.K hP 1 rfl rfl 5 (by decide) (nf_8 hE) (fun _ h9 => h9) rfl dX4_sell_9 ?_
  refine va_getN (D := D) (ci := 0) (v := .ref (v 0)) (C := RX0) (T := TX0) (N := 6) hx hb hts hwX0 hown hE.K hP 12 rfl rfl 1 (by decide) (nf_0 hE) (fun _ h9 => h9) rfl dX4_sell_12 ?_
  refine lv_iload_n hx hb dX4_sell_15 rfl (lv_at hl 1 rfl) ?_
  refine r_ald (f := G 0) (v := (G 0) k) hx hb hE hP 13 (k) rfl rfl (by omega) (by decide) rfl dX4_sell_16 ?_
  refine goI ([]) (wX cA ox a dy co ti ro u n B ch v nb G w T a2 dy2 co2 ti2 ro2 u2 n2 B2 ch2 v2 nb2 G2 w2 T2) hP hD hS hA (rnS (rest := []) (c_landingAt sa tb D cA cL l ((G 0) k) ) ([]) (wX cA ox a dy co ti ro u n B ch v nb G w T a2 dy2 co2 ti2 ro2 u2 n2 B2 ch2 v2 nb2 G2 w2 T2) hP hD hS hA hE ⟨hx, hb, hml, hown, hts⟩ (va_cwS 1 hts gX4_sell_X4_landingAt rfl rfl rfl (by decide +kernel) ⟨(Nat.le_of_ble_eq_true rfl), (Nat.le_of_ble_eq_true rfl)⟩) rfl hl.1 rfl (Nat.le_of_ble_eq_true rfl) dX4_sell_17 ⟨(Nat.le_of_ble_eq_true rfl), (Nat.le_of_ble_eq_true rfl)⟩) (fun _ => rfl) (fun r_17 u_17 H locs hw_17 hP hD hS => ?_)
  have hP : va_P D vwCl (wX cA ox a dy co ti ro u n B ch v nb G w T a2 dy2 co2 ti2 ro2 u2 n2 B2 ch2 v2 nb2 G2 w2 T2) H := hP
  have hD : va_D A (wX cA ox a dy co ti ro u n B ch v nb G w T a2 dy2 co2 ti2 ro2 u2 n2 B2 ch2 v2 nb2 G2 w2 T2) := hD
  obtain rfl : r_17 = nI j := hw_17.trans hq
  refine lv_istore_n (lv' := [(2, .int (nI j)), (0, .ref ox), (1, .int (nI k))]) hx hb dX4_sell_20 rfl hl (by decide) rfl (fun ls hl => ?_)
  refine lv_iload_n hx hb dX4_sell_21 rfl (lv_at hl 0 rfl) ?_
  refine lv_iconst (v := (-1)) hx hb dX4_sell_22 (by decide) ?_
  refine lv_icmp_ne (tgt := 36) hx hb dX4_sell_23 (by decide) (fun c_23 => ?_) (fun c_23 => False.elim (by exact (nI_nm1 (by omega)) c_23))
  refine lv_aload_n hx hb dX4_sell_36 rfl (lv_at hl 1 rfl) ?_
  refine va_get (D := D) (ci := 4) (v := .ref (a 0)) (C := RX4) (T := TX4) (N := 2) hx hb hts hwX4 hown hE.K hP 0 rfl rfl 0 (by decide) (hts (.fieldLink RX4 10 "SedgeBarges" "now" "LSedgeBarges$Waterway;") (List.mem_of_getElem? (i := 3) rfl)) (fun _ h9 => h9) rfl dX4_sell_37 ?_
  refine lv_iload_n hx hb dX4_sell_40 rfl (lv_at hl 2 rfl) ?_
  refine lv_iload_n hx hb dX4_sell_41 rfl (lv_at hl 0 rfl) ?_
  refine goI ([oX ox a a2]) (wWay cA a2 dy2 co2 ti2 ro2 u2 n2 B2 ch2 v2 nb2 G2 w2 T2) hP hD hS hA (rnV (rest := []) (c_Way_sell sa tb D cA cL l a dy co ti ro u n B ch v nb G w T k j (show k < 3 from by first | omega | assumption | decide) (show j < 3 from by first | omega | assumption | decide)) ([oX ox a a2]) (wWay cA a2 dy2 co2 ti2 ro2 u2 n2 B2 ch2 v2 nb2 G2 w2 T2) hP hD hS hA hE ⟨hx, hb, hml, hown, hts⟩ (cwV 2 hts gX4_sell_X3_sellAll rfl rfl rfl (by decide +kernel) ⟨(Nat.le_of_ble_eq_true rfl), (Nat.le_of_ble_eq_true rfl)⟩) 3 0 rfl rfl rfl rfl hl.1 rfl (Nat.le_of_ble_eq_true rfl) dX4_sell_42 ⟨(Nat.le_of_ble_eq_true rfl), (Nat.le_of_ble_eq_true rfl)⟩) (fun _ => rfl) (fun r_42 u_42 H locs hw_42 hP hD hS => ?_)
  have hP : va_P D vwCl (wX cA ox a dy (co + earn G T k j) ti ro u n B ch v nb (sellG G T k j) w (sellT G T k j) a2 dy2 co2 ti2 ro2 u2 n2 B2 ch2 v2 nb2 G2 w2 T2) H := hP
  have hD : va_D A (wX cA ox a dy (co + earn G T k j) ti ro u n B ch v nb (sellG G T k j) w (sellT G T k j) a2 dy2 co2 ti2 ro2 u2 n2 B2 ch2 v2 nb2 G2 w2 T2) := hD
  obtain rfl : r_42 = earn G T k j := hw_42
  exact enI () hx hb hr hlocks hS hP (rfl) dX4_sell_45
set_option maxRecDepth 100000 in
set_option maxHeartbeats 4000000 in
theorem c_told (sa : Nat × Nat × (Nat → Int32)) (tb : Nat → Nat) (D : va_G) (cA cL : ClassId) (l : Launch) (ox : Nat) (a : Nat → Nat) (dy : Int32) (co : Int32) (ti : Int32) (ro : Int32) (u : Nat → Nat) (n : Nat) (B : Nat → Nat → Int32) (ch : Nat → Int32) (v : Nat → Nat) (nb : Nat) (G : Nat → Nat → Int32) (w : Nat) (T : Nat → Int32) (a2 : Nat → Nat) (dy2 : Int32) (co2 : Int32) (ti2 : Int32) (ro2 : Int32) (u2 : Nat → Nat) (n2 : Nat) (B2 : Nat → Nat → Int32) (ch2 : Nat → Int32) (v2 : Nat → Nat) (nb2 : Nat) (G2 : Nat → Nat → Int32) (w2 : Nat) (T2 : Nat → Int32) (k : Nat) (qw : Nat) (hk : k < nb) (hnb : nb ≤ 3) (hw : qw < 6) : KM sa tb D cA cL l yX4_told wsX4_told ({ frames := 2, cells := 0, slots := 0, locals := 43 }) [.ref ox, .int (nI k), .int (nI qw)] (wX cA ox a dy co ti ro u n B ch v nb G w T a2 dy2 co2 ti2 ro2 u2 n2 B2 ch2 v2 nb2 G2 w2 T2) (qI D (fun (r : Int32) (_ : Unit) => r = tellG G k qw) (fun _ => wX cA ox a dy co ti ro u n B ch v nb G w T a2 dy2 co2 ti2 ro2 u2 n2 B2 ch2 v2 nb2 G2 w2 T2)) := by
  refine KM.of (cc := cX4_told) (maxL := 3) (ret := some .int) (by decide) rfl (Nat.le_of_ble_eq_true rfl) ?_
  intro pg e s m args below meth c A hx hb hr hml hlocks hts hown hS hA hE hP hD ls hl
  have hown : s.vm.findClass RX4 = some m.cls := hown
  have hl : lv_has ls 3 [(0, .ref ox), (1, .int (nI k)), (2, .int (nI qw))] := hl
  have hwX3 : ∀ w ∈ wsX30, w ∈ wsX4_told := (fun _ h => List.mem_cons_of_mem _ (List.mem_append_left _ (List.mem_append_left _ (List.mem_append_right _ h))))
  have hwX4 : ∀ w ∈ wsX40, w ∈ wsX4_told := (fun _ h => List.mem_cons_of_mem _ (List.mem_append_left _ (List.mem_append_left _ (List.mem_append_left _ (List.mem_append_right _ h)))))
  refine lv_aload_n hx hb dX4_told_0 rfl (lv_at hl 0 rfl) ?_
  refine lv_iload_n hx hb dX4_told_1 rfl (lv_at hl 1 rfl) ?_
  refine goV ([]) ([]) hP hD hS hA (rnV (rest := []) (c_needBarge sa tb D cA cL l ox a dy co ti ro u n B ch v nb G w T a2 dy2 co2 ti2 ro2 u2 n2 B2 ch2 v2 nb2 G2 w2 T2 k (show k < nb from by first | omega | assumption | decide) (show nb ≤ 3 from by first | omega | assumption | decide)) ([]) ([]) hP hD hS hA hE ⟨hx, hb, hml, hown, hts⟩ (cwV 1 hts gX4_told_X4_needBarge rfl rfl rfl (by decide +kernel) ⟨(Nat.le_of_ble_eq_true rfl), (Nat.le_of_ble_eq_true rfl)⟩) 4 0 rfl rfl rfl rfl hl.1 rfl (Nat.le_of_ble_eq_true rfl) dX4_told_2 ⟨(Nat.le_of_ble_eq_true rfl), (Nat.le_of_ble_eq_true rfl)⟩) (fun _ => rfl) (fun u_2 H locs hw_2 hP hD hS => ?_)
  have hP : va_P D vwCl (wX cA ox a dy co ti ro u n B ch v nb G w T a2 dy2 co2 ti2 ro2 u2 n2 B2 ch2 v2 nb2 G2 w2 T2) H := hP
  have hD : va_D A (wX cA ox a dy co ti ro u n B ch v nb G w T a2 dy2 co2 ti2 ro2 u2 n2 B2 ch2 v2 nb2 G2 w2 T2) := hD
  refine lv_iload_n hx hb dX4_told_5 rfl (lv_at hl 2 rfl) ?_
  refine lv_bipush (v := 6) hx hb dX4_told_6 (by decide) ?_
  refine goV ([]) (wX cA ox a dy co ti ro u n B ch v nb G w T a2 dy2 co2 ti2 ro2 u2 n2 B2 ch2 v2 nb2 G2 w2 T2) hP hD hS hA (rnS (rest := []) (c_needFigure sa tb D cA cL l qw 6 (show qw < 6 from by first | omega | assumption | decide) (show 6 < 100 from by first | omega | assumption | decide)) ([]) (wX cA ox a dy co ti ro u n B ch v nb G w T a2 dy2 co2 ti2 ro2 u2 n2 B2 ch2 v2 nb2 G2 w2 T2) hP hD hS hA hE ⟨hx, hb, hml, hown, hts⟩ (va_cwS 2 hts gX4_told_X4_needFigure rfl rfl rfl (by decide +kernel) ⟨(Nat.le_of_ble_eq_true rfl), (Nat.le_of_ble_eq_true rfl)⟩) rfl hl.1 rfl (Nat.le_of_ble_eq_true rfl) dX4_told_8 ⟨(Nat.le_of_ble_eq_true rfl), (Nat.le_of_ble_eq_true rfl)⟩) (fun _ => rfl) (fun u_8 H locs hw_8 hP hD hS => ?_)
  have hP : va_P D vwCl (wX cA ox a dy co ti ro u n B ch v nb G w T a2 dy2 co2 ti2 ro2 u2 n2 B2 ch2 v2 nb2 G2 w2 T2) H := hP
  have hD : va_D A (wX cA ox a dy co ti ro u n B ch v nb G w T a2 dy2 co2 ti2 ro2 u2 n2 B2 ch2 v2 nb2 G2 w2 T2) := hD
  refine lv_aload_n hx hb dX4_told_11 rfl (lv_at hl 0 rfl) ?_
  refine va_get (D := D) (ci := 4) (v := .ref (a 0)) (C := RX4) (T := TX4) (N := 2) hx hb hts hwX4 hown hE.K hP 0 rfl rfl 0 (by decide) (hts (.fieldLink RX4 10 "SedgeBarges" "now" "LSedgeBarges$Waterway;") (List.mem_of_getElem? (i := 1) rfl)) (fun _ h9 => h9) rfl dX4_told_12 ?_
  refine va_getN (D := D) (ci := 3) (v := .ref (a 2)) (C := RX3) (T := TX3) (N := 7) hx hb hts hwX3 hown hE.K hP 1 rfl rfl 5 (by decide) (nf_8 hE) (fun _ h9 => h9) rfl dX4_told_15 ?_
  refine lv_iload_n hx hb dX4_told_18 rfl (lv_at hl 1 rfl) ?_
  refine lv_iload_n hx hb dX4_told_19 rfl (lv_at hl 2 rfl) ?_
  refine goI ([oX ox a a2, oWay a dy co ti ro] ++ wBeds cA (a 1) u n B ch) (wLand cA (a 3) w T ++ (wWay cA a2 dy2 co2 ti2 ro2 u2 n2 B2 ch2 v2 nb2 G2 w2 T2)) hP hD hS hA (rnV (rest := []) (c_Bars_tell sa tb D cA cL l (a 2) v nb G k qw (show k < 3 from by first | omega | assumption | decide) (show qw < 6 from by first | omega | assumption | decide)) ([oX ox a a2, oWay a dy co ti ro] ++ wBeds cA (a 1) u n B ch) (wLand cA (a 3) w T ++ (wWay cA a2 dy2 co2 ti2 ro2 u2 n2 B2 ch2 v2 nb2 G2 w2 T2)) hP hD hS hA hE ⟨hx, hb, hml, hown, hts⟩ (cwV 2 hts gX4_told_X0_tell rfl rfl rfl (by decide +kernel) ⟨(Nat.le_of_ble_eq_true rfl), (Nat.le_of_ble_eq_true rfl)⟩) 0 0 rfl rfl rfl rfl hl.1 rfl (Nat.le_of_ble_eq_true rfl) dX4_told_20 ⟨(Nat.le_of_ble_eq_true rfl), (Nat.le_of_ble_eq_true rfl)⟩) (fun _ => rfl) (fun r_20 u_20 H locs hw_20 hP hD hS => ?_)
  have hP : va_P D vwCl (wX cA ox a dy co ti ro u n B ch v nb G w T a2 dy2 co2 ti2 ro2 u2 n2 B2 ch2 v2 nb2 G2 w2 T2) H := hP
  have hD : va_D A (wX cA ox a dy co ti ro u n B ch v nb G w T a2 dy2 co2 ti2 ro2 u2 n2 B2 ch2 v2 nb2 G2 w2 T2) := hD
  obtain rfl : r_20 = tellG G k qw := hw_20
  exact enI () hx hb hr hlocks hS hP (rfl) dX4_told_23
set_option maxRecDepth 100000 in
set_option maxHeartbeats 4000000 in
theorem c_landing (sa : Nat × Nat × (Nat → Int32)) (tb : Nat → Nat) (D : va_G) (cA cL : ClassId) (l : Launch) (ox : Nat) (a : Nat → Nat) (dy : Int32) (co : Int32) (ti : Int32) (ro : Int32) (u : Nat → Nat) (n : Nat) (B : Nat → Nat → Int32) (ch : Nat → Int32) (v : Nat → Nat) (nb : Nat) (G : Nat → Nat → Int32) (w : Nat) (T : Nat → Int32) (a2 : Nat → Nat) (dy2 : Int32) (co2 : Int32) (ti2 : Int32) (ro2 : Int32) (u2 : Nat → Nat) (n2 : Nat) (B2 : Nat → Nat → Int32) (ch2 : Nat → Int32) (v2 : Nat → Nat) (nb2 : Nat) (G2 : Nat → Nat → Int32) (w2 : Nat) (T2 : Nat → Int32) (k : Nat) (qw : Nat) (hk : k < 3) (hw : qw < 4) : KM sa tb D cA cL l yX4_landing wsX4_landing ({ frames := 4, cells := 0, slots := 0, locals := 88 }) [.ref ox, .int (nI k), .int (nI qw)] (wX cA ox a dy co ti ro u n B ch v nb G w T a2 dy2 co2 ti2 ro2 u2 n2 B2 ch2 v2 nb2 G2 w2 T2) (qI D (fun (r : Int32) (_ : Unit) => r = tellL T k qw) (fun _ => wX cA ox a dy co ti ro u n B ch v nb G w T a2 dy2 co2 ti2 ro2 u2 n2 B2 ch2 v2 nb2 G2 w2 T2)) := by
  refine KM.of (cc := cX4_landing) (maxL := 3) (ret := some .int) (by decide) rfl (Nat.le_of_ble_eq_true rfl) ?_
  intro pg e s m args below meth c A hx hb hr hml hlocks hts hown hS hA hE hP hD ls hl
  have hown : s.vm.findClass RX4 = some m.cls := hown
  have hl : lv_has ls 3 [(0, .ref ox), (1, .int (nI k)), (2, .int (nI qw))] := hl
  have hwX3 : ∀ w ∈ wsX30, w ∈ wsX4_landing := (fun _ h => List.mem_cons_of_mem _ (List.mem_append_left _ (List.mem_append_left _ (List.mem_append_right _ h))))
  have hwX4 : ∀ w ∈ wsX40, w ∈ wsX4_landing := (fun _ h => List.mem_cons_of_mem _ (List.mem_append_left _ (List.mem_append_left _ (List.mem_append_left _ (List.mem_append_right _ h)))))
  refine lv_iload_n hx hb dX4_landing_0 rfl (lv_at hl 1 rfl) ?_
  refine goV ([]) (wX cA ox a dy co ti ro u n B ch v nb G w T a2 dy2 co2 ti2 ro2 u2 n2 B2 ch2 v2 nb2 G2 w2 T2) hP hD hS hA (rnS (rest := []) (c_needLanding sa tb D cA cL l k (show k < 3 from by first | omega | assumption | decide)) ([]) (wX cA ox a dy co ti ro u n B ch v nb G w T a2 dy2 co2 ti2 ro2 u2 n2 B2 ch2 v2 nb2 G2 w2 T2) hP hD hS hA hE ⟨hx, hb, hml, hown, hts⟩ (va_cwS 1 hts gX4_landing_X4_needLanding rfl rfl rfl (by decide +kernel) ⟨(Nat.le_of_ble_eq_true rfl), (Nat.le_of_ble_eq_true rfl)⟩) rfl hl.1 rfl (Nat.le_of_ble_eq_true rfl) dX4_landing_1 ⟨(Nat.le_of_ble_eq_true rfl), (Nat.le_of_ble_eq_true rfl)⟩) (fun _ => rfl) (fun u_1 H locs hw_1 hP hD hS => ?_)
  have hP : va_P D vwCl (wX cA ox a dy co ti ro u n B ch v nb G w T a2 dy2 co2 ti2 ro2 u2 n2 B2 ch2 v2 nb2 G2 w2 T2) H := hP
  have hD : va_D A (wX cA ox a dy co ti ro u n B ch v nb G w T a2 dy2 co2 ti2 ro2 u2 n2 B2 ch2 v2 nb2 G2 w2 T2) := hD
  refine lv_iload_n hx hb dX4_landing_4 rfl (lv_at hl 2 rfl) ?_
  refine lv_iconst (v := 4) hx hb dX4_landing_5 (by decide) ?_
  refine goV ([]) (wX cA ox a dy co ti ro u n B ch v nb G w T a2 dy2 co2 ti2 ro2 u2 n2 B2 ch2 v2 nb2 G2 w2 T2) hP hD hS hA (rnS (rest := []) (c_needFigure sa tb D cA cL l qw 4 (show qw < 4 from by first | omega | assumption | decide) (show 4 < 100 from by first | omega | assumption | decide)) ([]) (wX cA ox a dy co ti ro u n B ch v nb G w T a2 dy2 co2 ti2 ro2 u2 n2 B2 ch2 v2 nb2 G2 w2 T2) hP hD hS hA hE ⟨hx, hb, hml, hown, hts⟩ (va_cwS 2 hts gX4_landing_X4_needFigure rfl rfl rfl (by decide +kernel) ⟨(Nat.le_of_ble_eq_true rfl), (Nat.le_of_ble_eq_true rfl)⟩) rfl hl.1 rfl (Nat.le_of_ble_eq_true rfl) dX4_landing_6 ⟨(Nat.le_of_ble_eq_true rfl), (Nat.le_of_ble_eq_true rfl)⟩) (fun _ => rfl) (fun u_6 H locs hw_6 hP hD hS => ?_)
  have hP : va_P D vwCl (wX cA ox a dy co ti ro u n B ch v nb G w T a2 dy2 co2 ti2 ro2 u2 n2 B2 ch2 v2 nb2 G2 w2 T2) H := hP
  have hD : va_D A (wX cA ox a dy co ti ro u n B ch v nb G w T a2 dy2 co2 ti2 ro2 u2 n2 B2 ch2 v2 nb2 G2 w2 T2) := hD
  refine lv_aload_n hx hb dX4_landing_9 rfl (lv_at hl 0 rfl) ?_
  refine va_get (D := D) (ci := 4) (v := .ref (a 0)) (C := RX4) (T := TX4) (N := 2) hx hb hts hwX4 hown hE.K hP 0 rfl rfl 0 (by decide) (hts (.fieldLink RX4 10 "SedgeBarges" "now" "LSedgeBarges$Waterway;") (List.mem_of_getElem? (i := 1) rfl)) (fun _ h9 => h9) rfl dX4_landing_10 ?_
  refine va_getN (D := D) (ci := 3) (v := .ref (a 3)) (C := RX3) (T := TX3) (N := 7) hx hb hts hwX3 hown hE.K hP 1 rfl rfl 6 (by decide) (nf_2 hE) (fun _ h9 => h9) rfl dX4_landing_13 ?_
  refine lv_iload_n hx hb dX4_landing_16 rfl (lv_at hl 1 rfl) ?_
  refine lv_iload_n hx hb dX4_landing_17 rfl (lv_at hl 2 rfl) ?_
  refine goI ([oX ox a a2, oWay a dy co ti ro] ++ (wBeds cA (a 1) u n B ch ++ wBars cA (a 2) v nb G)) (wWay cA a2 dy2 co2 ti2 ro2 u2 n2 B2 ch2 v2 nb2 G2 w2 T2) hP hD hS hA (rnV (rest := []) (c_Land_tell sa tb D cA cL l (a 3) w T k qw (show k < 3 from by first | omega | assumption | decide) (show qw < 4 from by first | omega | assumption | decide)) ([oX ox a a2, oWay a dy co ti ro] ++ (wBeds cA (a 1) u n B ch ++ wBars cA (a 2) v nb G)) (wWay cA a2 dy2 co2 ti2 ro2 u2 n2 B2 ch2 v2 nb2 G2 w2 T2) hP hD hS hA hE ⟨hx, hb, hml, hown, hts⟩ (cwV 2 hts gX4_landing_X2_tell rfl rfl rfl (by decide +kernel) ⟨(Nat.le_of_ble_eq_true rfl), (Nat.le_of_ble_eq_true rfl)⟩) 2 0 rfl rfl rfl rfl hl.1 rfl (Nat.le_of_ble_eq_true rfl) dX4_landing_18 ⟨(Nat.le_of_ble_eq_true rfl), (Nat.le_of_ble_eq_true rfl)⟩) (fun _ => rfl) (fun r_18 u_18 H locs hw_18 hP hD hS => ?_)
  have hP : va_P D vwCl (wX cA ox a dy co ti ro u n B ch v nb G w T a2 dy2 co2 ti2 ro2 u2 n2 B2 ch2 v2 nb2 G2 w2 T2) H := hP
  have hD : va_D A (wX cA ox a dy co ti ro u n B ch v nb G w T a2 dy2 co2 ti2 ro2 u2 n2 B2 ch2 v2 nb2 G2 w2 T2) := hD
  obtain rfl : r_18 = tellL T k qw := hw_18
  exact enI () hx hb hr hlocks hS hP (rfl) dX4_landing_21
set_option maxRecDepth 100000 in
set_option maxHeartbeats 4000000 in
theorem c_would (sa : Nat × Nat × (Nat → Int32)) (tb : Nat → Nat) (D : va_G) (cA cL : ClassId) (l : Launch) (ox : Nat) (a : Nat → Nat) (dy : Int32) (co : Int32) (ti : Int32) (ro : Int32) (u : Nat → Nat) (n : Nat) (B : Nat → Nat → Int32) (ch : Nat → Int32) (v : Nat → Nat) (nb : Nat) (G : Nat → Nat → Int32) (w : Nat) (T : Nat → Int32) (a2 : Nat → Nat) (dy2 : Int32) (co2 : Int32) (ti2 : Int32) (ro2 : Int32) (u2 : Nat → Nat) (n2 : Nat) (B2 : Nat → Nat → Int32) (ch2 : Nat → Int32) (v2 : Nat → Nat) (nb2 : Nat) (G2 : Nat → Nat → Int32) (w2 : Nat) (T2 : Nat → Int32) (k : Nat) (j : Nat) (hk : k < nb) (hj : j < 3) (hn : n ≤ 8) (hnb : nb ≤ 3) (hpl : ∃ p, p < 31 ∧ G 0 k = nI p) : KM sa tb D cA cL l yX4_would wsX4_would ({ frames := 5, cells := 0, slots := 0, locals := 110 }) [.ref ox, .int (nI k), .int (nI j)] (wX cA ox a dy co ti ro u n B ch v nb G w T a2 dy2 co2 ti2 ro2 u2 n2 B2 ch2 v2 nb2 G2 w2 T2) (qI D (fun (r : Int32) (uu : Int32 × Int32 × Int32 × Int32 × (Nat → Nat → Int32) × (Nat → Int32) × (Nat → Nat → Int32) × (Nat → Int32)) => r = wouldV G T k j) (fun uu => wX cA ox a dy co ti ro u n B ch v nb G w T a2 uu.1 uu.2.1 uu.2.2.1 uu.2.2.2.1 u2 n uu.2.2.2.2.1 uu.2.2.2.2.2.1 v2 nb uu.2.2.2.2.2.2.1 w2 uu.2.2.2.2.2.2.2)) := by
  refine KM.of (cc := cX4_would) (maxL := 4) (ret := some .int) (by decide) rfl (Nat.le_of_ble_eq_true rfl) ?_
  intro pg e s m args below meth c A hx hb hr hml hlocks hts hown hS hA hE hP hD ls hl
  have hown : s.vm.findClass RX4 = some m.cls := hown
  have hl : lv_has ls 4 [(0, .ref ox), (1, .int (nI k)), (2, .int (nI j))] := hl
  have hwX3 : ∀ w ∈ wsX30, w ∈ wsX4_would := (fun _ h => List.mem_cons_of_mem _ (List.mem_append_left _ (List.mem_append_left _ (List.mem_append_left _ (List.mem_append_left _ (List.mem_append_right _ h))))))
  have hwX4 : ∀ w ∈ wsX40, w ∈ wsX4_would := (fun _ h => List.mem_cons_of_mem _ (List.mem_append_left _ (List.mem_append_left _ (List.mem_append_left _ (List.mem_append_left _ (List.mem_append_left _ (List.mem_append_right _ h)))))))
  refine lv_aload_n hx hb dX4_would_0 rfl (lv_at hl 0 rfl) ?_
  refine lv_iload_n hx hb dX4_would_1 rfl (lv_at hl 1 rfl) ?_
  refine goV ([]) ([]) hP hD hS hA (rnV (rest := []) (c_needBarge sa tb D cA cL l ox a dy co ti ro u n B ch v nb G w T a2 dy2 co2 ti2 ro2 u2 n2 B2 ch2 v2 nb2 G2 w2 T2 k (show k < nb from by first | omega | assumption | decide) (show nb ≤ 3 from by first | omega | assumption | decide)) ([]) ([]) hP hD hS hA hE ⟨hx, hb, hml, hown, hts⟩ (cwV 1 hts gX4_would_X4_needBarge rfl rfl rfl (by decide +kernel) ⟨(Nat.le_of_ble_eq_true rfl), (Nat.le_of_ble_eq_true rfl)⟩) 4 0 rfl rfl rfl rfl hl.1 rfl (Nat.le_of_ble_eq_true rfl) dX4_would_2 ⟨(Nat.le_of_ble_eq_true rfl), (Nat.le_of_ble_eq_true rfl)⟩) (fun _ => rfl) (fun u_2 H locs hw_2 hP hD hS => ?_)
  have hP : va_P D vwCl (wX cA ox a dy co ti ro u n B ch v nb G w T a2 dy2 co2 ti2 ro2 u2 n2 B2 ch2 v2 nb2 G2 w2 T2) H := hP
  have hD : va_D A (wX cA ox a dy co ti ro u n B ch v nb G w T a2 dy2 co2 ti2 ro2 u2 n2 B2 ch2 v2 nb2 G2 w2 T2) := hD
  refine lv_iload_n hx hb dX4_would_5 rfl (lv_at hl 2 rfl) ?_
  refine goV ([]) (wX cA ox a dy co ti ro u n B ch v nb G w T a2 dy2 co2 ti2 ro2 u2 n2 B2 ch2 v2 nb2 G2 w2 T2) hP hD hS hA (rnS (rest := []) (c_needLanding sa tb D cA cL l j (show j < 3 from by first | omega | assumption | decide)) ([]) (wX cA ox a dy co ti ro u n B ch v nb G w T a2 dy2 co2 ti2 ro2 u2 n2 B2 ch2 v2 nb2 G2 w2 T2) hP hD hS hA hE ⟨hx, hb, hml, hown, hts⟩ (va_cwS 1 hts gX4_would_X4_needLanding rfl rfl rfl (by decide +kernel) ⟨(Nat.le_of_ble_eq_true rfl), (Nat.le_of_ble_eq_true rfl)⟩) rfl hl.1 rfl (Nat.le_of_ble_eq_true rfl) dX4_would_6 ⟨(Nat.le_of_ble_eq_true rfl), (Nat.le_of_ble_eq_true rfl)⟩) (fun _ => rfl) (fun u_6 H locs hw_6 hP hD hS => ?_)
  have hP : va_P D vwCl (wX cA ox a dy co ti ro u n B ch v nb G w T a2 dy2 co2 ti2 ro2 u2 n2 B2 ch2 v2 nb2 G2 w2 T2) H := hP
  have hD : va_D A (wX cA ox a dy co ti ro u n B ch v nb G w T a2 dy2 co2 ti2 ro2 u2 n2 B2 ch2 v2 nb2 G2 w2 T2) := hD
  refine lv_aload_n hx hb dX4_would_9 rfl (lv_at hl 0 rfl) ?_
  refine va_get (D := D) (ci := 4) (v := .ref (a2 0)) (C := RX4) (T := TX4) (N := 2) hx hb hts hwX4 hown hE.K hP 0 rfl rfl 1 (by decide) (hts (.fieldLink RX4 16 "SedgeBarges" "ahead" "LSedgeBarges$Waterway;") (List.mem_of_getElem? (i := 1) rfl)) (fun _ h9 => h9) rfl dX4_would_10 ?_
  refine lv_aload_n hx hb dX4_would_13 rfl (lv_at hl 0 rfl) ?_
  refine va_get (D := D) (ci := 4) (v := .ref (a 0)) (C := RX4) (T := TX4) (N := 2) hx hb hts hwX4 hown hE.K hP 0 rfl rfl 0 (by decide) (hts (.fieldLink RX4 10 "SedgeBarges" "now" "LSedgeBarges$Waterway;") (List.mem_of_getElem? (i := 2) rfl)) (fun _ h9 => h9) rfl dX4_would_14 ?_
  have hPq : va_P D vwCl ([] ++ ((wWay cA a2 dy2 co2 ti2 ro2 u2 n2 B2 ch2 v2 nb2 G2 w2 T2 ++ wWay cA a dy co ti ro u n B ch v nb G w T) ++ ([(ox, .inr (4, [.ref (a 0), .ref (a2 0)]))]))) _ := hP.sub [20, 21, 22, 23, 24, 25, 26, 27, 28, 29, 30, 31, 32, 33, 34, 35, 36, 37, 38, 1, 2, 3, 4, 5, 6, 7, 8, 9, 10, 11, 12, 13, 14, 15, 16, 17, 18, 19, 0] rfl
  have hDq : va_D A ([] ++ ((wWay cA a2 dy2 co2 ti2 ro2 u2 n2 B2 ch2 v2 nb2 G2 w2 T2 ++ wWay cA a dy co ti ro u n B ch v nb G w T) ++ ([(ox, .inr (4, [.ref (a 0), .ref (a2 0)]))]))) := hD.sub [20, 21, 22, 23, 24, 25, 26, 27, 28, 29, 30, 31, 32, 33, 34, 35, 36, 37, 38, 1, 2, 3, 4, 5, 6, 7, 8, 9, 10, 11, 12, 13, 14, 15, 16, 17, 18, 19, 0] (by decide) rfl
  refine goV ([]) ([(ox, .inr (4, [.ref (a 0), .ref (a2 0)]))]) hPq hDq hS hA (rnV (rest := []) (c_Way_copyFrom sa tb D cA cL l a2 dy2 co2 ti2 ro2 u2 n2 B2 ch2 v2 nb2 G2 w2 T2 a dy co ti ro u n B ch v nb G w T (show n ≤ 8 from by first | omega | assumption | decide) (show nb ≤ 3 from by first | omega | assumption | decide)) ([]) ([(ox, .inr (4, [.ref (a 0), .ref (a2 0)]))]) hPq hDq hS hA hE ⟨hx, hb, hml, hown, hts⟩ (cwV 1 hts gX4_would_X3_copyFrom rfl rfl rfl (by decide +kernel) ⟨(Nat.le_of_ble_eq_true rfl), (Nat.le_of_ble_eq_true rfl)⟩) 3 0 rfl rfl rfl rfl hl.1 rfl (Nat.le_of_ble_eq_true rfl) dX4_would_17 ⟨(Nat.le_of_ble_eq_true rfl), (Nat.le_of_ble_eq_true rfl)⟩) (fun _ => rfl) (fun u_17 H locs hw_17 hP hD hS => ?_)
  have hP : va_P D vwCl (wX cA ox a dy co ti ro u n B ch v nb G w T a2 dy co ti ro u2 n (cpB n B B2) ch2 v2 nb (cpG nb G G2) w2 (cpT T T2)) H := hP.sub [38, 19, 20, 21, 22, 23, 24, 25, 26, 27, 28, 29, 30, 31, 32, 33, 34, 35, 36, 37, 0, 1, 2, 3, 4, 5, 6, 7, 8, 9, 10, 11, 12, 13, 14, 15, 16, 17, 18] rfl
  have hD : va_D A (wX cA ox a dy co ti ro u n B ch v nb G w T a2 dy co ti ro u2 n (cpB n B B2) ch2 v2 nb (cpG nb G G2) w2 (cpT T T2)) := hD.sub [38, 19, 20, 21, 22, 23, 24, 25, 26, 27, 28, 29, 30, 31, 32, 33, 34, 35, 36, 37, 0, 1, 2, 3, 4, 5, 6, 7, 8, 9, 10, 11, 12, 13, 14, 15, 16, 17, 18] (by decide) rfl
  refine lv_aload_n hx hb dX4_would_20 rfl (lv_at hl 0 rfl) ?_
  refine va_get (D := D) (ci := 4) (v := .ref (a2 0)) (C := RX4) (T := TX4) (N := 2) hx hb hts hwX4 hown hE.K hP 0 rfl rfl 1 (by decide) (hts (.fieldLink RX4 16 "SedgeBarges" "ahead" "LSedgeBarges$Waterway;") (List.mem_of_getElem? (i := 1) rfl)) (fun _ h9 => h9) rfl dX4_would_21 ?_
  refine va_getN (D := D) (ci := 3) (v := .ref (a2 2)) (C := RX3) (T := TX3) (N := 7) hx hb hts hwX3 hown hE.K hP 20 rfl rfl 5 (by decide) (nf_8 hE) (fun _ h9 => h9) rfl dX4_would_24 ?_
  refine lv_iload_n hx hb dX4_would_27 rfl (lv_at hl 1 rfl) ?_
  refine va_gets hx hb (hE.2.2.2.1.2.1).1 hS hown (hts (.fieldLink RX4 147 "SedgeBarges" "LANDING_PLACE" "[I") (List.mem_of_getElem? (i := 3) rfl)) (fun _ h9 => h9) dX4_would_28 ?_
  refine lv_iload_n hx hb dX4_would_31 rfl (lv_at hl 2 rfl) ?_
  refine r_tld hx hb (hE.2.2.2.1.2.1) hS (j) rfl (by omega) (by decide) rfl dX4_would_32 ?_
  refine goI ([oX ox a a2] ++ (wWay cA a dy co ti ro u n B ch v nb G w T ++ ([oWay a2 dy co ti ro] ++ wBeds cA (a2 1) u2 n (cpB n B B2) ch2))) (wLand cA (a2 3) w2 (cpT T T2)) hP hD hS hA (rnV (rest := []) (c_Bars_send sa tb D cA cL l (a2 2) v2 nb (cpG nb G G2) k (plF j) (show k < 3 from by first | omega | assumption | decide)) ([oX ox a a2] ++ (wWay cA a dy co ti ro u n B ch v nb G w T ++ ([oWay a2 dy co ti ro] ++ wBeds cA (a2 1) u2 n (cpB n B B2) ch2))) (wLand cA (a2 3) w2 (cpT T T2)) hP hD hS hA hE ⟨hx, hb, hml, hown, hts⟩ (cwV 2 hts gX4_would_X0_send rfl rfl rfl (by decide +kernel) ⟨(Nat.le_of_ble_eq_true rfl), (Nat.le_of_ble_eq_true rfl)⟩) 0 0 rfl rfl rfl rfl hl.1 rfl (Nat.le_of_ble_eq_true rfl) dX4_would_33 ⟨(Nat.le_of_ble_eq_true rfl), (Nat.le_of_ble_eq_true rfl)⟩) (fun _ => rfl) (fun r_33 u_33 H locs hw_33 hP hD hS => ?_)
  have hP : va_P D vwCl (wX cA ox a dy co ti ro u n B ch v nb G w T a2 dy co ti ro u2 n (cpB n B B2) ch2 v2 nb (sendG (cpG nb G G2) k (plF j)) w2 (cpT T T2)) H := hP
  have hD : va_D A (wX cA ox a dy co ti ro u n B ch v nb G w T a2 dy co ti ro u2 n (cpB n B B2) ch2 v2 nb (sendG (cpG nb G G2) k (plF j)) w2 (cpT T T2)) := hD
  obtain rfl : r_33 = nI (ddF G k j) := hw_33.trans ((sendD_cp hk).trans (dd_ok hpl hj).1)
  refine lv_istore_n (lv' := [(3, .int (nI (ddF G k j))), (0, .ref ox), (1, .int (nI k)), (2, .int (nI j))]) hx hb dX4_would_36 rfl hl (by decide) rfl (fun ls hl => ?_)
  refine lv_aload_n hx hb dX4_would_37 rfl (lv_at hl 1 rfl) ?_
  refine va_get (D := D) (ci := 4) (v := .ref (a2 0)) (C := RX4) (T := TX4) (N := 2) hx hb hts hwX4 hown hE.K hP 0 rfl rfl 1 (by decide) (hts (.fieldLink RX4 16 "SedgeBarges" "ahead" "LSedgeBarges$Waterway;") (List.mem_of_getElem? (i := 1) rfl)) (fun _ h9 => h9) rfl dX4_would_38 ?_
  refine lv_iload_n hx hb dX4_would_41 rfl (lv_at hl 0 rfl) ?_
  refine goI ([oX ox a a2] ++ (wWay cA a dy co ti ro u n B ch v nb G w T ++ ([]))) ([]) hP hD hS hA (rnV (rest := []) (c_Way_days sa tb D cA cL l a2 dy co ti ro u2 n (cpB n B B2) ch2 v2 nb (sendG (cpG nb G G2) k (plF j)) w2 (cpT T T2) (ddF G k j) (show n ≤ 8 from by first | omega | assumption | decide) (show nb ≤ 3 from by first | omega | assumption | decide) (show (ddF G k j) < 1000 from by have := (dd_ok hpl hj).2; omega)) ([oX ox a a2] ++ (wWay cA a dy co ti ro u n B ch v nb G w T ++ ([]))) ([]) hP hD hS hA hE ⟨hx, hb, hml, hown, hts⟩ (cwV 1 hts gX4_would_X3_passDays rfl rfl rfl (by decide +kernel) ⟨(Nat.le_of_ble_eq_true rfl), (Nat.le_of_ble_eq_true rfl)⟩) 3 0 rfl rfl rfl rfl hl.1 rfl (Nat.le_of_ble_eq_true rfl) dX4_would_42 ⟨(Nat.le_of_ble_eq_true rfl), (Nat.le_of_ble_eq_true rfl)⟩) (fun _ => rfl) (fun r_42 u_42 H locs hw_42 hP hD hS => ?_)
  have hP : va_P D vwCl (wX cA ox a dy co ti ro u n B ch v nb G w T a2 ((daysS n nb (ddF G k j) (dy, ro, (cpB n B B2), (sendG (cpG nb G G2) k (plF j)), (cpT T T2))).1) co ti ((daysS n nb (ddF G k j) (dy, ro, (cpB n B B2), (sendG (cpG nb G G2) k (plF j)), (cpT T T2))).2.1) u2 n ((daysS n nb (ddF G k j) (dy, ro, (cpB n B B2), (sendG (cpG nb G G2) k (plF j)), (cpT T T2))).2.2.1) u_42 v2 nb ((daysS n nb (ddF G k j) (dy, ro, (cpB n B B2), (sendG (cpG nb G G2) k (plF j)), (cpT T T2))).2.2.2.1) w2 ((daysS n nb (ddF G k j) (dy, ro, (cpB n B B2), (sendG (cpG nb G G2) k (plF j)), (cpT T T2))).2.2.2.2)) H := hP
  have hD : va_D A (wX cA ox a dy co ti ro u n B ch v nb G w T a2 ((daysS n nb (ddF G k j) (dy, ro, (cpB n B B2), (sendG (cpG nb G G2) k (plF j)), (cpT T T2))).1) co ti ((daysS n nb (ddF G k j) (dy, ro, (cpB n B B2), (sendG (cpG nb G G2) k (plF j)), (cpT T T2))).2.1) u2 n ((daysS n nb (ddF G k j) (dy, ro, (cpB n B B2), (sendG (cpG nb G G2) k (plF j)), (cpT T T2))).2.2.1) u_42 v2 nb ((daysS n nb (ddF G k j) (dy, ro, (cpB n B B2), (sendG (cpG nb G G2) k (plF j)), (cpT T T2))).2.2.2.1) w2 ((daysS n nb (ddF G k j) (dy, ro, (cpB n B B2), (sendG (cpG nb G G2) k (plF j)), (cpT T T2))).2.2.2.2)) := hD
  obtain rfl : r_42 = (daysS n nb (ddF G k j) (dy, ro, (cpB n B B2), (sendG (cpG nb G G2) k (plF j)), (cpT T T2))).2.1 - ro := hw_42
  refine lv_pop hx hb dX4_would_45 rfl ?_
  refine lv_aload_n hx hb dX4_would_46 rfl (lv_at hl 1 rfl) ?_
  refine va_get (D := D) (ci := 4) (v := .ref (a2 0)) (C := RX4) (T := TX4) (N := 2) hx hb hts hwX4 hown hE.K hP 0 rfl rfl 1 (by decide) (hts (.fieldLink RX4 16 "SedgeBarges" "ahead" "LSedgeBarges$Waterway;") (List.mem_of_getElem? (i := 1) rfl)) (fun _ h9 => h9) rfl dX4_would_47 ?_
  refine lv_iload_n hx hb dX4_would_50 rfl (lv_at hl 2 rfl) ?_
  refine lv_iload_n hx hb dX4_would_51 rfl (lv_at hl 3 rfl) ?_
  refine goI ([oX ox a a2] ++ (wWay cA a dy co ti ro u n B ch v nb G w T ++ ([]))) ([]) hP hD hS hA (rnV (rest := []) (c_Way_sell sa tb D cA cL l a2 ((daysS n nb (ddF G k j) (dy, ro, (cpB n B B2), (sendG (cpG nb G G2) k (plF j)), (cpT T T2))).1) co ti ((daysS n nb (ddF G k j) (dy, ro, (cpB n B B2), (sendG (cpG nb G G2) k (plF j)), (cpT T T2))).2.1) u2 n ((daysS n nb (ddF G k j) (dy, ro, (cpB n B B2), (sendG (cpG nb G G2) k (plF j)), (cpT T T2))).2.2.1) u_42 v2 nb ((daysS n nb (ddF G k j) (dy, ro, (cpB n B B2), (sendG (cpG nb G G2) k (plF j)), (cpT T T2))).2.2.2.1) w2 ((daysS n nb (ddF G k j) (dy, ro, (cpB n B B2), (sendG (cpG nb G G2) k (plF j)), (cpT T T2))).2.2.2.2) k j (show k < 3 from by first | omega | assumption | decide) (show j < 3 from by first | omega | assumption | decide)) ([oX ox a a2] ++ (wWay cA a dy co ti ro u n B ch v nb G w T ++ ([]))) ([]) hP hD hS hA hE ⟨hx, hb, hml, hown, hts⟩ (cwV 2 hts gX4_would_X3_sellAll rfl rfl rfl (by decide +kernel) ⟨(Nat.le_of_ble_eq_true rfl), (Nat.le_of_ble_eq_true rfl)⟩) 3 0 rfl rfl rfl rfl hl.1 rfl (Nat.le_of_ble_eq_true rfl) dX4_would_52 ⟨(Nat.le_of_ble_eq_true rfl), (Nat.le_of_ble_eq_true rfl)⟩) (fun _ => rfl) (fun r_52 u_52 H locs hw_52 hP hD hS => ?_)
  have hP : va_P D vwCl (wX cA ox a dy co ti ro u n B ch v nb G w T a2 ((daysS n nb (ddF G k j) (dy, ro, (cpB n B B2), (sendG (cpG nb G G2) k (plF j)), (cpT T T2))).1) (co + earn ((daysS n nb (ddF G k j) (dy, ro, (cpB n B B2), (sendG (cpG nb G G2) k (plF j)), (cpT T T2))).2.2.2.1) ((daysS n nb (ddF G k j) (dy, ro, (cpB n B B2), (sendG (cpG nb G G2) k (plF j)), (cpT T T2))).2.2.2.2) k j) ti ((daysS n nb (ddF G k j) (dy, ro, (cpB n B B2), (sendG (cpG nb G G2) k (plF j)), (cpT T T2))).2.1) u2 n ((daysS n nb (ddF G k j) (dy, ro, (cpB n B B2), (sendG (cpG nb G G2) k (plF j)), (cpT T T2))).2.2.1) u_42 v2 nb (sellG ((daysS n nb (ddF G k j) (dy, ro, (cpB n B B2), (sendG (cpG nb G G2) k (plF j)), (cpT T T2))).2.2.2.1) ((daysS n nb (ddF G k j) (dy, ro, (cpB n B B2), (sendG (cpG nb G G2) k (plF j)), (cpT T T2))).2.2.2.2) k j) w2 (sellT ((daysS n nb (ddF G k j) (dy, ro, (cpB n B B2), (sendG (cpG nb G G2) k (plF j)), (cpT T T2))).2.2.2.1) ((daysS n nb (ddF G k j) (dy, ro, (cpB n B B2), (sendG (cpG nb G G2) k (plF j)), (cpT T T2))).2.2.2.2) k j)) H := hP
  have hD : va_D A (wX cA ox a dy co ti ro u n B ch v nb G w T a2 ((daysS n nb (ddF G k j) (dy, ro, (cpB n B B2), (sendG (cpG nb G G2) k (plF j)), (cpT T T2))).1) (co + earn ((daysS n nb (ddF G k j) (dy, ro, (cpB n B B2), (sendG (cpG nb G G2) k (plF j)), (cpT T T2))).2.2.2.1) ((daysS n nb (ddF G k j) (dy, ro, (cpB n B B2), (sendG (cpG nb G G2) k (plF j)), (cpT T T2))).2.2.2.2) k j) ti ((daysS n nb (ddF G k j) (dy, ro, (cpB n B B2), (sendG (cpG nb G G2) k (plF j)), (cpT T T2))).2.1) u2 n ((daysS n nb (ddF G k j) (dy, ro, (cpB n B B2), (sendG (cpG nb G G2) k (plF j)), (cpT T T2))).2.2.1) u_42 v2 nb (sellG ((daysS n nb (ddF G k j) (dy, ro, (cpB n B B2), (sendG (cpG nb G G2) k (plF j)), (cpT T T2))).2.2.2.1) ((daysS n nb (ddF G k j) (dy, ro, (cpB n B B2), (sendG (cpG nb G G2) k (plF j)), (cpT T T2))).2.2.2.2) k j) w2 (sellT ((daysS n nb (ddF G k j) (dy, ro, (cpB n B B2), (sendG (cpG nb G G2) k (plF j)), (cpT T T2))).2.2.2.1) ((daysS n nb (ddF G k j) (dy, ro, (cpB n B B2), (sendG (cpG nb G G2) k (plF j)), (cpT T T2))).2.2.2.2) k j)) := hD
  obtain rfl : r_52 = earn ((daysS n nb (ddF G k j) (dy, ro, (cpB n B B2), (sendG (cpG nb G G2) k (plF j)), (cpT T T2))).2.2.2.1) ((daysS n nb (ddF G k j) (dy, ro, (cpB n B B2), (sendG (cpG nb G G2) k (plF j)), (cpT T T2))).2.2.2.2) k j := hw_52
  exact enI ((daysS n nb (ddF G k j) (dy, ro, (cpB n B B2), (sendG (cpG nb G G2) k (plF j)), (cpT T T2))).1, co + earn ((daysS n nb (ddF G k j) (dy, ro, (cpB n B B2), (sendG (cpG nb G G2) k (plF j)), (cpT T T2))).2.2.2.1) ((daysS n nb (ddF G k j) (dy, ro, (cpB n B B2), (sendG (cpG nb G G2) k (plF j)), (cpT T T2))).2.2.2.2) k j, ti, (daysS n nb (ddF G k j) (dy, ro, (cpB n B B2), (sendG (cpG nb G G2) k (plF j)), (cpT T T2))).2.1, (daysS n nb (ddF G k j) (dy, ro, (cpB n B B2), (sendG (cpG nb G G2) k (plF j)), (cpT T T2))).2.2.1, u_42, sellG ((daysS n nb (ddF G k j) (dy, ro, (cpB n B B2), (sendG (cpG nb G G2) k (plF j)), (cpT T T2))).2.2.2.1) ((daysS n nb (ddF G k j) (dy, ro, (cpB n B B2), (sendG (cpG nb G G2) k (plF j)), (cpT T T2))).2.2.2.2) k j, sellT ((daysS n nb (ddF G k j) (dy, ro, (cpB n B B2), (sendG (cpG nb G G2) k (plF j)), (cpT T T2))).2.2.2.1) ((daysS n nb (ddF G k j) (dy, ro, (cpB n B B2), (sendG (cpG nb G G2) k (plF j)), (cpT T T2))).2.2.2.2) k j) hx hb hr hlocks hS hP (would_eq hk hj rfl) dX4_would_55
set_option maxRecDepth 100000 in
set_option maxHeartbeats 4000000 in
theorem c_advise (sa : Nat × Nat × (Nat → Int32)) (tb : Nat → Nat) (D : va_G) (cA cL : ClassId) (l : Launch) (ox : Nat) (a : Nat → Nat) (dy : Int32) (co : Int32) (ti : Int32) (ro : Int32) (u : Nat → Nat) (n : Nat) (B : Nat → Nat → Int32) (ch : Nat → Int32) (v : Nat → Nat) (nb : Nat) (G : Nat → Nat → Int32) (w : Nat) (T : Nat → Int32) (a2 : Nat → Nat) (dy2 : Int32) (co2 : Int32) (ti2 : Int32) (ro2 : Int32) (u2 : Nat → Nat) (n2 : Nat) (B2 : Nat → Nat → Int32) (ch2 : Nat → Int32) (v2 : Nat → Nat) (nb2 : Nat) (G2 : Nat → Nat → Int32) (w2 : Nat) (T2 : Nat → Int32) (k : Nat) (hk : k < nb) (hn : n ≤ 8) (hnb : nb ≤ 3) (hpl : ∃ p, p < 31 ∧ G 0 k = nI p) : KM sa tb D cA cL l yX4_advise wsX4_advise ({ frames := 6, cells := 0, slots := 0, locals := 133 }) [.ref ox, .int (nI k)] (wX cA ox a dy co ti ro u n B ch v nb G w T a2 dy2 co2 ti2 ro2 u2 n2 B2 ch2 v2 nb2 G2 w2 T2) (qI D (fun (r : Int32) (uu : Int32 × Int32 × Int32 × Int32 × (Nat → Nat → Int32) × (Nat → Int32) × (Nat → Nat → Int32) × (Nat → Int32)) => r = advF G T k) (fun uu => wX cA ox a dy co ti ro u n B ch v nb G w T a2 uu.1 uu.2.1 uu.2.2.1 uu.2.2.2.1 u2 n uu.2.2.2.2.1 uu.2.2.2.2.2.1 v2 nb uu.2.2.2.2.2.2.1 w2 uu.2.2.2.2.2.2.2)) := by
  refine KM.of (cc := cX4_advise) (maxL := 6) (ret := some .int) (by decide) rfl (Nat.le_of_ble_eq_true rfl) ?_
  intro pg e s m args below meth c A hx hb hr hml hlocks hts hown hS hA hE hP hD ls hl
  have hown : s.vm.findClass RX4 = some m.cls := hown
  have hl : lv_has ls 6 [(0, .ref ox), (1, .int (nI k))] := hl
  refine lv_aload_n hx hb dX4_advise_0 rfl (lv_at hl 0 rfl) ?_
  refine lv_iload_n hx hb dX4_advise_1 rfl (lv_at hl 1 rfl) ?_
  refine goV ([]) ([]) hP hD hS hA (rnV (rest := []) (c_needBarge sa tb D cA cL l ox a dy co ti ro u n B ch v nb G w T a2 dy2 co2 ti2 ro2 u2 n2 B2 ch2 v2 nb2 G2 w2 T2 k (show k < nb from by first | omega | assumption | decide) (show nb ≤ 3 from by first | omega | assumption | decide)) ([]) ([]) hP hD hS hA hE ⟨hx, hb, hml, hown, hts⟩ (cwV 1 hts gX4_advise_X4_needBarge rfl rfl rfl (by decide +kernel) ⟨(Nat.le_of_ble_eq_true rfl), (Nat.le_of_ble_eq_true rfl)⟩) 4 0 rfl rfl rfl rfl hl.1 rfl (Nat.le_of_ble_eq_true rfl) dX4_advise_2 ⟨(Nat.le_of_ble_eq_true rfl), (Nat.le_of_ble_eq_true rfl)⟩) (fun _ => rfl) (fun u_2 H locs hw_2 hP hD hS => ?_)
  have hP : va_P D vwCl (wX cA ox a dy co ti ro u n B ch v nb G w T a2 dy2 co2 ti2 ro2 u2 n2 B2 ch2 v2 nb2 G2 w2 T2) H := hP
  have hD : va_D A (wX cA ox a dy co ti ro u n B ch v nb G w T a2 dy2 co2 ti2 ro2 u2 n2 B2 ch2 v2 nb2 G2 w2 T2) := hD
  refine lv_iconst (v := 0) hx hb dX4_advise_5 (by decide) ?_
  refine lv_istore_n (lv' := [(2, .int 0), (0, .ref ox), (1, .int (nI k))]) hx hb dX4_advise_6 rfl hl (by decide) rfl (fun ls hl => ?_)
  refine lv_aload_n hx hb dX4_advise_7 rfl (lv_at hl 1 rfl) ?_
  refine lv_iload_n hx hb dX4_advise_8 rfl (lv_at hl 2 rfl) ?_
  refine lv_iconst (v := 0) hx hb dX4_advise_9 (by decide) ?_
  refine goI ([]) ([]) hP hD hS hA (rnV (rest := []) (c_would sa tb D cA cL l ox a dy co ti ro u n B ch v nb G w T a2 dy2 co2 ti2 ro2 u2 n2 B2 ch2 v2 nb2 G2 w2 T2 k 0 (show k < nb from by first | omega | assumption | decide) (show 0 < 3 from by first | omega | assumption | decide) (show n ≤ 8 from by first | omega | assumption | decide) (show nb ≤ 3 from by first | omega | assumption | decide) (show ∃ p, p < 31 ∧ G 0 k = nI p from by first | omega | assumption | decide)) ([]) ([]) hP hD hS hA hE ⟨hx, hb, hml, hown, hts⟩ (cwV 2 hts gX4_advise_X4_would rfl rfl rfl (by decide +kernel) ⟨(Nat.le_of_ble_eq_true rfl), (Nat.le_of_ble_eq_true rfl)⟩) 4 0 rfl rfl rfl rfl hl.1 rfl (Nat.le_of_ble_eq_true rfl) dX4_advise_10 ⟨(Nat.le_of_ble_eq_true rfl), (Nat.le_of_ble_eq_true rfl)⟩) (fun _ => rfl) (fun r_10 u_10 H locs hw_10 hP hD hS => ?_)
  have hP : va_P D vwCl (wX cA ox a dy co ti ro u n B ch v nb G w T a2 u_10.1 u_10.2.1 u_10.2.2.1 u_10.2.2.2.1 u2 n u_10.2.2.2.2.1 u_10.2.2.2.2.2.1 v2 nb u_10.2.2.2.2.2.2.1 w2 u_10.2.2.2.2.2.2.2) H := hP
  have hD : va_D A (wX cA ox a dy co ti ro u n B ch v nb G w T a2 u_10.1 u_10.2.1 u_10.2.2.1 u_10.2.2.2.1 u2 n u_10.2.2.2.2.1 u_10.2.2.2.2.2.1 v2 nb u_10.2.2.2.2.2.2.1 w2 u_10.2.2.2.2.2.2.2) := hD
  obtain rfl : r_10 = wouldV G T k 0 := hw_10
  refine lv_istore_n (lv' := [(3, .int (wouldV G T k 0)), (2, .int 0), (0, .ref ox), (1, .int (nI k))]) hx hb dX4_advise_13 rfl hl (by decide) rfl (fun ls hl => ?_)
  refine lv_iconst (v := 1) hx hb dX4_advise_14 (by decide) ?_
  refine lv_istore (lv' := [(4, .int 1), (3, .int (wouldV G T k 0)), (2, .int 0), (0, .ref ox), (1, .int (nI k))]) hx hb dX4_advise_15 hl (by decide) rfl (fun ls hl => ?_)
  refine lv_iload hx hb dX4_advise_17 (lv_at hl 0 rfl) ?_
  refine lv_iconst (v := 3) hx hb dX4_advise_19 (by decide) ?_
  refine lv_icmp_ge (tgt := 50) hx hb dX4_advise_20 (by decide) (fun q => absurd q (by decide)) (fun _ => ?_)
  refine lv_aload_n hx hb dX4_advise_23 rfl (lv_at hl 3 rfl) ?_
  refine lv_iload_n hx hb dX4_advise_24 rfl (lv_at hl 4 rfl) ?_
  refine lv_iload hx hb dX4_advise_25 (lv_at hl 0 rfl) ?_
  refine goI ([]) ([]) hP hD hS hA (rnV (rest := []) (c_would sa tb D cA cL l ox a dy co ti ro u n B ch v nb G w T a2 u_10.1 u_10.2.1 u_10.2.2.1 u_10.2.2.2.1 u2 n u_10.2.2.2.2.1 u_10.2.2.2.2.2.1 v2 nb u_10.2.2.2.2.2.2.1 w2 u_10.2.2.2.2.2.2.2 k 1 (show k < nb from by first | omega | assumption | decide) (show 1 < 3 from by first | omega | assumption | decide) (show n ≤ 8 from by first | omega | assumption | decide) (show nb ≤ 3 from by first | omega | assumption | decide) (show ∃ p, p < 31 ∧ G 0 k = nI p from by first | omega | assumption | decide)) ([]) ([]) hP hD hS hA hE ⟨hx, hb, hml, hown, hts⟩ (cwV 2 hts gX4_advise_X4_would rfl rfl rfl (by decide +kernel) ⟨(Nat.le_of_ble_eq_true rfl), (Nat.le_of_ble_eq_true rfl)⟩) 4 0 rfl rfl rfl rfl hl.1 rfl (Nat.le_of_ble_eq_true rfl) dX4_advise_27 ⟨(Nat.le_of_ble_eq_true rfl), (Nat.le_of_ble_eq_true rfl)⟩) (fun _ => rfl) (fun r_27 u_27 H locs hw_27 hP hD hS => ?_)
  have hP : va_P D vwCl (wX cA ox a dy co ti ro u n B ch v nb G w T a2 u_27.1 u_27.2.1 u_27.2.2.1 u_27.2.2.2.1 u2 n u_27.2.2.2.2.1 u_27.2.2.2.2.2.1 v2 nb u_27.2.2.2.2.2.2.1 w2 u_27.2.2.2.2.2.2.2) H := hP
  have hD : va_D A (wX cA ox a dy co ti ro u n B ch v nb G w T a2 u_27.1 u_27.2.1 u_27.2.2.1 u_27.2.2.2.1 u2 n u_27.2.2.2.2.1 u_27.2.2.2.2.2.1 v2 nb u_27.2.2.2.2.2.2.1 w2 u_27.2.2.2.2.2.2.2) := hD
  obtain rfl : r_27 = wouldV G T k 1 := hw_27
  refine lv_istore (lv' := [(5, .int (wouldV G T k 1)), (4, .int 1), (3, .int (wouldV G T k 0)), (2, .int 0), (0, .ref ox), (1, .int (nI k))]) hx hb dX4_advise_30 hl (by decide) rfl (fun ls hl => ?_)
  refine lv_iload hx hb dX4_advise_32 (lv_at hl 0 rfl) ?_
  refine lv_iload_n hx hb dX4_advise_34 rfl (lv_at hl 2 rfl) ?_
  refine lv_icmp_le (tgt := 44) hx hb dX4_advise_35 (by decide) (fun c_35 => ?_) (fun c_35 => ?_)
  · refine lv_iinc (v := 2) (lv' := [(4, .int 2), (5, .int (wouldV G T k 1)), (3, .int (wouldV G T k 0)), (2, .int 0), (0, .ref ox), (1, .int (nI k))]) (k := 1) hx hb dX4_advise_44 hl rfl (by decide) (by decide) rfl (fun ls hl => ?_)
    refine lv_goto (tgt := 17) hx hb dX4_advise_47 (by decide) ?_
    refine lv_iload hx hb dX4_advise_17 (lv_at hl 0 rfl) ?_
    refine lv_iconst (v := 3) hx hb dX4_advise_19 (by decide) ?_
    refine lv_icmp_ge (tgt := 50) hx hb dX4_advise_20 (by decide) (fun q => absurd q (by decide)) (fun _ => ?_)
    refine lv_aload_n hx hb dX4_advise_23 rfl (lv_at hl 4 rfl) ?_
    refine lv_iload_n hx hb dX4_advise_24 rfl (lv_at hl 5 rfl) ?_
    refine lv_iload hx hb dX4_advise_25 (lv_at hl 0 rfl) ?_
    refine goI ([]) ([]) hP hD hS hA (rnV (rest := []) (c_would sa tb D cA cL l ox a dy co ti ro u n B ch v nb G w T a2 u_27.1 u_27.2.1 u_27.2.2.1 u_27.2.2.2.1 u2 n u_27.2.2.2.2.1 u_27.2.2.2.2.2.1 v2 nb u_27.2.2.2.2.2.2.1 w2 u_27.2.2.2.2.2.2.2 k 2 (show k < nb from by first | omega | assumption | decide) (show 2 < 3 from by first | omega | assumption | decide) (show n ≤ 8 from by first | omega | assumption | decide) (show nb ≤ 3 from by first | omega | assumption | decide) (show ∃ p, p < 31 ∧ G 0 k = nI p from by first | omega | assumption | decide)) ([]) ([]) hP hD hS hA hE ⟨hx, hb, hml, hown, hts⟩ (cwV 2 hts gX4_advise_X4_would rfl rfl rfl (by decide +kernel) ⟨(Nat.le_of_ble_eq_true rfl), (Nat.le_of_ble_eq_true rfl)⟩) 4 0 rfl rfl rfl rfl hl.1 rfl (Nat.le_of_ble_eq_true rfl) dX4_advise_27 ⟨(Nat.le_of_ble_eq_true rfl), (Nat.le_of_ble_eq_true rfl)⟩) (fun _ => rfl) (fun r_27 u_27 H locs hw_27 hP hD hS => ?_)
    have hP : va_P D vwCl (wX cA ox a dy co ti ro u n B ch v nb G w T a2 u_27.1 u_27.2.1 u_27.2.2.1 u_27.2.2.2.1 u2 n u_27.2.2.2.2.1 u_27.2.2.2.2.2.1 v2 nb u_27.2.2.2.2.2.2.1 w2 u_27.2.2.2.2.2.2.2) H := hP
    have hD : va_D A (wX cA ox a dy co ti ro u n B ch v nb G w T a2 u_27.1 u_27.2.1 u_27.2.2.1 u_27.2.2.2.1 u2 n u_27.2.2.2.2.1 u_27.2.2.2.2.2.1 v2 nb u_27.2.2.2.2.2.2.1 w2 u_27.2.2.2.2.2.2.2) := hD
    obtain rfl : r_27 = wouldV G T k 2 := hw_27
    refine lv_istore (lv' := [(5, .int (wouldV G T k 2)), (4, .int 2), (3, .int (wouldV G T k 0)), (2, .int 0), (0, .ref ox), (1, .int (nI k))]) hx hb dX4_advise_30 hl (by decide) rfl (fun ls hl => ?_)
    refine lv_iload hx hb dX4_advise_32 (lv_at hl 0 rfl) ?_
    refine lv_iload_n hx hb dX4_advise_34 rfl (lv_at hl 2 rfl) ?_
    refine lv_icmp_le (tgt := 44) hx hb dX4_advise_35 (by decide) (fun c_35_2 => ?_) (fun c_35_2 => ?_)
    · refine lv_iinc (v := 3) (lv' := [(4, .int 3), (5, .int (wouldV G T k 2)), (3, .int (wouldV G T k 0)), (2, .int 0), (0, .ref ox), (1, .int (nI k))]) (k := 1) hx hb dX4_advise_44 hl rfl (by decide) (by decide) rfl (fun ls hl => ?_)
      refine lv_goto (tgt := 17) hx hb dX4_advise_47 (by decide) ?_
      refine lv_iload hx hb dX4_advise_17 (lv_at hl 0 rfl) ?_
      refine lv_iconst (v := 3) hx hb dX4_advise_19 (by decide) ?_
      refine lv_icmp_ge (tgt := 50) hx hb dX4_advise_20 (by decide) (fun _ => ?_) (fun q => absurd (by decide) q)
      refine lv_iload_n hx hb dX4_advise_50 rfl (lv_at hl 3 rfl) ?_
      exact enI (u_27.1, u_27.2.1, u_27.2.2.1, u_27.2.2.2.1, u_27.2.2.2.2.1, u_27.2.2.2.2.2.1, u_27.2.2.2.2.2.2.1, u_27.2.2.2.2.2.2.2) hx hb hr hlocks hS hP (by unfold advF; first | exact ((if_pos c_35).trans (if_pos c_35_2)).symm | exact ((if_pos c_35).trans (if_neg c_35_2)).symm | exact ((if_neg c_35).trans (if_pos c_35_2)).symm | exact ((if_neg c_35).trans (if_neg c_35_2)).symm) dX4_advise_51
    · refine lv_iload hx hb dX4_advise_38 (lv_at hl 0 rfl) ?_
      refine lv_istore_n (lv' := [(3, .int (wouldV G T k 2)), (5, .int (wouldV G T k 2)), (4, .int 2), (2, .int 0), (0, .ref ox), (1, .int (nI k))]) hx hb dX4_advise_40 rfl hl (by decide) rfl (fun ls hl => ?_)
      refine lv_iload hx hb dX4_advise_41 (lv_at hl 2 rfl) ?_
      refine lv_istore_n (lv' := [(2, .int 2), (3, .int (wouldV G T k 2)), (5, .int (wouldV G T k 2)), (4, .int 2), (0, .ref ox), (1, .int (nI k))]) hx hb dX4_advise_43 rfl hl (by decide) rfl (fun ls hl => ?_)
      refine lv_iinc (v := 3) (lv' := [(4, .int 3), (2, .int 2), (3, .int (wouldV G T k 2)), (5, .int (wouldV G T k 2)), (0, .ref ox), (1, .int (nI k))]) (k := 3) hx hb dX4_advise_44 hl rfl (by decide) (by decide) rfl (fun ls hl => ?_)
      refine lv_goto (tgt := 17) hx hb dX4_advise_47 (by decide) ?_
      refine lv_iload hx hb dX4_advise_17 (lv_at hl 0 rfl) ?_
      refine lv_iconst (v := 3) hx hb dX4_advise_19 (by decide) ?_
      refine lv_icmp_ge (tgt := 50) hx hb dX4_advise_20 (by decide) (fun _ => ?_) (fun q => absurd (by decide) q)
      refine lv_iload_n hx hb dX4_advise_50 rfl (lv_at hl 1 rfl) ?_
      exact enI (u_27.1, u_27.2.1, u_27.2.2.1, u_27.2.2.2.1, u_27.2.2.2.2.1, u_27.2.2.2.2.2.1, u_27.2.2.2.2.2.2.1, u_27.2.2.2.2.2.2.2) hx hb hr hlocks hS hP (by unfold advF; first | exact ((if_pos c_35).trans (if_pos c_35_2)).symm | exact ((if_pos c_35).trans (if_neg c_35_2)).symm | exact ((if_neg c_35).trans (if_pos c_35_2)).symm | exact ((if_neg c_35).trans (if_neg c_35_2)).symm) dX4_advise_51
  · refine lv_iload hx hb dX4_advise_38 (lv_at hl 0 rfl) ?_
    refine lv_istore_n (lv' := [(3, .int (wouldV G T k 1)), (5, .int (wouldV G T k 1)), (4, .int 1), (2, .int 0), (0, .ref ox), (1, .int (nI k))]) hx hb dX4_advise_40 rfl hl (by decide) rfl (fun ls hl => ?_)
    refine lv_iload hx hb dX4_advise_41 (lv_at hl 2 rfl) ?_
    refine lv_istore_n (lv' := [(2, .int 1), (3, .int (wouldV G T k 1)), (5, .int (wouldV G T k 1)), (4, .int 1), (0, .ref ox), (1, .int (nI k))]) hx hb dX4_advise_43 rfl hl (by decide) rfl (fun ls hl => ?_)
    refine lv_iinc (v := 2) (lv' := [(4, .int 2), (2, .int 1), (3, .int (wouldV G T k 1)), (5, .int (wouldV G T k 1)), (0, .ref ox), (1, .int (nI k))]) (k := 3) hx hb dX4_advise_44 hl rfl (by decide) (by decide) rfl (fun ls hl => ?_)
    refine lv_goto (tgt := 17) hx hb dX4_advise_47 (by decide) ?_
    refine lv_iload hx hb dX4_advise_17 (lv_at hl 0 rfl) ?_
    refine lv_iconst (v := 3) hx hb dX4_advise_19 (by decide) ?_
    refine lv_icmp_ge (tgt := 50) hx hb dX4_advise_20 (by decide) (fun q => absurd q (by decide)) (fun _ => ?_)
    refine lv_aload_n hx hb dX4_advise_23 rfl (lv_at hl 4 rfl) ?_
    refine lv_iload_n hx hb dX4_advise_24 rfl (lv_at hl 5 rfl) ?_
    refine lv_iload hx hb dX4_advise_25 (lv_at hl 0 rfl) ?_
    refine goI ([]) ([]) hP hD hS hA (rnV (rest := []) (c_would sa tb D cA cL l ox a dy co ti ro u n B ch v nb G w T a2 u_27.1 u_27.2.1 u_27.2.2.1 u_27.2.2.2.1 u2 n u_27.2.2.2.2.1 u_27.2.2.2.2.2.1 v2 nb u_27.2.2.2.2.2.2.1 w2 u_27.2.2.2.2.2.2.2 k 2 (show k < nb from by first | omega | assumption | decide) (show 2 < 3 from by first | omega | assumption | decide) (show n ≤ 8 from by first | omega | assumption | decide) (show nb ≤ 3 from by first | omega | assumption | decide) (show ∃ p, p < 31 ∧ G 0 k = nI p from by first | omega | assumption | decide)) ([]) ([]) hP hD hS hA hE ⟨hx, hb, hml, hown, hts⟩ (cwV 2 hts gX4_advise_X4_would rfl rfl rfl (by decide +kernel) ⟨(Nat.le_of_ble_eq_true rfl), (Nat.le_of_ble_eq_true rfl)⟩) 4 0 rfl rfl rfl rfl hl.1 rfl (Nat.le_of_ble_eq_true rfl) dX4_advise_27 ⟨(Nat.le_of_ble_eq_true rfl), (Nat.le_of_ble_eq_true rfl)⟩) (fun _ => rfl) (fun r_27 u_27 H locs hw_27 hP hD hS => ?_)
    have hP : va_P D vwCl (wX cA ox a dy co ti ro u n B ch v nb G w T a2 u_27.1 u_27.2.1 u_27.2.2.1 u_27.2.2.2.1 u2 n u_27.2.2.2.2.1 u_27.2.2.2.2.2.1 v2 nb u_27.2.2.2.2.2.2.1 w2 u_27.2.2.2.2.2.2.2) H := hP
    have hD : va_D A (wX cA ox a dy co ti ro u n B ch v nb G w T a2 u_27.1 u_27.2.1 u_27.2.2.1 u_27.2.2.2.1 u2 n u_27.2.2.2.2.1 u_27.2.2.2.2.2.1 v2 nb u_27.2.2.2.2.2.2.1 w2 u_27.2.2.2.2.2.2.2) := hD
    obtain rfl : r_27 = wouldV G T k 2 := hw_27
    refine lv_istore (lv' := [(5, .int (wouldV G T k 2)), (4, .int 2), (2, .int 1), (3, .int (wouldV G T k 1)), (0, .ref ox), (1, .int (nI k))]) hx hb dX4_advise_30 hl (by decide) rfl (fun ls hl => ?_)
    refine lv_iload hx hb dX4_advise_32 (lv_at hl 0 rfl) ?_
    refine lv_iload_n hx hb dX4_advise_34 rfl (lv_at hl 3 rfl) ?_
    refine lv_icmp_le (tgt := 44) hx hb dX4_advise_35 (by decide) (fun c_35_2 => ?_) (fun c_35_2 => ?_)
    · refine lv_iinc (v := 3) (lv' := [(4, .int 3), (5, .int (wouldV G T k 2)), (2, .int 1), (3, .int (wouldV G T k 1)), (0, .ref ox), (1, .int (nI k))]) (k := 1) hx hb dX4_advise_44 hl rfl (by decide) (by decide) rfl (fun ls hl => ?_)
      refine lv_goto (tgt := 17) hx hb dX4_advise_47 (by decide) ?_
      refine lv_iload hx hb dX4_advise_17 (lv_at hl 0 rfl) ?_
      refine lv_iconst (v := 3) hx hb dX4_advise_19 (by decide) ?_
      refine lv_icmp_ge (tgt := 50) hx hb dX4_advise_20 (by decide) (fun _ => ?_) (fun q => absurd (by decide) q)
      refine lv_iload_n hx hb dX4_advise_50 rfl (lv_at hl 2 rfl) ?_
      exact enI (u_27.1, u_27.2.1, u_27.2.2.1, u_27.2.2.2.1, u_27.2.2.2.2.1, u_27.2.2.2.2.2.1, u_27.2.2.2.2.2.2.1, u_27.2.2.2.2.2.2.2) hx hb hr hlocks hS hP (by unfold advF; first | exact ((if_pos c_35).trans (if_pos c_35_2)).symm | exact ((if_pos c_35).trans (if_neg c_35_2)).symm | exact ((if_neg c_35).trans (if_pos c_35_2)).symm | exact ((if_neg c_35).trans (if_neg c_35_2)).symm) dX4_advise_51
    · refine lv_iload hx hb dX4_advise_38 (lv_at hl 0 rfl) ?_
      refine lv_istore_n (lv' := [(3, .int (wouldV G T k 2)), (5, .int (wouldV G T k 2)), (4, .int 2), (2, .int 1), (0, .ref ox), (1, .int (nI k))]) hx hb dX4_advise_40 rfl hl (by decide) rfl (fun ls hl => ?_)
      refine lv_iload hx hb dX4_advise_41 (lv_at hl 2 rfl) ?_
      refine lv_istore_n (lv' := [(2, .int 2), (3, .int (wouldV G T k 2)), (5, .int (wouldV G T k 2)), (4, .int 2), (0, .ref ox), (1, .int (nI k))]) hx hb dX4_advise_43 rfl hl (by decide) rfl (fun ls hl => ?_)
      refine lv_iinc (v := 3) (lv' := [(4, .int 3), (2, .int 2), (3, .int (wouldV G T k 2)), (5, .int (wouldV G T k 2)), (0, .ref ox), (1, .int (nI k))]) (k := 3) hx hb dX4_advise_44 hl rfl (by decide) (by decide) rfl (fun ls hl => ?_)
      refine lv_goto (tgt := 17) hx hb dX4_advise_47 (by decide) ?_
      refine lv_iload hx hb dX4_advise_17 (lv_at hl 0 rfl) ?_
      refine lv_iconst (v := 3) hx hb dX4_advise_19 (by decide) ?_
      refine lv_icmp_ge (tgt := 50) hx hb dX4_advise_20 (by decide) (fun _ => ?_) (fun q => absurd (by decide) q)
      refine lv_iload_n hx hb dX4_advise_50 rfl (lv_at hl 1 rfl) ?_
      exact enI (u_27.1, u_27.2.1, u_27.2.2.1, u_27.2.2.2.1, u_27.2.2.2.2.1, u_27.2.2.2.2.2.1, u_27.2.2.2.2.2.2.1, u_27.2.2.2.2.2.2.2) hx hb hr hlocks hS hP (by unfold advF; first | exact ((if_pos c_35).trans (if_pos c_35_2)).symm | exact ((if_pos c_35).trans (if_neg c_35_2)).symm | exact ((if_neg c_35).trans (if_pos c_35_2)).symm | exact ((if_neg c_35).trans (if_neg c_35_2)).symm) dX4_advise_51
set_option maxRecDepth 100000 in
set_option maxHeartbeats 4000000 in
theorem c_count (sa : Nat × Nat × (Nat → Int32)) (tb : Nat → Nat) (D : va_G) (cA cL : ClassId) (l : Launch) (ox : Nat) (a : Nat → Nat) (dy : Int32) (co : Int32) (ti : Int32) (ro : Int32) (u : Nat → Nat) (n : Nat) (B : Nat → Nat → Int32) (ch : Nat → Int32) (v : Nat → Nat) (nb : Nat) (G : Nat → Nat → Int32) (w : Nat) (T : Nat → Int32) (a2 : Nat → Nat) (dy2 : Int32) (co2 : Int32) (ti2 : Int32) (ro2 : Int32) (u2 : Nat → Nat) (n2 : Nat) (B2 : Nat → Nat → Int32) (ch2 : Nat → Int32) (v2 : Nat → Nat) (nb2 : Nat) (G2 : Nat → Nat → Int32) (w2 : Nat) (T2 : Nat → Int32) (qw : Nat) (hn : n ≤ 8) (hnb : nb ≤ 3) (hw : qw < 11) : KM sa tb D cA cL l yX4_count wsX4_count ({ frames := 3, cells := 0, slots := 0, locals := 66 }) [.ref ox, .int (nI qw)] (wX cA ox a dy co ti ro u n B ch v nb G w T a2 dy2 co2 ti2 ro2 u2 n2 B2 ch2 v2 nb2 G2 w2 T2) (qI D (fun (r : Int32) (_ : Unit) => r = tellW dy co ti ro n B nb G T qw) (fun _ => wX cA ox a dy co ti ro u n B ch v nb G w T a2 dy2 co2 ti2 ro2 u2 n2 B2 ch2 v2 nb2 G2 w2 T2)) := by
  refine KM.of (cc := cX4_count) (maxL := 2) (ret := some .int) (by decide) rfl (Nat.le_of_ble_eq_true rfl) ?_
  intro pg e s m args below meth c A hx hb hr hml hlocks hts hown hS hA hE hP hD ls hl
  have hown : s.vm.findClass RX4 = some m.cls := hown
  have hl : lv_has ls 2 [(0, .ref ox), (1, .int (nI qw))] := hl
  have hwX4 : ∀ w ∈ wsX40, w ∈ wsX4_count := (fun _ h => List.mem_cons_of_mem _ (List.mem_append_left _ (List.mem_append_left _ (List.mem_append_left _ (List.mem_append_left _ (List.mem_append_left _ (List.mem_append_right _ h)))))))
  refine lv_iload_n hx hb dX4_count_0 rfl (lv_at hl 1 rfl) ?_
  refine lv_bipush (v := 11) hx hb dX4_count_1 (by decide) ?_
  refine goV ([]) (wX cA ox a dy co ti ro u n B ch v nb G w T a2 dy2 co2 ti2 ro2 u2 n2 B2 ch2 v2 nb2 G2 w2 T2) hP hD hS hA (rnS (rest := []) (c_needFigure sa tb D cA cL l qw 11 (show qw < 11 from by first | omega | assumption | decide) (show 11 < 100 from by first | omega | assumption | decide)) ([]) (wX cA ox a dy co ti ro u n B ch v nb G w T a2 dy2 co2 ti2 ro2 u2 n2 B2 ch2 v2 nb2 G2 w2 T2) hP hD hS hA hE ⟨hx, hb, hml, hown, hts⟩ (va_cwS 2 hts gX4_count_X4_needFigure rfl rfl rfl (by decide +kernel) ⟨(Nat.le_of_ble_eq_true rfl), (Nat.le_of_ble_eq_true rfl)⟩) rfl hl.1 rfl (Nat.le_of_ble_eq_true rfl) dX4_count_3 ⟨(Nat.le_of_ble_eq_true rfl), (Nat.le_of_ble_eq_true rfl)⟩) (fun _ => rfl) (fun u_3 H locs hw_3 hP hD hS => ?_)
  have hP : va_P D vwCl (wX cA ox a dy co ti ro u n B ch v nb G w T a2 dy2 co2 ti2 ro2 u2 n2 B2 ch2 v2 nb2 G2 w2 T2) H := hP
  have hD : va_D A (wX cA ox a dy co ti ro u n B ch v nb G w T a2 dy2 co2 ti2 ro2 u2 n2 B2 ch2 v2 nb2 G2 w2 T2) := hD
  refine lv_aload_n hx hb dX4_count_6 rfl (lv_at hl 0 rfl) ?_
  refine va_get (D := D) (ci := 4) (v := .ref (a 0)) (C := RX4) (T := TX4) (N := 2) hx hb hts hwX4 hown hE.K hP 0 rfl rfl 0 (by decide) (hts (.fieldLink RX4 10 "SedgeBarges" "now" "LSedgeBarges$Waterway;") (List.mem_of_getElem? (i := 1) rfl)) (fun _ h9 => h9) rfl dX4_count_7 ?_
  refine lv_iload_n hx hb dX4_count_10 rfl (lv_at hl 1 rfl) ?_
  refine goI ([oX ox a a2]) (wWay cA a2 dy2 co2 ti2 ro2 u2 n2 B2 ch2 v2 nb2 G2 w2 T2) hP hD hS hA (rnV (rest := []) (c_Way_tell sa tb D cA cL l a dy co ti ro u n B ch v nb G w T qw (show n ≤ 8 from by first | omega | assumption | decide) (show nb ≤ 3 from by first | omega | assumption | decide) (show qw < 11 from by first | omega | assumption | decide)) ([oX ox a a2]) (wWay cA a2 dy2 co2 ti2 ro2 u2 n2 B2 ch2 v2 nb2 G2 w2 T2) hP hD hS hA hE ⟨hx, hb, hml, hown, hts⟩ (cwV 1 hts gX4_count_X3_tell rfl rfl rfl (by decide +kernel) ⟨(Nat.le_of_ble_eq_true rfl), (Nat.le_of_ble_eq_true rfl)⟩) 3 0 rfl rfl rfl rfl hl.1 rfl (Nat.le_of_ble_eq_true rfl) dX4_count_11 ⟨(Nat.le_of_ble_eq_true rfl), (Nat.le_of_ble_eq_true rfl)⟩) (fun _ => rfl) (fun r_11 u_11 H locs hw_11 hP hD hS => ?_)
  have hP : va_P D vwCl (wX cA ox a dy co ti ro u n B ch v nb G w T a2 dy2 co2 ti2 ro2 u2 n2 B2 ch2 v2 nb2 G2 w2 T2) H := hP
  have hD : va_D A (wX cA ox a dy co ti ro u n B ch v nb G w T a2 dy2 co2 ti2 ro2 u2 n2 B2 ch2 v2 nb2 G2 w2 T2) := hD
  obtain rfl : r_11 = tellW dy co ti ro n B nb G T qw := hw_11
  exact enI () hx hb hr hlocks hS hP (rfl) dX4_count_14
set_option maxRecDepth 100000 in
set_option maxHeartbeats 4000000 in
theorem c_pass (sa : Nat × Nat × (Nat → Int32)) (tb : Nat → Nat) (D : va_G) (cA cL : ClassId) (l : Launch) (ox : Nat) (a : Nat → Nat) (dy : Int32) (co : Int32) (ti : Int32) (ro : Int32) (u : Nat → Nat) (n : Nat) (B : Nat → Nat → Int32) (ch : Nat → Int32) (v : Nat → Nat) (nb : Nat) (G : Nat → Nat → Int32) (w : Nat) (T : Nat → Int32) (a2 : Nat → Nat) (dy2 : Int32) (co2 : Int32) (ti2 : Int32) (ro2 : Int32) (u2 : Nat → Nat) (n2 : Nat) (B2 : Nat → Nat → Int32) (ch2 : Nat → Int32) (v2 : Nat → Nat) (nb2 : Nat) (G2 : Nat → Nat → Int32) (w2 : Nat) (T2 : Nat → Int32) (d : Nat) (hn : n ≤ 8) (hnb : nb ≤ 3) (h0 : 1 ≤ d) (h1 : d ≤ 200) : KM sa tb D cA cL l yX4_pass wsX4_pass ({ frames := 5, cells := 0, slots := 0, locals := 110 }) [.ref ox, .int (nI d)] (wX cA ox a dy co ti ro u n B ch v nb G w T a2 dy2 co2 ti2 ro2 u2 n2 B2 ch2 v2 nb2 G2 w2 T2) (qI D (fun (r : Int32) (cx : Nat → Int32) => r = (daysS n nb d (dy, ro, B, G, T)).2.1 - ro) (fun cx => wX cA ox a ((daysS n nb d (dy, ro, B, G, T)).1) co ti ((daysS n nb d (dy, ro, B, G, T)).2.1) u n ((daysS n nb d (dy, ro, B, G, T)).2.2.1) cx v nb ((daysS n nb d (dy, ro, B, G, T)).2.2.2.1) w ((daysS n nb d (dy, ro, B, G, T)).2.2.2.2) a2 dy2 co2 ti2 ro2 u2 n2 B2 ch2 v2 nb2 G2 w2 T2)) := by
  refine KM.of (cc := cX4_pass) (maxL := 2) (ret := some .int) (by decide) rfl (Nat.le_of_ble_eq_true rfl) ?_
  intro pg e s m args below meth c A hx hb hr hml hlocks hts hown hS hA hE hP hD ls hl
  have hown : s.vm.findClass RX4 = some m.cls := hown
  have hl : lv_has ls 2 [(0, .ref ox), (1, .int (nI d))] := hl
  have hwX4 : ∀ w ∈ wsX40, w ∈ wsX4_pass := (fun _ h => List.mem_cons_of_mem _ (List.mem_append_left _ (List.mem_append_left _ (List.mem_append_left _ (List.mem_append_left _ (List.mem_append_left _ (List.mem_append_right _ h)))))))
  refine lv_iload_n hx hb dX4_pass_0 rfl (lv_at hl 1 rfl) ?_
  refine goV ([]) (wX cA ox a dy co ti ro u n B ch v nb G w T a2 dy2 co2 ti2 ro2 u2 n2 B2 ch2 v2 nb2 G2 w2 T2) hP hD hS hA (rnS (rest := []) (c_needDays sa tb D cA cL l d (show 1 ≤ d from by first | omega | assumption | decide) (show d ≤ 200 from by first | omega | assumption | decide)) ([]) (wX cA ox a dy co ti ro u n B ch v nb G w T a2 dy2 co2 ti2 ro2 u2 n2 B2 ch2 v2 nb2 G2 w2 T2) hP hD hS hA hE ⟨hx, hb, hml, hown, hts⟩ (va_cwS 1 hts gX4_pass_X4_needDays rfl rfl rfl (by decide +kernel) ⟨(Nat.le_of_ble_eq_true rfl), (Nat.le_of_ble_eq_true rfl)⟩) rfl hl.1 rfl (Nat.le_of_ble_eq_true rfl) dX4_pass_1 ⟨(Nat.le_of_ble_eq_true rfl), (Nat.le_of_ble_eq_true rfl)⟩) (fun _ => rfl) (fun u_1 H locs hw_1 hP hD hS => ?_)
  have hP : va_P D vwCl (wX cA ox a dy co ti ro u n B ch v nb G w T a2 dy2 co2 ti2 ro2 u2 n2 B2 ch2 v2 nb2 G2 w2 T2) H := hP
  have hD : va_D A (wX cA ox a dy co ti ro u n B ch v nb G w T a2 dy2 co2 ti2 ro2 u2 n2 B2 ch2 v2 nb2 G2 w2 T2) := hD
  refine lv_aload_n hx hb dX4_pass_4 rfl (lv_at hl 0 rfl) ?_
  refine va_get (D := D) (ci := 4) (v := .ref (a 0)) (C := RX4) (T := TX4) (N := 2) hx hb hts hwX4 hown hE.K hP 0 rfl rfl 0 (by decide) (hts (.fieldLink RX4 10 "SedgeBarges" "now" "LSedgeBarges$Waterway;") (List.mem_of_getElem? (i := 1) rfl)) (fun _ h9 => h9) rfl dX4_pass_5 ?_
  refine lv_iload_n hx hb dX4_pass_8 rfl (lv_at hl 1 rfl) ?_
  refine goI ([oX ox a a2]) (wWay cA a2 dy2 co2 ti2 ro2 u2 n2 B2 ch2 v2 nb2 G2 w2 T2) hP hD hS hA (rnV (rest := []) (c_Way_days sa tb D cA cL l a dy co ti ro u n B ch v nb G w T d (show n ≤ 8 from by first | omega | assumption | decide) (show nb ≤ 3 from by first | omega | assumption | decide) (show d < 1000 from by first | omega | assumption | decide)) ([oX ox a a2]) (wWay cA a2 dy2 co2 ti2 ro2 u2 n2 B2 ch2 v2 nb2 G2 w2 T2) hP hD hS hA hE ⟨hx, hb, hml, hown, hts⟩ (cwV 1 hts gX4_pass_X3_passDays rfl rfl rfl (by decide +kernel) ⟨(Nat.le_of_ble_eq_true rfl), (Nat.le_of_ble_eq_true rfl)⟩) 3 0 rfl rfl rfl rfl hl.1 rfl (Nat.le_of_ble_eq_true rfl) dX4_pass_9 ⟨(Nat.le_of_ble_eq_true rfl), (Nat.le_of_ble_eq_true rfl)⟩) (fun _ => rfl) (fun r_9 u_9 H locs hw_9 hP hD hS => ?_)
  have hP : va_P D vwCl (wX cA ox a ((daysS n nb d (dy, ro, B, G, T)).1) co ti ((daysS n nb d (dy, ro, B, G, T)).2.1) u n ((daysS n nb d (dy, ro, B, G, T)).2.2.1) u_9 v nb ((daysS n nb d (dy, ro, B, G, T)).2.2.2.1) w ((daysS n nb d (dy, ro, B, G, T)).2.2.2.2) a2 dy2 co2 ti2 ro2 u2 n2 B2 ch2 v2 nb2 G2 w2 T2) H := hP
  have hD : va_D A (wX cA ox a ((daysS n nb d (dy, ro, B, G, T)).1) co ti ((daysS n nb d (dy, ro, B, G, T)).2.1) u n ((daysS n nb d (dy, ro, B, G, T)).2.2.1) u_9 v nb ((daysS n nb d (dy, ro, B, G, T)).2.2.2.1) w ((daysS n nb d (dy, ro, B, G, T)).2.2.2.2) a2 dy2 co2 ti2 ro2 u2 n2 B2 ch2 v2 nb2 G2 w2 T2) := hD
  obtain rfl : r_9 = (daysS n nb d (dy, ro, B, G, T)).2.1 - ro := hw_9
  exact enI u_9 hx hb hr hlocks hS hP (rfl) dX4_pass_12
set_option maxRecDepth 100000 in
set_option maxHeartbeats 4000000 in
theorem c_foresee (sa : Nat × Nat × (Nat → Int32)) (tb : Nat → Nat) (D : va_G) (cA cL : ClassId) (l : Launch) (ox : Nat) (a : Nat → Nat) (dy : Int32) (co : Int32) (ti : Int32) (ro : Int32) (u : Nat → Nat) (n : Nat) (B : Nat → Nat → Int32) (ch : Nat → Int32) (v : Nat → Nat) (nb : Nat) (G : Nat → Nat → Int32) (w : Nat) (T : Nat → Int32) (a2 : Nat → Nat) (dy2 : Int32) (co2 : Int32) (ti2 : Int32) (ro2 : Int32) (u2 : Nat → Nat) (n2 : Nat) (B2 : Nat → Nat → Int32) (ch2 : Nat → Int32) (v2 : Nat → Nat) (nb2 : Nat) (G2 : Nat → Nat → Int32) (w2 : Nat) (T2 : Nat → Int32) (d : Nat) (qw : Nat) (hn : n ≤ 8) (hnb : nb ≤ 3) (h0 : 1 ≤ d) (h1 : d ≤ 200) (hw : qw = 4 ∨ qw = 5 ∨ qw = 9 ∨ qw = 10) : KM sa tb D cA cL l yX4_foresee wsX4_foresee ({ frames := 5, cells := 0, slots := 0, locals := 110 }) [.ref ox, .int (nI d), .int (nI qw)] (wX cA ox a dy co ti ro u n B ch v nb G w T a2 dy2 co2 ti2 ro2 u2 n2 B2 ch2 v2 nb2 G2 w2 T2) (qI D (fun (r : Int32) (uu : Int32 × Int32 × Int32 × Int32 × (Nat → Nat → Int32) × (Nat → Int32) × (Nat → Nat → Int32) × (Nat → Int32)) => r = tellW (daysS n nb d (dy, ro, cpB n B B2, cpG nb G G2, cpT T T2)).1 co ti (daysS n nb d (dy, ro, cpB n B B2, cpG nb G G2, cpT T T2)).2.1 n (daysS n nb d (dy, ro, cpB n B B2, cpG nb G G2, cpT T T2)).2.2.1 nb (daysS n nb d (dy, ro, cpB n B B2, cpG nb G G2, cpT T T2)).2.2.2.1 (daysS n nb d (dy, ro, cpB n B B2, cpG nb G G2, cpT T T2)).2.2.2.2 qw) (fun uu => wX cA ox a dy co ti ro u n B ch v nb G w T a2 uu.1 uu.2.1 uu.2.2.1 uu.2.2.2.1 u2 n uu.2.2.2.2.1 uu.2.2.2.2.2.1 v2 nb uu.2.2.2.2.2.2.1 w2 uu.2.2.2.2.2.2.2)) := by
  refine KM.of (cc := cX4_foresee) (maxL := 3) (ret := some .int) (by decide) rfl (Nat.le_of_ble_eq_true rfl) ?_
  intro pg e s m args below meth c A hx hb hr hml hlocks hts hown hS hA hE hP hD ls hl
  have hown : s.vm.findClass RX4 = some m.cls := hown
  have hl : lv_has ls 3 [(0, .ref ox), (1, .int (nI d)), (2, .int (nI qw))] := hl
  have hwX4 : ∀ w ∈ wsX40, w ∈ wsX4_foresee := (fun _ h => List.mem_cons_of_mem _ (List.mem_append_left _ (List.mem_append_left _ (List.mem_append_left _ (List.mem_append_left _ (List.mem_append_left _ (List.mem_append_left _ (List.mem_append_right _ h))))))))
  rcases hw with rfl | rfl | rfl | rfl
  · have hl : lv_has ls 3 [(0, .ref ox), (1, .int (nI d)), (2, .int 4)] := hl
    refine lv_iload_n hx hb dX4_foresee_0 rfl (lv_at hl 1 rfl) ?_
    refine goV ([]) (wX cA ox a dy co ti ro u n B ch v nb G w T a2 dy2 co2 ti2 ro2 u2 n2 B2 ch2 v2 nb2 G2 w2 T2) hP hD hS hA (rnS (rest := []) (c_needDays sa tb D cA cL l d (show 1 ≤ d from by first | omega | assumption | decide) (show d ≤ 200 from by first | omega | assumption | decide)) ([]) (wX cA ox a dy co ti ro u n B ch v nb G w T a2 dy2 co2 ti2 ro2 u2 n2 B2 ch2 v2 nb2 G2 w2 T2) hP hD hS hA hE ⟨hx, hb, hml, hown, hts⟩ (va_cwS 1 hts gX4_foresee_X4_needDays rfl rfl rfl (by decide +kernel) ⟨(Nat.le_of_ble_eq_true rfl), (Nat.le_of_ble_eq_true rfl)⟩) rfl hl.1 rfl (Nat.le_of_ble_eq_true rfl) dX4_foresee_1 ⟨(Nat.le_of_ble_eq_true rfl), (Nat.le_of_ble_eq_true rfl)⟩) (fun _ => rfl) (fun u_1 H locs hw_1 hP hD hS => ?_)
    have hP : va_P D vwCl (wX cA ox a dy co ti ro u n B ch v nb G w T a2 dy2 co2 ti2 ro2 u2 n2 B2 ch2 v2 nb2 G2 w2 T2) H := hP
    have hD : va_D A (wX cA ox a dy co ti ro u n B ch v nb G w T a2 dy2 co2 ti2 ro2 u2 n2 B2 ch2 v2 nb2 G2 w2 T2) := hD
    refine lv_iload_n hx hb dX4_foresee_4 rfl (lv_at hl 2 rfl) ?_
    refine lv_iconst (v := 4) hx hb dX4_foresee_5 (by decide) ?_
    refine lv_icmp_eq (tgt := 36) hx hb dX4_foresee_6 (by decide) (fun _ => ?_) (fun q => absurd (by decide) q)
    refine lv_aload_n hx hb dX4_foresee_36 rfl (lv_at hl 0 rfl) ?_
    refine va_get (D := D) (ci := 4) (v := .ref (a2 0)) (C := RX4) (T := TX4) (N := 2) hx hb hts hwX4 hown hE.K hP 0 rfl rfl 1 (by decide) (hts (.fieldLink RX4 16 "SedgeBarges" "ahead" "LSedgeBarges$Waterway;") (List.mem_of_getElem? (i := 3) rfl)) (fun _ h9 => h9) rfl dX4_foresee_37 ?_
    refine lv_aload_n hx hb dX4_foresee_40 rfl (lv_at hl 0 rfl) ?_
    refine va_get (D := D) (ci := 4) (v := .ref (a 0)) (C := RX4) (T := TX4) (N := 2) hx hb hts hwX4 hown hE.K hP 0 rfl rfl 0 (by decide) (hts (.fieldLink RX4 10 "SedgeBarges" "now" "LSedgeBarges$Waterway;") (List.mem_of_getElem? (i := 4) rfl)) (fun _ h9 => h9) rfl dX4_foresee_41 ?_
    have hPq : va_P D vwCl ([] ++ ((wWay cA a2 dy2 co2 ti2 ro2 u2 n2 B2 ch2 v2 nb2 G2 w2 T2 ++ wWay cA a dy co ti ro u n B ch v nb G w T) ++ ([(ox, .inr (4, [.ref (a 0), .ref (a2 0)]))]))) _ := hP.sub [20, 21, 22, 23, 24, 25, 26, 27, 28, 29, 30, 31, 32, 33, 34, 35, 36, 37, 38, 1, 2, 3, 4, 5, 6, 7, 8, 9, 10, 11, 12, 13, 14, 15, 16, 17, 18, 19, 0] rfl
    have hDq : va_D A ([] ++ ((wWay cA a2 dy2 co2 ti2 ro2 u2 n2 B2 ch2 v2 nb2 G2 w2 T2 ++ wWay cA a dy co ti ro u n B ch v nb G w T) ++ ([(ox, .inr (4, [.ref (a 0), .ref (a2 0)]))]))) := hD.sub [20, 21, 22, 23, 24, 25, 26, 27, 28, 29, 30, 31, 32, 33, 34, 35, 36, 37, 38, 1, 2, 3, 4, 5, 6, 7, 8, 9, 10, 11, 12, 13, 14, 15, 16, 17, 18, 19, 0] (by decide) rfl
    refine goV ([]) ([(ox, .inr (4, [.ref (a 0), .ref (a2 0)]))]) hPq hDq hS hA (rnV (rest := []) (c_Way_copyFrom sa tb D cA cL l a2 dy2 co2 ti2 ro2 u2 n2 B2 ch2 v2 nb2 G2 w2 T2 a dy co ti ro u n B ch v nb G w T (show n ≤ 8 from by first | omega | assumption | decide) (show nb ≤ 3 from by first | omega | assumption | decide)) ([]) ([(ox, .inr (4, [.ref (a 0), .ref (a2 0)]))]) hPq hDq hS hA hE ⟨hx, hb, hml, hown, hts⟩ (cwV 1 hts gX4_foresee_X3_copyFrom rfl rfl rfl (by decide +kernel) ⟨(Nat.le_of_ble_eq_true rfl), (Nat.le_of_ble_eq_true rfl)⟩) 3 0 rfl rfl rfl rfl hl.1 rfl (Nat.le_of_ble_eq_true rfl) dX4_foresee_44 ⟨(Nat.le_of_ble_eq_true rfl), (Nat.le_of_ble_eq_true rfl)⟩) (fun _ => rfl) (fun u_44 H locs hw_44 hP hD hS => ?_)
    have hP : va_P D vwCl (wX cA ox a dy co ti ro u n B ch v nb G w T a2 dy co ti ro u2 n (cpB n B B2) ch2 v2 nb (cpG nb G G2) w2 (cpT T T2)) H := hP.sub [38, 19, 20, 21, 22, 23, 24, 25, 26, 27, 28, 29, 30, 31, 32, 33, 34, 35, 36, 37, 0, 1, 2, 3, 4, 5, 6, 7, 8, 9, 10, 11, 12, 13, 14, 15, 16, 17, 18] rfl
    have hD : va_D A (wX cA ox a dy co ti ro u n B ch v nb G w T a2 dy co ti ro u2 n (cpB n B B2) ch2 v2 nb (cpG nb G G2) w2 (cpT T T2)) := hD.sub [38, 19, 20, 21, 22, 23, 24, 25, 26, 27, 28, 29, 30, 31, 32, 33, 34, 35, 36, 37, 0, 1, 2, 3, 4, 5, 6, 7, 8, 9, 10, 11, 12, 13, 14, 15, 16, 17, 18] (by decide) rfl
    refine lv_aload_n hx hb dX4_foresee_47 rfl (lv_at hl 0 rfl) ?_
    refine va_get (D := D) (ci := 4) (v := .ref (a2 0)) (C := RX4) (T := TX4) (N := 2) hx hb hts hwX4 hown hE.K hP 0 rfl rfl 1 (by decide) (hts (.fieldLink RX4 16 "SedgeBarges" "ahead" "LSedgeBarges$Waterway;") (List.mem_of_getElem? (i := 3) rfl)) (fun _ h9 => h9) rfl dX4_foresee_48 ?_
    refine lv_iload_n hx hb dX4_foresee_51 rfl (lv_at hl 1 rfl) ?_
    refine goI ([oX ox a a2] ++ (wWay cA a dy co ti ro u n B ch v nb G w T ++ ([]))) ([]) hP hD hS hA (rnV (rest := []) (c_Way_days sa tb D cA cL l a2 dy co ti ro u2 n (cpB n B B2) ch2 v2 nb (cpG nb G G2) w2 (cpT T T2) d (show n ≤ 8 from by first | omega | assumption | decide) (show nb ≤ 3 from by first | omega | assumption | decide) (show d < 1000 from by first | omega | assumption | decide)) ([oX ox a a2] ++ (wWay cA a dy co ti ro u n B ch v nb G w T ++ ([]))) ([]) hP hD hS hA hE ⟨hx, hb, hml, hown, hts⟩ (cwV 1 hts gX4_foresee_X3_passDays rfl rfl rfl (by decide +kernel) ⟨(Nat.le_of_ble_eq_true rfl), (Nat.le_of_ble_eq_true rfl)⟩) 3 0 rfl rfl rfl rfl hl.1 rfl (Nat.le_of_ble_eq_true rfl) dX4_foresee_52 ⟨(Nat.le_of_ble_eq_true rfl), (Nat.le_of_ble_eq_true rfl)⟩) (fun _ => rfl) (fun r_52 u_52 H locs hw_52 hP hD hS => ?_)
    have hP : va_P D vwCl (wX cA ox a dy co ti ro u n B ch v nb G w T a2 ((daysS n nb d (dy, ro, (cpB n B B2), (cpG nb G G2), (cpT T T2))).1) co ti ((daysS n nb d (dy, ro, (cpB n B B2), (cpG nb G G2), (cpT T T2))).2.1) u2 n ((daysS n nb d (dy, ro, (cpB n B B2), (cpG nb G G2), (cpT T T2))).2.2.1) u_52 v2 nb ((daysS n nb d (dy, ro, (cpB n B B2), (cpG nb G G2), (cpT T T2))).2.2.2.1) w2 ((daysS n nb d (dy, ro, (cpB n B B2), (cpG nb G G2), (cpT T T2))).2.2.2.2)) H := hP
    have hD : va_D A (wX cA ox a dy co ti ro u n B ch v nb G w T a2 ((daysS n nb d (dy, ro, (cpB n B B2), (cpG nb G G2), (cpT T T2))).1) co ti ((daysS n nb d (dy, ro, (cpB n B B2), (cpG nb G G2), (cpT T T2))).2.1) u2 n ((daysS n nb d (dy, ro, (cpB n B B2), (cpG nb G G2), (cpT T T2))).2.2.1) u_52 v2 nb ((daysS n nb d (dy, ro, (cpB n B B2), (cpG nb G G2), (cpT T T2))).2.2.2.1) w2 ((daysS n nb d (dy, ro, (cpB n B B2), (cpG nb G G2), (cpT T T2))).2.2.2.2)) := hD
    obtain rfl : r_52 = (daysS n nb d (dy, ro, (cpB n B B2), (cpG nb G G2), (cpT T T2))).2.1 - ro := hw_52
    refine lv_pop hx hb dX4_foresee_55 rfl ?_
    refine lv_aload_n hx hb dX4_foresee_56 rfl (lv_at hl 0 rfl) ?_
    refine va_get (D := D) (ci := 4) (v := .ref (a2 0)) (C := RX4) (T := TX4) (N := 2) hx hb hts hwX4 hown hE.K hP 0 rfl rfl 1 (by decide) (hts (.fieldLink RX4 16 "SedgeBarges" "ahead" "LSedgeBarges$Waterway;") (List.mem_of_getElem? (i := 3) rfl)) (fun _ h9 => h9) rfl dX4_foresee_57 ?_
    refine lv_iload_n hx hb dX4_foresee_60 rfl (lv_at hl 2 rfl) ?_
    refine goI ([oX ox a a2] ++ (wWay cA a dy co ti ro u n B ch v nb G w T ++ ([]))) ([]) hP hD hS hA (rnV (rest := []) (c_Way_tell sa tb D cA cL l a2 ((daysS n nb d (dy, ro, (cpB n B B2), (cpG nb G G2), (cpT T T2))).1) co ti ((daysS n nb d (dy, ro, (cpB n B B2), (cpG nb G G2), (cpT T T2))).2.1) u2 n ((daysS n nb d (dy, ro, (cpB n B B2), (cpG nb G G2), (cpT T T2))).2.2.1) u_52 v2 nb ((daysS n nb d (dy, ro, (cpB n B B2), (cpG nb G G2), (cpT T T2))).2.2.2.1) w2 ((daysS n nb d (dy, ro, (cpB n B B2), (cpG nb G G2), (cpT T T2))).2.2.2.2) 4 (show n ≤ 8 from by first | omega | assumption | decide) (show nb ≤ 3 from by first | omega | assumption | decide) (show 4 < 11 from by first | omega | assumption | decide)) ([oX ox a a2] ++ (wWay cA a dy co ti ro u n B ch v nb G w T ++ ([]))) ([]) hP hD hS hA hE ⟨hx, hb, hml, hown, hts⟩ (cwV 1 hts gX4_foresee_X3_tell rfl rfl rfl (by decide +kernel) ⟨(Nat.le_of_ble_eq_true rfl), (Nat.le_of_ble_eq_true rfl)⟩) 3 0 rfl rfl rfl rfl hl.1 rfl (Nat.le_of_ble_eq_true rfl) dX4_foresee_61 ⟨(Nat.le_of_ble_eq_true rfl), (Nat.le_of_ble_eq_true rfl)⟩) (fun _ => rfl) (fun r_61 u_61 H locs hw_61 hP hD hS => ?_)
    have hP : va_P D vwCl (wX cA ox a dy co ti ro u n B ch v nb G w T a2 ((daysS n nb d (dy, ro, (cpB n B B2), (cpG nb G G2), (cpT T T2))).1) co ti ((daysS n nb d (dy, ro, (cpB n B B2), (cpG nb G G2), (cpT T T2))).2.1) u2 n ((daysS n nb d (dy, ro, (cpB n B B2), (cpG nb G G2), (cpT T T2))).2.2.1) u_52 v2 nb ((daysS n nb d (dy, ro, (cpB n B B2), (cpG nb G G2), (cpT T T2))).2.2.2.1) w2 ((daysS n nb d (dy, ro, (cpB n B B2), (cpG nb G G2), (cpT T T2))).2.2.2.2)) H := hP
    have hD : va_D A (wX cA ox a dy co ti ro u n B ch v nb G w T a2 ((daysS n nb d (dy, ro, (cpB n B B2), (cpG nb G G2), (cpT T T2))).1) co ti ((daysS n nb d (dy, ro, (cpB n B B2), (cpG nb G G2), (cpT T T2))).2.1) u2 n ((daysS n nb d (dy, ro, (cpB n B B2), (cpG nb G G2), (cpT T T2))).2.2.1) u_52 v2 nb ((daysS n nb d (dy, ro, (cpB n B B2), (cpG nb G G2), (cpT T T2))).2.2.2.1) w2 ((daysS n nb d (dy, ro, (cpB n B B2), (cpG nb G G2), (cpT T T2))).2.2.2.2)) := hD
    obtain rfl : r_61 = tellW ((daysS n nb d (dy, ro, (cpB n B B2), (cpG nb G G2), (cpT T T2))).1) co ti ((daysS n nb d (dy, ro, (cpB n B B2), (cpG nb G G2), (cpT T T2))).2.1) n ((daysS n nb d (dy, ro, (cpB n B B2), (cpG nb G G2), (cpT T T2))).2.2.1) nb ((daysS n nb d (dy, ro, (cpB n B B2), (cpG nb G G2), (cpT T T2))).2.2.2.1) ((daysS n nb d (dy, ro, (cpB n B B2), (cpG nb G G2), (cpT T T2))).2.2.2.2) 4 := hw_61
    exact enI ((daysS n nb d (dy, ro, (cpB n B B2), (cpG nb G G2), (cpT T T2))).1, co, ti, (daysS n nb d (dy, ro, (cpB n B B2), (cpG nb G G2), (cpT T T2))).2.1, (daysS n nb d (dy, ro, (cpB n B B2), (cpG nb G G2), (cpT T T2))).2.2.1, u_52, (daysS n nb d (dy, ro, (cpB n B B2), (cpG nb G G2), (cpT T T2))).2.2.2.1, (daysS n nb d (dy, ro, (cpB n B B2), (cpG nb G G2), (cpT T T2))).2.2.2.2) hx hb hr hlocks hS hP (rfl) dX4_foresee_64
  · have hl : lv_has ls 3 [(0, .ref ox), (1, .int (nI d)), (2, .int 5)] := hl
    refine lv_iload_n hx hb dX4_foresee_0 rfl (lv_at hl 1 rfl) ?_
    refine goV ([]) (wX cA ox a dy co ti ro u n B ch v nb G w T a2 dy2 co2 ti2 ro2 u2 n2 B2 ch2 v2 nb2 G2 w2 T2) hP hD hS hA (rnS (rest := []) (c_needDays sa tb D cA cL l d (show 1 ≤ d from by first | omega | assumption | decide) (show d ≤ 200 from by first | omega | assumption | decide)) ([]) (wX cA ox a dy co ti ro u n B ch v nb G w T a2 dy2 co2 ti2 ro2 u2 n2 B2 ch2 v2 nb2 G2 w2 T2) hP hD hS hA hE ⟨hx, hb, hml, hown, hts⟩ (va_cwS 1 hts gX4_foresee_X4_needDays rfl rfl rfl (by decide +kernel) ⟨(Nat.le_of_ble_eq_true rfl), (Nat.le_of_ble_eq_true rfl)⟩) rfl hl.1 rfl (Nat.le_of_ble_eq_true rfl) dX4_foresee_1 ⟨(Nat.le_of_ble_eq_true rfl), (Nat.le_of_ble_eq_true rfl)⟩) (fun _ => rfl) (fun u_1 H locs hw_1 hP hD hS => ?_)
    have hP : va_P D vwCl (wX cA ox a dy co ti ro u n B ch v nb G w T a2 dy2 co2 ti2 ro2 u2 n2 B2 ch2 v2 nb2 G2 w2 T2) H := hP
    have hD : va_D A (wX cA ox a dy co ti ro u n B ch v nb G w T a2 dy2 co2 ti2 ro2 u2 n2 B2 ch2 v2 nb2 G2 w2 T2) := hD
    refine lv_iload_n hx hb dX4_foresee_4 rfl (lv_at hl 2 rfl) ?_
    refine lv_iconst (v := 4) hx hb dX4_foresee_5 (by decide) ?_
    refine lv_icmp_eq (tgt := 36) hx hb dX4_foresee_6 (by decide) (fun q => absurd q (by decide)) (fun _ => ?_)
    refine lv_iload_n hx hb dX4_foresee_9 rfl (lv_at hl 2 rfl) ?_
    refine lv_iconst (v := 5) hx hb dX4_foresee_10 (by decide) ?_
    refine lv_icmp_eq (tgt := 36) hx hb dX4_foresee_11 (by decide) (fun _ => ?_) (fun q => absurd (by decide) q)
    refine lv_aload_n hx hb dX4_foresee_36 rfl (lv_at hl 0 rfl) ?_
    refine va_get (D := D) (ci := 4) (v := .ref (a2 0)) (C := RX4) (T := TX4) (N := 2) hx hb hts hwX4 hown hE.K hP 0 rfl rfl 1 (by decide) (hts (.fieldLink RX4 16 "SedgeBarges" "ahead" "LSedgeBarges$Waterway;") (List.mem_of_getElem? (i := 3) rfl)) (fun _ h9 => h9) rfl dX4_foresee_37 ?_
    refine lv_aload_n hx hb dX4_foresee_40 rfl (lv_at hl 0 rfl) ?_
    refine va_get (D := D) (ci := 4) (v := .ref (a 0)) (C := RX4) (T := TX4) (N := 2) hx hb hts hwX4 hown hE.K hP 0 rfl rfl 0 (by decide) (hts (.fieldLink RX4 10 "SedgeBarges" "now" "LSedgeBarges$Waterway;") (List.mem_of_getElem? (i := 4) rfl)) (fun _ h9 => h9) rfl dX4_foresee_41 ?_
    have hPq : va_P D vwCl ([] ++ ((wWay cA a2 dy2 co2 ti2 ro2 u2 n2 B2 ch2 v2 nb2 G2 w2 T2 ++ wWay cA a dy co ti ro u n B ch v nb G w T) ++ ([(ox, .inr (4, [.ref (a 0), .ref (a2 0)]))]))) _ := hP.sub [20, 21, 22, 23, 24, 25, 26, 27, 28, 29, 30, 31, 32, 33, 34, 35, 36, 37, 38, 1, 2, 3, 4, 5, 6, 7, 8, 9, 10, 11, 12, 13, 14, 15, 16, 17, 18, 19, 0] rfl
    have hDq : va_D A ([] ++ ((wWay cA a2 dy2 co2 ti2 ro2 u2 n2 B2 ch2 v2 nb2 G2 w2 T2 ++ wWay cA a dy co ti ro u n B ch v nb G w T) ++ ([(ox, .inr (4, [.ref (a 0), .ref (a2 0)]))]))) := hD.sub [20, 21, 22, 23, 24, 25, 26, 27, 28, 29, 30, 31, 32, 33, 34, 35, 36, 37, 38, 1, 2, 3, 4, 5, 6, 7, 8, 9, 10, 11, 12, 13, 14, 15, 16, 17, 18, 19, 0] (by decide) rfl
    refine goV ([]) ([(ox, .inr (4, [.ref (a 0), .ref (a2 0)]))]) hPq hDq hS hA (rnV (rest := []) (c_Way_copyFrom sa tb D cA cL l a2 dy2 co2 ti2 ro2 u2 n2 B2 ch2 v2 nb2 G2 w2 T2 a dy co ti ro u n B ch v nb G w T (show n ≤ 8 from by first | omega | assumption | decide) (show nb ≤ 3 from by first | omega | assumption | decide)) ([]) ([(ox, .inr (4, [.ref (a 0), .ref (a2 0)]))]) hPq hDq hS hA hE ⟨hx, hb, hml, hown, hts⟩ (cwV 1 hts gX4_foresee_X3_copyFrom rfl rfl rfl (by decide +kernel) ⟨(Nat.le_of_ble_eq_true rfl), (Nat.le_of_ble_eq_true rfl)⟩) 3 0 rfl rfl rfl rfl hl.1 rfl (Nat.le_of_ble_eq_true rfl) dX4_foresee_44 ⟨(Nat.le_of_ble_eq_true rfl), (Nat.le_of_ble_eq_true rfl)⟩) (fun _ => rfl) (fun u_44 H locs hw_44 hP hD hS => ?_)
    have hP : va_P D vwCl (wX cA ox a dy co ti ro u n B ch v nb G w T a2 dy co ti ro u2 n (cpB n B B2) ch2 v2 nb (cpG nb G G2) w2 (cpT T T2)) H := hP.sub [38, 19, 20, 21, 22, 23, 24, 25, 26, 27, 28, 29, 30, 31, 32, 33, 34, 35, 36, 37, 0, 1, 2, 3, 4, 5, 6, 7, 8, 9, 10, 11, 12, 13, 14, 15, 16, 17, 18] rfl
    have hD : va_D A (wX cA ox a dy co ti ro u n B ch v nb G w T a2 dy co ti ro u2 n (cpB n B B2) ch2 v2 nb (cpG nb G G2) w2 (cpT T T2)) := hD.sub [38, 19, 20, 21, 22, 23, 24, 25, 26, 27, 28, 29, 30, 31, 32, 33, 34, 35, 36, 37, 0, 1, 2, 3, 4, 5, 6, 7, 8, 9, 10, 11, 12, 13, 14, 15, 16, 17, 18] (by decide) rfl
    refine lv_aload_n hx hb dX4_foresee_47 rfl (lv_at hl 0 rfl) ?_
    refine va_get (D := D) (ci := 4) (v := .ref (a2 0)) (C := RX4) (T := TX4) (N := 2) hx hb hts hwX4 hown hE.K hP 0 rfl rfl 1 (by decide) (hts (.fieldLink RX4 16 "SedgeBarges" "ahead" "LSedgeBarges$Waterway;") (List.mem_of_getElem? (i := 3) rfl)) (fun _ h9 => h9) rfl dX4_foresee_48 ?_
    refine lv_iload_n hx hb dX4_foresee_51 rfl (lv_at hl 1 rfl) ?_
    refine goI ([oX ox a a2] ++ (wWay cA a dy co ti ro u n B ch v nb G w T ++ ([]))) ([]) hP hD hS hA (rnV (rest := []) (c_Way_days sa tb D cA cL l a2 dy co ti ro u2 n (cpB n B B2) ch2 v2 nb (cpG nb G G2) w2 (cpT T T2) d (show n ≤ 8 from by first | omega | assumption | decide) (show nb ≤ 3 from by first | omega | assumption | decide) (show d < 1000 from by first | omega | assumption | decide)) ([oX ox a a2] ++ (wWay cA a dy co ti ro u n B ch v nb G w T ++ ([]))) ([]) hP hD hS hA hE ⟨hx, hb, hml, hown, hts⟩ (cwV 1 hts gX4_foresee_X3_passDays rfl rfl rfl (by decide +kernel) ⟨(Nat.le_of_ble_eq_true rfl), (Nat.le_of_ble_eq_true rfl)⟩) 3 0 rfl rfl rfl rfl hl.1 rfl (Nat.le_of_ble_eq_true rfl) dX4_foresee_52 ⟨(Nat.le_of_ble_eq_true rfl), (Nat.le_of_ble_eq_true rfl)⟩) (fun _ => rfl) (fun r_52 u_52 H locs hw_52 hP hD hS => ?_)
    have hP : va_P D vwCl (wX cA ox a dy co ti ro u n B ch v nb G w T a2 ((daysS n nb d (dy, ro, (cpB n B B2), (cpG nb G G2), (cpT T T2))).1) co ti ((daysS n nb d (dy, ro, (cpB n B B2), (cpG nb G G2), (cpT T T2))).2.1) u2 n ((daysS n nb d (dy, ro, (cpB n B B2), (cpG nb G G2), (cpT T T2))).2.2.1) u_52 v2 nb ((daysS n nb d (dy, ro, (cpB n B B2), (cpG nb G G2), (cpT T T2))).2.2.2.1) w2 ((daysS n nb d (dy, ro, (cpB n B B2), (cpG nb G G2), (cpT T T2))).2.2.2.2)) H := hP
    have hD : va_D A (wX cA ox a dy co ti ro u n B ch v nb G w T a2 ((daysS n nb d (dy, ro, (cpB n B B2), (cpG nb G G2), (cpT T T2))).1) co ti ((daysS n nb d (dy, ro, (cpB n B B2), (cpG nb G G2), (cpT T T2))).2.1) u2 n ((daysS n nb d (dy, ro, (cpB n B B2), (cpG nb G G2), (cpT T T2))).2.2.1) u_52 v2 nb ((daysS n nb d (dy, ro, (cpB n B B2), (cpG nb G G2), (cpT T T2))).2.2.2.1) w2 ((daysS n nb d (dy, ro, (cpB n B B2), (cpG nb G G2), (cpT T T2))).2.2.2.2)) := hD
    obtain rfl : r_52 = (daysS n nb d (dy, ro, (cpB n B B2), (cpG nb G G2), (cpT T T2))).2.1 - ro := hw_52
    refine lv_pop hx hb dX4_foresee_55 rfl ?_
    refine lv_aload_n hx hb dX4_foresee_56 rfl (lv_at hl 0 rfl) ?_
    refine va_get (D := D) (ci := 4) (v := .ref (a2 0)) (C := RX4) (T := TX4) (N := 2) hx hb hts hwX4 hown hE.K hP 0 rfl rfl 1 (by decide) (hts (.fieldLink RX4 16 "SedgeBarges" "ahead" "LSedgeBarges$Waterway;") (List.mem_of_getElem? (i := 3) rfl)) (fun _ h9 => h9) rfl dX4_foresee_57 ?_
    refine lv_iload_n hx hb dX4_foresee_60 rfl (lv_at hl 2 rfl) ?_
    refine goI ([oX ox a a2] ++ (wWay cA a dy co ti ro u n B ch v nb G w T ++ ([]))) ([]) hP hD hS hA (rnV (rest := []) (c_Way_tell sa tb D cA cL l a2 ((daysS n nb d (dy, ro, (cpB n B B2), (cpG nb G G2), (cpT T T2))).1) co ti ((daysS n nb d (dy, ro, (cpB n B B2), (cpG nb G G2), (cpT T T2))).2.1) u2 n ((daysS n nb d (dy, ro, (cpB n B B2), (cpG nb G G2), (cpT T T2))).2.2.1) u_52 v2 nb ((daysS n nb d (dy, ro, (cpB n B B2), (cpG nb G G2), (cpT T T2))).2.2.2.1) w2 ((daysS n nb d (dy, ro, (cpB n B B2), (cpG nb G G2), (cpT T T2))).2.2.2.2) 5 (show n ≤ 8 from by first | omega | assumption | decide) (show nb ≤ 3 from by first | omega | assumption | decide) (show 5 < 11 from by first | omega | assumption | decide)) ([oX ox a a2] ++ (wWay cA a dy co ti ro u n B ch v nb G w T ++ ([]))) ([]) hP hD hS hA hE ⟨hx, hb, hml, hown, hts⟩ (cwV 1 hts gX4_foresee_X3_tell rfl rfl rfl (by decide +kernel) ⟨(Nat.le_of_ble_eq_true rfl), (Nat.le_of_ble_eq_true rfl)⟩) 3 0 rfl rfl rfl rfl hl.1 rfl (Nat.le_of_ble_eq_true rfl) dX4_foresee_61 ⟨(Nat.le_of_ble_eq_true rfl), (Nat.le_of_ble_eq_true rfl)⟩) (fun _ => rfl) (fun r_61 u_61 H locs hw_61 hP hD hS => ?_)
    have hP : va_P D vwCl (wX cA ox a dy co ti ro u n B ch v nb G w T a2 ((daysS n nb d (dy, ro, (cpB n B B2), (cpG nb G G2), (cpT T T2))).1) co ti ((daysS n nb d (dy, ro, (cpB n B B2), (cpG nb G G2), (cpT T T2))).2.1) u2 n ((daysS n nb d (dy, ro, (cpB n B B2), (cpG nb G G2), (cpT T T2))).2.2.1) u_52 v2 nb ((daysS n nb d (dy, ro, (cpB n B B2), (cpG nb G G2), (cpT T T2))).2.2.2.1) w2 ((daysS n nb d (dy, ro, (cpB n B B2), (cpG nb G G2), (cpT T T2))).2.2.2.2)) H := hP
    have hD : va_D A (wX cA ox a dy co ti ro u n B ch v nb G w T a2 ((daysS n nb d (dy, ro, (cpB n B B2), (cpG nb G G2), (cpT T T2))).1) co ti ((daysS n nb d (dy, ro, (cpB n B B2), (cpG nb G G2), (cpT T T2))).2.1) u2 n ((daysS n nb d (dy, ro, (cpB n B B2), (cpG nb G G2), (cpT T T2))).2.2.1) u_52 v2 nb ((daysS n nb d (dy, ro, (cpB n B B2), (cpG nb G G2), (cpT T T2))).2.2.2.1) w2 ((daysS n nb d (dy, ro, (cpB n B B2), (cpG nb G G2), (cpT T T2))).2.2.2.2)) := hD
    obtain rfl : r_61 = tellW ((daysS n nb d (dy, ro, (cpB n B B2), (cpG nb G G2), (cpT T T2))).1) co ti ((daysS n nb d (dy, ro, (cpB n B B2), (cpG nb G G2), (cpT T T2))).2.1) n ((daysS n nb d (dy, ro, (cpB n B B2), (cpG nb G G2), (cpT T T2))).2.2.1) nb ((daysS n nb d (dy, ro, (cpB n B B2), (cpG nb G G2), (cpT T T2))).2.2.2.1) ((daysS n nb d (dy, ro, (cpB n B B2), (cpG nb G G2), (cpT T T2))).2.2.2.2) 5 := hw_61
    exact enI ((daysS n nb d (dy, ro, (cpB n B B2), (cpG nb G G2), (cpT T T2))).1, co, ti, (daysS n nb d (dy, ro, (cpB n B B2), (cpG nb G G2), (cpT T T2))).2.1, (daysS n nb d (dy, ro, (cpB n B B2), (cpG nb G G2), (cpT T T2))).2.2.1, u_52, (daysS n nb d (dy, ro, (cpB n B B2), (cpG nb G G2), (cpT T T2))).2.2.2.1, (daysS n nb d (dy, ro, (cpB n B B2), (cpG nb G G2), (cpT T T2))).2.2.2.2) hx hb hr hlocks hS hP (rfl) dX4_foresee_64
  · have hl : lv_has ls 3 [(0, .ref ox), (1, .int (nI d)), (2, .int 9)] := hl
    refine lv_iload_n hx hb dX4_foresee_0 rfl (lv_at hl 1 rfl) ?_
    refine goV ([]) (wX cA ox a dy co ti ro u n B ch v nb G w T a2 dy2 co2 ti2 ro2 u2 n2 B2 ch2 v2 nb2 G2 w2 T2) hP hD hS hA (rnS (rest := []) (c_needDays sa tb D cA cL l d (show 1 ≤ d from by first | omega | assumption | decide) (show d ≤ 200 from by first | omega | assumption | decide)) ([]) (wX cA ox a dy co ti ro u n B ch v nb G w T a2 dy2 co2 ti2 ro2 u2 n2 B2 ch2 v2 nb2 G2 w2 T2) hP hD hS hA hE ⟨hx, hb, hml, hown, hts⟩ (va_cwS 1 hts gX4_foresee_X4_needDays rfl rfl rfl (by decide +kernel) ⟨(Nat.le_of_ble_eq_true rfl), (Nat.le_of_ble_eq_true rfl)⟩) rfl hl.1 rfl (Nat.le_of_ble_eq_true rfl) dX4_foresee_1 ⟨(Nat.le_of_ble_eq_true rfl), (Nat.le_of_ble_eq_true rfl)⟩) (fun _ => rfl) (fun u_1 H locs hw_1 hP hD hS => ?_)
    have hP : va_P D vwCl (wX cA ox a dy co ti ro u n B ch v nb G w T a2 dy2 co2 ti2 ro2 u2 n2 B2 ch2 v2 nb2 G2 w2 T2) H := hP
    have hD : va_D A (wX cA ox a dy co ti ro u n B ch v nb G w T a2 dy2 co2 ti2 ro2 u2 n2 B2 ch2 v2 nb2 G2 w2 T2) := hD
    refine lv_iload_n hx hb dX4_foresee_4 rfl (lv_at hl 2 rfl) ?_
    refine lv_iconst (v := 4) hx hb dX4_foresee_5 (by decide) ?_
    refine lv_icmp_eq (tgt := 36) hx hb dX4_foresee_6 (by decide) (fun q => absurd q (by decide)) (fun _ => ?_)
    refine lv_iload_n hx hb dX4_foresee_9 rfl (lv_at hl 2 rfl) ?_
    refine lv_iconst (v := 5) hx hb dX4_foresee_10 (by decide) ?_
    refine lv_icmp_eq (tgt := 36) hx hb dX4_foresee_11 (by decide) (fun q => absurd q (by decide)) (fun _ => ?_)
    refine lv_iload_n hx hb dX4_foresee_14 rfl (lv_at hl 2 rfl) ?_
    refine lv_bipush (v := 9) hx hb dX4_foresee_15 (by decide) ?_
    refine lv_icmp_eq (tgt := 36) hx hb dX4_foresee_17 (by decide) (fun _ => ?_) (fun q => absurd (by decide) q)
    refine lv_aload_n hx hb dX4_foresee_36 rfl (lv_at hl 0 rfl) ?_
    refine va_get (D := D) (ci := 4) (v := .ref (a2 0)) (C := RX4) (T := TX4) (N := 2) hx hb hts hwX4 hown hE.K hP 0 rfl rfl 1 (by decide) (hts (.fieldLink RX4 16 "SedgeBarges" "ahead" "LSedgeBarges$Waterway;") (List.mem_of_getElem? (i := 3) rfl)) (fun _ h9 => h9) rfl dX4_foresee_37 ?_
    refine lv_aload_n hx hb dX4_foresee_40 rfl (lv_at hl 0 rfl) ?_
    refine va_get (D := D) (ci := 4) (v := .ref (a 0)) (C := RX4) (T := TX4) (N := 2) hx hb hts hwX4 hown hE.K hP 0 rfl rfl 0 (by decide) (hts (.fieldLink RX4 10 "SedgeBarges" "now" "LSedgeBarges$Waterway;") (List.mem_of_getElem? (i := 4) rfl)) (fun _ h9 => h9) rfl dX4_foresee_41 ?_
    have hPq : va_P D vwCl ([] ++ ((wWay cA a2 dy2 co2 ti2 ro2 u2 n2 B2 ch2 v2 nb2 G2 w2 T2 ++ wWay cA a dy co ti ro u n B ch v nb G w T) ++ ([(ox, .inr (4, [.ref (a 0), .ref (a2 0)]))]))) _ := hP.sub [20, 21, 22, 23, 24, 25, 26, 27, 28, 29, 30, 31, 32, 33, 34, 35, 36, 37, 38, 1, 2, 3, 4, 5, 6, 7, 8, 9, 10, 11, 12, 13, 14, 15, 16, 17, 18, 19, 0] rfl
    have hDq : va_D A ([] ++ ((wWay cA a2 dy2 co2 ti2 ro2 u2 n2 B2 ch2 v2 nb2 G2 w2 T2 ++ wWay cA a dy co ti ro u n B ch v nb G w T) ++ ([(ox, .inr (4, [.ref (a 0), .ref (a2 0)]))]))) := hD.sub [20, 21, 22, 23, 24, 25, 26, 27, 28, 29, 30, 31, 32, 33, 34, 35, 36, 37, 38, 1, 2, 3, 4, 5, 6, 7, 8, 9, 10, 11, 12, 13, 14, 15, 16, 17, 18, 19, 0] (by decide) rfl
    refine goV ([]) ([(ox, .inr (4, [.ref (a 0), .ref (a2 0)]))]) hPq hDq hS hA (rnV (rest := []) (c_Way_copyFrom sa tb D cA cL l a2 dy2 co2 ti2 ro2 u2 n2 B2 ch2 v2 nb2 G2 w2 T2 a dy co ti ro u n B ch v nb G w T (show n ≤ 8 from by first | omega | assumption | decide) (show nb ≤ 3 from by first | omega | assumption | decide)) ([]) ([(ox, .inr (4, [.ref (a 0), .ref (a2 0)]))]) hPq hDq hS hA hE ⟨hx, hb, hml, hown, hts⟩ (cwV 1 hts gX4_foresee_X3_copyFrom rfl rfl rfl (by decide +kernel) ⟨(Nat.le_of_ble_eq_true rfl), (Nat.le_of_ble_eq_true rfl)⟩) 3 0 rfl rfl rfl rfl hl.1 rfl (Nat.le_of_ble_eq_true rfl) dX4_foresee_44 ⟨(Nat.le_of_ble_eq_true rfl), (Nat.le_of_ble_eq_true rfl)⟩) (fun _ => rfl) (fun u_44 H locs hw_44 hP hD hS => ?_)
    have hP : va_P D vwCl (wX cA ox a dy co ti ro u n B ch v nb G w T a2 dy co ti ro u2 n (cpB n B B2) ch2 v2 nb (cpG nb G G2) w2 (cpT T T2)) H := hP.sub [38, 19, 20, 21, 22, 23, 24, 25, 26, 27, 28, 29, 30, 31, 32, 33, 34, 35, 36, 37, 0, 1, 2, 3, 4, 5, 6, 7, 8, 9, 10, 11, 12, 13, 14, 15, 16, 17, 18] rfl
    have hD : va_D A (wX cA ox a dy co ti ro u n B ch v nb G w T a2 dy co ti ro u2 n (cpB n B B2) ch2 v2 nb (cpG nb G G2) w2 (cpT T T2)) := hD.sub [38, 19, 20, 21, 22, 23, 24, 25, 26, 27, 28, 29, 30, 31, 32, 33, 34, 35, 36, 37, 0, 1, 2, 3, 4, 5, 6, 7, 8, 9, 10, 11, 12, 13, 14, 15, 16, 17, 18] (by decide) rfl
    refine lv_aload_n hx hb dX4_foresee_47 rfl (lv_at hl 0 rfl) ?_
    refine va_get (D := D) (ci := 4) (v := .ref (a2 0)) (C := RX4) (T := TX4) (N := 2) hx hb hts hwX4 hown hE.K hP 0 rfl rfl 1 (by decide) (hts (.fieldLink RX4 16 "SedgeBarges" "ahead" "LSedgeBarges$Waterway;") (List.mem_of_getElem? (i := 3) rfl)) (fun _ h9 => h9) rfl dX4_foresee_48 ?_
    refine lv_iload_n hx hb dX4_foresee_51 rfl (lv_at hl 1 rfl) ?_
    refine goI ([oX ox a a2] ++ (wWay cA a dy co ti ro u n B ch v nb G w T ++ ([]))) ([]) hP hD hS hA (rnV (rest := []) (c_Way_days sa tb D cA cL l a2 dy co ti ro u2 n (cpB n B B2) ch2 v2 nb (cpG nb G G2) w2 (cpT T T2) d (show n ≤ 8 from by first | omega | assumption | decide) (show nb ≤ 3 from by first | omega | assumption | decide) (show d < 1000 from by first | omega | assumption | decide)) ([oX ox a a2] ++ (wWay cA a dy co ti ro u n B ch v nb G w T ++ ([]))) ([]) hP hD hS hA hE ⟨hx, hb, hml, hown, hts⟩ (cwV 1 hts gX4_foresee_X3_passDays rfl rfl rfl (by decide +kernel) ⟨(Nat.le_of_ble_eq_true rfl), (Nat.le_of_ble_eq_true rfl)⟩) 3 0 rfl rfl rfl rfl hl.1 rfl (Nat.le_of_ble_eq_true rfl) dX4_foresee_52 ⟨(Nat.le_of_ble_eq_true rfl), (Nat.le_of_ble_eq_true rfl)⟩) (fun _ => rfl) (fun r_52 u_52 H locs hw_52 hP hD hS => ?_)
    have hP : va_P D vwCl (wX cA ox a dy co ti ro u n B ch v nb G w T a2 ((daysS n nb d (dy, ro, (cpB n B B2), (cpG nb G G2), (cpT T T2))).1) co ti ((daysS n nb d (dy, ro, (cpB n B B2), (cpG nb G G2), (cpT T T2))).2.1) u2 n ((daysS n nb d (dy, ro, (cpB n B B2), (cpG nb G G2), (cpT T T2))).2.2.1) u_52 v2 nb ((daysS n nb d (dy, ro, (cpB n B B2), (cpG nb G G2), (cpT T T2))).2.2.2.1) w2 ((daysS n nb d (dy, ro, (cpB n B B2), (cpG nb G G2), (cpT T T2))).2.2.2.2)) H := hP
    have hD : va_D A (wX cA ox a dy co ti ro u n B ch v nb G w T a2 ((daysS n nb d (dy, ro, (cpB n B B2), (cpG nb G G2), (cpT T T2))).1) co ti ((daysS n nb d (dy, ro, (cpB n B B2), (cpG nb G G2), (cpT T T2))).2.1) u2 n ((daysS n nb d (dy, ro, (cpB n B B2), (cpG nb G G2), (cpT T T2))).2.2.1) u_52 v2 nb ((daysS n nb d (dy, ro, (cpB n B B2), (cpG nb G G2), (cpT T T2))).2.2.2.1) w2 ((daysS n nb d (dy, ro, (cpB n B B2), (cpG nb G G2), (cpT T T2))).2.2.2.2)) := hD
    obtain rfl : r_52 = (daysS n nb d (dy, ro, (cpB n B B2), (cpG nb G G2), (cpT T T2))).2.1 - ro := hw_52
    refine lv_pop hx hb dX4_foresee_55 rfl ?_
    refine lv_aload_n hx hb dX4_foresee_56 rfl (lv_at hl 0 rfl) ?_
    refine va_get (D := D) (ci := 4) (v := .ref (a2 0)) (C := RX4) (T := TX4) (N := 2) hx hb hts hwX4 hown hE.K hP 0 rfl rfl 1 (by decide) (hts (.fieldLink RX4 16 "SedgeBarges" "ahead" "LSedgeBarges$Waterway;") (List.mem_of_getElem? (i := 3) rfl)) (fun _ h9 => h9) rfl dX4_foresee_57 ?_
    refine lv_iload_n hx hb dX4_foresee_60 rfl (lv_at hl 2 rfl) ?_
    refine goI ([oX ox a a2] ++ (wWay cA a dy co ti ro u n B ch v nb G w T ++ ([]))) ([]) hP hD hS hA (rnV (rest := []) (c_Way_tell sa tb D cA cL l a2 ((daysS n nb d (dy, ro, (cpB n B B2), (cpG nb G G2), (cpT T T2))).1) co ti ((daysS n nb d (dy, ro, (cpB n B B2), (cpG nb G G2), (cpT T T2))).2.1) u2 n ((daysS n nb d (dy, ro, (cpB n B B2), (cpG nb G G2), (cpT T T2))).2.2.1) u_52 v2 nb ((daysS n nb d (dy, ro, (cpB n B B2), (cpG nb G G2), (cpT T T2))).2.2.2.1) w2 ((daysS n nb d (dy, ro, (cpB n B B2), (cpG nb G G2), (cpT T T2))).2.2.2.2) 9 (show n ≤ 8 from by first | omega | assumption | decide) (show nb ≤ 3 from by first | omega | assumption | decide) (show 9 < 11 from by first | omega | assumption | decide)) ([oX ox a a2] ++ (wWay cA a dy co ti ro u n B ch v nb G w T ++ ([]))) ([]) hP hD hS hA hE ⟨hx, hb, hml, hown, hts⟩ (cwV 1 hts gX4_foresee_X3_tell rfl rfl rfl (by decide +kernel) ⟨(Nat.le_of_ble_eq_true rfl), (Nat.le_of_ble_eq_true rfl)⟩) 3 0 rfl rfl rfl rfl hl.1 rfl (Nat.le_of_ble_eq_true rfl) dX4_foresee_61 ⟨(Nat.le_of_ble_eq_true rfl), (Nat.le_of_ble_eq_true rfl)⟩) (fun _ => rfl) (fun r_61 u_61 H locs hw_61 hP hD hS => ?_)
    have hP : va_P D vwCl (wX cA ox a dy co ti ro u n B ch v nb G w T a2 ((daysS n nb d (dy, ro, (cpB n B B2), (cpG nb G G2), (cpT T T2))).1) co ti ((daysS n nb d (dy, ro, (cpB n B B2), (cpG nb G G2), (cpT T T2))).2.1) u2 n ((daysS n nb d (dy, ro, (cpB n B B2), (cpG nb G G2), (cpT T T2))).2.2.1) u_52 v2 nb ((daysS n nb d (dy, ro, (cpB n B B2), (cpG nb G G2), (cpT T T2))).2.2.2.1) w2 ((daysS n nb d (dy, ro, (cpB n B B2), (cpG nb G G2), (cpT T T2))).2.2.2.2)) H := hP
    have hD : va_D A (wX cA ox a dy co ti ro u n B ch v nb G w T a2 ((daysS n nb d (dy, ro, (cpB n B B2), (cpG nb G G2), (cpT T T2))).1) co ti ((daysS n nb d (dy, ro, (cpB n B B2), (cpG nb G G2), (cpT T T2))).2.1) u2 n ((daysS n nb d (dy, ro, (cpB n B B2), (cpG nb G G2), (cpT T T2))).2.2.1) u_52 v2 nb ((daysS n nb d (dy, ro, (cpB n B B2), (cpG nb G G2), (cpT T T2))).2.2.2.1) w2 ((daysS n nb d (dy, ro, (cpB n B B2), (cpG nb G G2), (cpT T T2))).2.2.2.2)) := hD
    obtain rfl : r_61 = tellW ((daysS n nb d (dy, ro, (cpB n B B2), (cpG nb G G2), (cpT T T2))).1) co ti ((daysS n nb d (dy, ro, (cpB n B B2), (cpG nb G G2), (cpT T T2))).2.1) n ((daysS n nb d (dy, ro, (cpB n B B2), (cpG nb G G2), (cpT T T2))).2.2.1) nb ((daysS n nb d (dy, ro, (cpB n B B2), (cpG nb G G2), (cpT T T2))).2.2.2.1) ((daysS n nb d (dy, ro, (cpB n B B2), (cpG nb G G2), (cpT T T2))).2.2.2.2) 9 := hw_61
    exact enI ((daysS n nb d (dy, ro, (cpB n B B2), (cpG nb G G2), (cpT T T2))).1, co, ti, (daysS n nb d (dy, ro, (cpB n B B2), (cpG nb G G2), (cpT T T2))).2.1, (daysS n nb d (dy, ro, (cpB n B B2), (cpG nb G G2), (cpT T T2))).2.2.1, u_52, (daysS n nb d (dy, ro, (cpB n B B2), (cpG nb G G2), (cpT T T2))).2.2.2.1, (daysS n nb d (dy, ro, (cpB n B B2), (cpG nb G G2), (cpT T T2))).2.2.2.2) hx hb hr hlocks hS hP (rfl) dX4_foresee_64
  · have hl : lv_has ls 3 [(0, .ref ox), (1, .int (nI d)), (2, .int 10)] := hl
    refine lv_iload_n hx hb dX4_foresee_0 rfl (lv_at hl 1 rfl) ?_
    refine goV ([]) (wX cA ox a dy co ti ro u n B ch v nb G w T a2 dy2 co2 ti2 ro2 u2 n2 B2 ch2 v2 nb2 G2 w2 T2) hP hD hS hA (rnS (rest := []) (c_needDays sa tb D cA cL l d (show 1 ≤ d from by first | omega | assumption | decide) (show d ≤ 200 from by first | omega | assumption | decide)) ([]) (wX cA ox a dy co ti ro u n B ch v nb G w T a2 dy2 co2 ti2 ro2 u2 n2 B2 ch2 v2 nb2 G2 w2 T2) hP hD hS hA hE ⟨hx, hb, hml, hown, hts⟩ (va_cwS 1 hts gX4_foresee_X4_needDays rfl rfl rfl (by decide +kernel) ⟨(Nat.le_of_ble_eq_true rfl), (Nat.le_of_ble_eq_true rfl)⟩) rfl hl.1 rfl (Nat.le_of_ble_eq_true rfl) dX4_foresee_1 ⟨(Nat.le_of_ble_eq_true rfl), (Nat.le_of_ble_eq_true rfl)⟩) (fun _ => rfl) (fun u_1 H locs hw_1 hP hD hS => ?_)
    have hP : va_P D vwCl (wX cA ox a dy co ti ro u n B ch v nb G w T a2 dy2 co2 ti2 ro2 u2 n2 B2 ch2 v2 nb2 G2 w2 T2) H := hP
    have hD : va_D A (wX cA ox a dy co ti ro u n B ch v nb G w T a2 dy2 co2 ti2 ro2 u2 n2 B2 ch2 v2 nb2 G2 w2 T2) := hD
    refine lv_iload_n hx hb dX4_foresee_4 rfl (lv_at hl 2 rfl) ?_
    refine lv_iconst (v := 4) hx hb dX4_foresee_5 (by decide) ?_
    refine lv_icmp_eq (tgt := 36) hx hb dX4_foresee_6 (by decide) (fun q => absurd q (by decide)) (fun _ => ?_)
    refine lv_iload_n hx hb dX4_foresee_9 rfl (lv_at hl 2 rfl) ?_
    refine lv_iconst (v := 5) hx hb dX4_foresee_10 (by decide) ?_
    refine lv_icmp_eq (tgt := 36) hx hb dX4_foresee_11 (by decide) (fun q => absurd q (by decide)) (fun _ => ?_)
    refine lv_iload_n hx hb dX4_foresee_14 rfl (lv_at hl 2 rfl) ?_
    refine lv_bipush (v := 9) hx hb dX4_foresee_15 (by decide) ?_
    refine lv_icmp_eq (tgt := 36) hx hb dX4_foresee_17 (by decide) (fun q => absurd q (by decide)) (fun _ => ?_)
    refine lv_iload_n hx hb dX4_foresee_20 rfl (lv_at hl 2 rfl) ?_
    refine lv_bipush (v := 10) hx hb dX4_foresee_21 (by decide) ?_
    refine lv_icmp_eq (tgt := 36) hx hb dX4_foresee_23 (by decide) (fun _ => ?_) (fun q => absurd (by decide) q)
    refine lv_aload_n hx hb dX4_foresee_36 rfl (lv_at hl 0 rfl) ?_
    refine va_get (D := D) (ci := 4) (v := .ref (a2 0)) (C := RX4) (T := TX4) (N := 2) hx hb hts hwX4 hown hE.K hP 0 rfl rfl 1 (by decide) (hts (.fieldLink RX4 16 "SedgeBarges" "ahead" "LSedgeBarges$Waterway;") (List.mem_of_getElem? (i := 3) rfl)) (fun _ h9 => h9) rfl dX4_foresee_37 ?_
    refine lv_aload_n hx hb dX4_foresee_40 rfl (lv_at hl 0 rfl) ?_
    refine va_get (D := D) (ci := 4) (v := .ref (a 0)) (C := RX4) (T := TX4) (N := 2) hx hb hts hwX4 hown hE.K hP 0 rfl rfl 0 (by decide) (hts (.fieldLink RX4 10 "SedgeBarges" "now" "LSedgeBarges$Waterway;") (List.mem_of_getElem? (i := 4) rfl)) (fun _ h9 => h9) rfl dX4_foresee_41 ?_
    have hPq : va_P D vwCl ([] ++ ((wWay cA a2 dy2 co2 ti2 ro2 u2 n2 B2 ch2 v2 nb2 G2 w2 T2 ++ wWay cA a dy co ti ro u n B ch v nb G w T) ++ ([(ox, .inr (4, [.ref (a 0), .ref (a2 0)]))]))) _ := hP.sub [20, 21, 22, 23, 24, 25, 26, 27, 28, 29, 30, 31, 32, 33, 34, 35, 36, 37, 38, 1, 2, 3, 4, 5, 6, 7, 8, 9, 10, 11, 12, 13, 14, 15, 16, 17, 18, 19, 0] rfl
    have hDq : va_D A ([] ++ ((wWay cA a2 dy2 co2 ti2 ro2 u2 n2 B2 ch2 v2 nb2 G2 w2 T2 ++ wWay cA a dy co ti ro u n B ch v nb G w T) ++ ([(ox, .inr (4, [.ref (a 0), .ref (a2 0)]))]))) := hD.sub [20, 21, 22, 23, 24, 25, 26, 27, 28, 29, 30, 31, 32, 33, 34, 35, 36, 37, 38, 1, 2, 3, 4, 5, 6, 7, 8, 9, 10, 11, 12, 13, 14, 15, 16, 17, 18, 19, 0] (by decide) rfl
    refine goV ([]) ([(ox, .inr (4, [.ref (a 0), .ref (a2 0)]))]) hPq hDq hS hA (rnV (rest := []) (c_Way_copyFrom sa tb D cA cL l a2 dy2 co2 ti2 ro2 u2 n2 B2 ch2 v2 nb2 G2 w2 T2 a dy co ti ro u n B ch v nb G w T (show n ≤ 8 from by first | omega | assumption | decide) (show nb ≤ 3 from by first | omega | assumption | decide)) ([]) ([(ox, .inr (4, [.ref (a 0), .ref (a2 0)]))]) hPq hDq hS hA hE ⟨hx, hb, hml, hown, hts⟩ (cwV 1 hts gX4_foresee_X3_copyFrom rfl rfl rfl (by decide +kernel) ⟨(Nat.le_of_ble_eq_true rfl), (Nat.le_of_ble_eq_true rfl)⟩) 3 0 rfl rfl rfl rfl hl.1 rfl (Nat.le_of_ble_eq_true rfl) dX4_foresee_44 ⟨(Nat.le_of_ble_eq_true rfl), (Nat.le_of_ble_eq_true rfl)⟩) (fun _ => rfl) (fun u_44 H locs hw_44 hP hD hS => ?_)
    have hP : va_P D vwCl (wX cA ox a dy co ti ro u n B ch v nb G w T a2 dy co ti ro u2 n (cpB n B B2) ch2 v2 nb (cpG nb G G2) w2 (cpT T T2)) H := hP.sub [38, 19, 20, 21, 22, 23, 24, 25, 26, 27, 28, 29, 30, 31, 32, 33, 34, 35, 36, 37, 0, 1, 2, 3, 4, 5, 6, 7, 8, 9, 10, 11, 12, 13, 14, 15, 16, 17, 18] rfl
    have hD : va_D A (wX cA ox a dy co ti ro u n B ch v nb G w T a2 dy co ti ro u2 n (cpB n B B2) ch2 v2 nb (cpG nb G G2) w2 (cpT T T2)) := hD.sub [38, 19, 20, 21, 22, 23, 24, 25, 26, 27, 28, 29, 30, 31, 32, 33, 34, 35, 36, 37, 0, 1, 2, 3, 4, 5, 6, 7, 8, 9, 10, 11, 12, 13, 14, 15, 16, 17, 18] (by decide) rfl
    refine lv_aload_n hx hb dX4_foresee_47 rfl (lv_at hl 0 rfl) ?_
    refine va_get (D := D) (ci := 4) (v := .ref (a2 0)) (C := RX4) (T := TX4) (N := 2) hx hb hts hwX4 hown hE.K hP 0 rfl rfl 1 (by decide) (hts (.fieldLink RX4 16 "SedgeBarges" "ahead" "LSedgeBarges$Waterway;") (List.mem_of_getElem? (i := 3) rfl)) (fun _ h9 => h9) rfl dX4_foresee_48 ?_
    refine lv_iload_n hx hb dX4_foresee_51 rfl (lv_at hl 1 rfl) ?_
    refine goI ([oX ox a a2] ++ (wWay cA a dy co ti ro u n B ch v nb G w T ++ ([]))) ([]) hP hD hS hA (rnV (rest := []) (c_Way_days sa tb D cA cL l a2 dy co ti ro u2 n (cpB n B B2) ch2 v2 nb (cpG nb G G2) w2 (cpT T T2) d (show n ≤ 8 from by first | omega | assumption | decide) (show nb ≤ 3 from by first | omega | assumption | decide) (show d < 1000 from by first | omega | assumption | decide)) ([oX ox a a2] ++ (wWay cA a dy co ti ro u n B ch v nb G w T ++ ([]))) ([]) hP hD hS hA hE ⟨hx, hb, hml, hown, hts⟩ (cwV 1 hts gX4_foresee_X3_passDays rfl rfl rfl (by decide +kernel) ⟨(Nat.le_of_ble_eq_true rfl), (Nat.le_of_ble_eq_true rfl)⟩) 3 0 rfl rfl rfl rfl hl.1 rfl (Nat.le_of_ble_eq_true rfl) dX4_foresee_52 ⟨(Nat.le_of_ble_eq_true rfl), (Nat.le_of_ble_eq_true rfl)⟩) (fun _ => rfl) (fun r_52 u_52 H locs hw_52 hP hD hS => ?_)
    have hP : va_P D vwCl (wX cA ox a dy co ti ro u n B ch v nb G w T a2 ((daysS n nb d (dy, ro, (cpB n B B2), (cpG nb G G2), (cpT T T2))).1) co ti ((daysS n nb d (dy, ro, (cpB n B B2), (cpG nb G G2), (cpT T T2))).2.1) u2 n ((daysS n nb d (dy, ro, (cpB n B B2), (cpG nb G G2), (cpT T T2))).2.2.1) u_52 v2 nb ((daysS n nb d (dy, ro, (cpB n B B2), (cpG nb G G2), (cpT T T2))).2.2.2.1) w2 ((daysS n nb d (dy, ro, (cpB n B B2), (cpG nb G G2), (cpT T T2))).2.2.2.2)) H := hP
    have hD : va_D A (wX cA ox a dy co ti ro u n B ch v nb G w T a2 ((daysS n nb d (dy, ro, (cpB n B B2), (cpG nb G G2), (cpT T T2))).1) co ti ((daysS n nb d (dy, ro, (cpB n B B2), (cpG nb G G2), (cpT T T2))).2.1) u2 n ((daysS n nb d (dy, ro, (cpB n B B2), (cpG nb G G2), (cpT T T2))).2.2.1) u_52 v2 nb ((daysS n nb d (dy, ro, (cpB n B B2), (cpG nb G G2), (cpT T T2))).2.2.2.1) w2 ((daysS n nb d (dy, ro, (cpB n B B2), (cpG nb G G2), (cpT T T2))).2.2.2.2)) := hD
    obtain rfl : r_52 = (daysS n nb d (dy, ro, (cpB n B B2), (cpG nb G G2), (cpT T T2))).2.1 - ro := hw_52
    refine lv_pop hx hb dX4_foresee_55 rfl ?_
    refine lv_aload_n hx hb dX4_foresee_56 rfl (lv_at hl 0 rfl) ?_
    refine va_get (D := D) (ci := 4) (v := .ref (a2 0)) (C := RX4) (T := TX4) (N := 2) hx hb hts hwX4 hown hE.K hP 0 rfl rfl 1 (by decide) (hts (.fieldLink RX4 16 "SedgeBarges" "ahead" "LSedgeBarges$Waterway;") (List.mem_of_getElem? (i := 3) rfl)) (fun _ h9 => h9) rfl dX4_foresee_57 ?_
    refine lv_iload_n hx hb dX4_foresee_60 rfl (lv_at hl 2 rfl) ?_
    refine goI ([oX ox a a2] ++ (wWay cA a dy co ti ro u n B ch v nb G w T ++ ([]))) ([]) hP hD hS hA (rnV (rest := []) (c_Way_tell sa tb D cA cL l a2 ((daysS n nb d (dy, ro, (cpB n B B2), (cpG nb G G2), (cpT T T2))).1) co ti ((daysS n nb d (dy, ro, (cpB n B B2), (cpG nb G G2), (cpT T T2))).2.1) u2 n ((daysS n nb d (dy, ro, (cpB n B B2), (cpG nb G G2), (cpT T T2))).2.2.1) u_52 v2 nb ((daysS n nb d (dy, ro, (cpB n B B2), (cpG nb G G2), (cpT T T2))).2.2.2.1) w2 ((daysS n nb d (dy, ro, (cpB n B B2), (cpG nb G G2), (cpT T T2))).2.2.2.2) 10 (show n ≤ 8 from by first | omega | assumption | decide) (show nb ≤ 3 from by first | omega | assumption | decide) (show 10 < 11 from by first | omega | assumption | decide)) ([oX ox a a2] ++ (wWay cA a dy co ti ro u n B ch v nb G w T ++ ([]))) ([]) hP hD hS hA hE ⟨hx, hb, hml, hown, hts⟩ (cwV 1 hts gX4_foresee_X3_tell rfl rfl rfl (by decide +kernel) ⟨(Nat.le_of_ble_eq_true rfl), (Nat.le_of_ble_eq_true rfl)⟩) 3 0 rfl rfl rfl rfl hl.1 rfl (Nat.le_of_ble_eq_true rfl) dX4_foresee_61 ⟨(Nat.le_of_ble_eq_true rfl), (Nat.le_of_ble_eq_true rfl)⟩) (fun _ => rfl) (fun r_61 u_61 H locs hw_61 hP hD hS => ?_)
    have hP : va_P D vwCl (wX cA ox a dy co ti ro u n B ch v nb G w T a2 ((daysS n nb d (dy, ro, (cpB n B B2), (cpG nb G G2), (cpT T T2))).1) co ti ((daysS n nb d (dy, ro, (cpB n B B2), (cpG nb G G2), (cpT T T2))).2.1) u2 n ((daysS n nb d (dy, ro, (cpB n B B2), (cpG nb G G2), (cpT T T2))).2.2.1) u_52 v2 nb ((daysS n nb d (dy, ro, (cpB n B B2), (cpG nb G G2), (cpT T T2))).2.2.2.1) w2 ((daysS n nb d (dy, ro, (cpB n B B2), (cpG nb G G2), (cpT T T2))).2.2.2.2)) H := hP
    have hD : va_D A (wX cA ox a dy co ti ro u n B ch v nb G w T a2 ((daysS n nb d (dy, ro, (cpB n B B2), (cpG nb G G2), (cpT T T2))).1) co ti ((daysS n nb d (dy, ro, (cpB n B B2), (cpG nb G G2), (cpT T T2))).2.1) u2 n ((daysS n nb d (dy, ro, (cpB n B B2), (cpG nb G G2), (cpT T T2))).2.2.1) u_52 v2 nb ((daysS n nb d (dy, ro, (cpB n B B2), (cpG nb G G2), (cpT T T2))).2.2.2.1) w2 ((daysS n nb d (dy, ro, (cpB n B B2), (cpG nb G G2), (cpT T T2))).2.2.2.2)) := hD
    obtain rfl : r_61 = tellW ((daysS n nb d (dy, ro, (cpB n B B2), (cpG nb G G2), (cpT T T2))).1) co ti ((daysS n nb d (dy, ro, (cpB n B B2), (cpG nb G G2), (cpT T T2))).2.1) n ((daysS n nb d (dy, ro, (cpB n B B2), (cpG nb G G2), (cpT T T2))).2.2.1) nb ((daysS n nb d (dy, ro, (cpB n B B2), (cpG nb G G2), (cpT T T2))).2.2.2.1) ((daysS n nb d (dy, ro, (cpB n B B2), (cpG nb G G2), (cpT T T2))).2.2.2.2) 10 := hw_61
    exact enI ((daysS n nb d (dy, ro, (cpB n B B2), (cpG nb G G2), (cpT T T2))).1, co, ti, (daysS n nb d (dy, ro, (cpB n B B2), (cpG nb G G2), (cpT T T2))).2.1, (daysS n nb d (dy, ro, (cpB n B B2), (cpG nb G G2), (cpT T T2))).2.2.1, u_52, (daysS n nb d (dy, ro, (cpB n B B2), (cpG nb G G2), (cpT T T2))).2.2.2.1, (daysS n nb d (dy, ro, (cpB n B B2), (cpG nb G G2), (cpT T T2))).2.2.2.2) hx hb hr hlocks hS hP (rfl) dX4_foresee_64
set_option maxRecDepth 100000 in
set_option maxHeartbeats 4000000 in
theorem c_digest (sa : Nat × Nat × (Nat → Int32)) (tb : Nat → Nat) (D : va_G) (cA cL : ClassId) (l : Launch) (ox : Nat) (a : Nat → Nat) (dy : Int32) (co : Int32) (ti : Int32) (ro : Int32) (u : Nat → Nat) (n : Nat) (B : Nat → Nat → Int32) (ch : Nat → Int32) (v : Nat → Nat) (nb : Nat) (G : Nat → Nat → Int32) (w : Nat) (T : Nat → Int32) (a2 : Nat → Nat) (dy2 : Int32) (co2 : Int32) (ti2 : Int32) (ro2 : Int32) (u2 : Nat → Nat) (n2 : Nat) (B2 : Nat → Nat → Int32) (ch2 : Nat → Int32) (v2 : Nat → Nat) (nb2 : Nat) (G2 : Nat → Nat → Int32) (w2 : Nat) (T2 : Nat → Int32) (hn : n ≤ 8) (hnb : nb ≤ 3) : KM sa tb D cA cL l yX4_digest wsX4_digest ({ frames := 4, cells := 0, slots := 0, locals := 88 }) [.ref ox] (wX cA ox a dy co ti ro u n B ch v nb G w T a2 dy2 co2 ti2 ro2 u2 n2 B2 ch2 v2 nb2 G2 w2 T2) (qL D (fun (r : Int64) (_ : Unit) => r = digF dy co ti ro n B nb G T) (fun _ => wX cA ox a dy co ti ro u n B ch v nb G w T a2 dy2 co2 ti2 ro2 u2 n2 B2 ch2 v2 nb2 G2 w2 T2)) := by
  refine KM.of (cc := cX4_digest) (maxL := 5) (ret := some .long) (by decide) rfl (Nat.le_of_ble_eq_true rfl) ?_
  intro pg e s m args below meth c A hx hb hr hml hlocks hts hown hS hA hE hP hD ls hl
  have hown : s.vm.findClass RX4 = some m.cls := hown
  have hl : lv_has ls 5 [(0, .ref ox)] := hl
  have hwX0 : ∀ w ∈ wsX00, w ∈ wsX4_digest := (fun _ h => List.mem_cons_of_mem _ (List.mem_append_left _ (List.mem_append_right _ h)))
  have hwX1 : ∀ w ∈ wsX10, w ∈ wsX4_digest := (fun _ h => List.mem_cons_of_mem _ (List.mem_append_left _ (List.mem_append_left _ (List.mem_append_right _ h))))
  have hwX3 : ∀ w ∈ wsX30, w ∈ wsX4_digest := (fun _ h => List.mem_cons_of_mem _ (List.mem_append_left _ (List.mem_append_left _ (List.mem_append_left _ (List.mem_append_right _ h)))))
  have hwX4 : ∀ w ∈ wsX40, w ∈ wsX4_digest := (fun _ h => List.mem_cons_of_mem _ (List.mem_append_left _ (List.mem_append_left _ (List.mem_append_left _ (List.mem_append_left _ (List.mem_append_right _ h))))))
  refine lv_ldc2 (v := 1277) hx hb hown (hts (.constantLong RX4 173 1277) (List.mem_of_getElem? (i := 1) rfl)) dX4_digest_0 ?_
  refine lv_lstore_n (lv' := [(1, .long 1277), (0, .ref ox)]) hx hb dX4_digest_3 rfl hl (by decide) rfl (fun ls hl => ?_)
  refine lv_iconst (v := 0) hx hb dX4_digest_4 (by decide) ?_
  refine lv_istore_n (lv' := [(3, .int 0), (1, .long 1277), (0, .ref ox)]) hx hb dX4_digest_5 rfl hl (by decide) rfl (fun ls hl => ?_)
  refine lv_iload_n hx hb dX4_digest_6 rfl (lv_at hl 0 rfl) ?_
  refine lv_bipush (v := 11) hx hb dX4_digest_7 (by decide) ?_
  refine lv_icmp_ge (tgt := 34) hx hb dX4_digest_9 (by decide) (fun q => absurd q (by decide)) (fun _ => ?_)
  refine lv_lload_n hx hb dX4_digest_12 rfl (lv_at hl 1 rfl) ?_
  refine lv_ldc2 (v := 31) hx hb hown (hts (.constantLong RX4 175 31) (List.mem_of_getElem? (i := 2) rfl)) dX4_digest_13 ?_
  refine lv_lmul hx hb dX4_digest_16 ?_
  refine lv_aload_n hx hb dX4_digest_17 rfl (lv_at hl 2 rfl) ?_
  refine va_get (D := D) (ci := 4) (v := .ref (a 0)) (C := RX4) (T := TX4) (N := 2) hx hb hts hwX4 hown hE.K hP 0 rfl rfl 0 (by decide) (hts (.fieldLink RX4 10 "SedgeBarges" "now" "LSedgeBarges$Waterway;") (List.mem_of_getElem? (i := 3) rfl)) (fun _ h9 => h9) rfl dX4_digest_18 ?_
  refine lv_iload_n hx hb dX4_digest_21 rfl (lv_at hl 0 rfl) ?_
  refine goI ([oX ox a a2]) (wWay cA a2 dy2 co2 ti2 ro2 u2 n2 B2 ch2 v2 nb2 G2 w2 T2) hP hD hS hA (rnV (rest := [.long (1277 * 31)]) (c_Way_tell sa tb D cA cL l a dy co ti ro u n B ch v nb G w T 0 (show n ≤ 8 from by first | omega | assumption | decide) (show nb ≤ 3 from by first | omega | assumption | decide) (show 0 < 11 from by first | omega | assumption | decide)) ([oX ox a a2]) (wWay cA a2 dy2 co2 ti2 ro2 u2 n2 B2 ch2 v2 nb2 G2 w2 T2) hP hD hS hA hE ⟨hx, hb, hml, hown, hts⟩ (cwV 1 hts gX4_digest_X3_tell rfl rfl rfl (by decide +kernel) ⟨(Nat.le_of_ble_eq_true rfl), (Nat.le_of_ble_eq_true rfl)⟩) 3 0 rfl rfl rfl rfl hl.1 rfl (Nat.le_of_ble_eq_true rfl) dX4_digest_22 ⟨(Nat.le_of_ble_eq_true rfl), (Nat.le_of_ble_eq_true rfl)⟩) (fun _ => rfl) (fun r_22 u_22 H locs hw_22 hP hD hS => ?_)
  have hP : va_P D vwCl (wX cA ox a dy co ti ro u n B ch v nb G w T a2 dy2 co2 ti2 ro2 u2 n2 B2 ch2 v2 nb2 G2 w2 T2) H := hP
  have hD : va_D A (wX cA ox a dy co ti ro u n B ch v nb G w T a2 dy2 co2 ti2 ro2 u2 n2 B2 ch2 v2 nb2 G2 w2 T2) := hD
  refine w_eqi (show r_22 = tellW dy co ti ro n B nb G T 0 from hw_22) ?_
  refine lv_i2l (v := (tellW dy co ti ro n B nb G T 0 : Int32).toInt64) hx hb dX4_digest_25 rfl ?_
  refine lv_ladd hx hb dX4_digest_26 ?_
  refine lv_lstore_n (lv' := [(1, .long ((1277 * 31) + (Int32.toInt64 (tellW dy co ti ro n B nb G T 0)))), (3, .int 0), (0, .ref ox)]) hx hb dX4_digest_27 rfl hl (by decide) rfl (fun ls hl => ?_)
  refine lv_iinc (v := 1) (lv' := [(3, .int 1), (1, .long ((1277 * 31) + (Int32.toInt64 (tellW dy co ti ro n B nb G T 0)))), (0, .ref ox)]) (k := 1) hx hb dX4_digest_28 hl rfl (by decide) (by decide) rfl (fun ls hl => ?_)
  refine lv_goto (tgt := 6) hx hb dX4_digest_31 (by decide) ?_
  refine lv_iload_n hx hb dX4_digest_6 rfl (lv_at hl 0 rfl) ?_
  refine lv_bipush (v := 11) hx hb dX4_digest_7 (by decide) ?_
  refine lv_icmp_ge (tgt := 34) hx hb dX4_digest_9 (by decide) (fun q => absurd q (by decide)) (fun _ => ?_)
  refine lv_lload_n hx hb dX4_digest_12 rfl (lv_at hl 1 rfl) ?_
  refine lv_ldc2 (v := 31) hx hb hown (hts (.constantLong RX4 175 31) (List.mem_of_getElem? (i := 2) rfl)) dX4_digest_13 ?_
  refine lv_lmul hx hb dX4_digest_16 ?_
  refine lv_aload_n hx hb dX4_digest_17 rfl (lv_at hl 2 rfl) ?_
  refine va_get (D := D) (ci := 4) (v := .ref (a 0)) (C := RX4) (T := TX4) (N := 2) hx hb hts hwX4 hown hE.K hP 0 rfl rfl 0 (by decide) (hts (.fieldLink RX4 10 "SedgeBarges" "now" "LSedgeBarges$Waterway;") (List.mem_of_getElem? (i := 3) rfl)) (fun _ h9 => h9) rfl dX4_digest_18 ?_
  refine lv_iload_n hx hb dX4_digest_21 rfl (lv_at hl 0 rfl) ?_
  refine goI ([oX ox a a2]) (wWay cA a2 dy2 co2 ti2 ro2 u2 n2 B2 ch2 v2 nb2 G2 w2 T2) hP hD hS hA (rnV (rest := [.long (((1277 * 31) + (Int32.toInt64 (tellW dy co ti ro n B nb G T 0))) * 31)]) (c_Way_tell sa tb D cA cL l a dy co ti ro u n B ch v nb G w T 1 (show n ≤ 8 from by first | omega | assumption | decide) (show nb ≤ 3 from by first | omega | assumption | decide) (show 1 < 11 from by first | omega | assumption | decide)) ([oX ox a a2]) (wWay cA a2 dy2 co2 ti2 ro2 u2 n2 B2 ch2 v2 nb2 G2 w2 T2) hP hD hS hA hE ⟨hx, hb, hml, hown, hts⟩ (cwV 1 hts gX4_digest_X3_tell rfl rfl rfl (by decide +kernel) ⟨(Nat.le_of_ble_eq_true rfl), (Nat.le_of_ble_eq_true rfl)⟩) 3 0 rfl rfl rfl rfl hl.1 rfl (Nat.le_of_ble_eq_true rfl) dX4_digest_22 ⟨(Nat.le_of_ble_eq_true rfl), (Nat.le_of_ble_eq_true rfl)⟩) (fun _ => rfl) (fun r_22 u_22 H locs hw_22 hP hD hS => ?_)
  have hP : va_P D vwCl (wX cA ox a dy co ti ro u n B ch v nb G w T a2 dy2 co2 ti2 ro2 u2 n2 B2 ch2 v2 nb2 G2 w2 T2) H := hP
  have hD : va_D A (wX cA ox a dy co ti ro u n B ch v nb G w T a2 dy2 co2 ti2 ro2 u2 n2 B2 ch2 v2 nb2 G2 w2 T2) := hD
  refine w_eqi (show r_22 = tellW dy co ti ro n B nb G T 1 from hw_22) ?_
  refine lv_i2l (v := (tellW dy co ti ro n B nb G T 1 : Int32).toInt64) hx hb dX4_digest_25 rfl ?_
  refine lv_ladd hx hb dX4_digest_26 ?_
  refine lv_lstore_n (lv' := [(1, .long ((((1277 * 31) + (Int32.toInt64 (tellW dy co ti ro n B nb G T 0))) * 31) + (Int32.toInt64 (tellW dy co ti ro n B nb G T 1)))), (3, .int 1), (0, .ref ox)]) hx hb dX4_digest_27 rfl hl (by decide) rfl (fun ls hl => ?_)
  refine lv_iinc (v := 2) (lv' := [(3, .int 2), (1, .long ((((1277 * 31) + (Int32.toInt64 (tellW dy co ti ro n B nb G T 0))) * 31) + (Int32.toInt64 (tellW dy co ti ro n B nb G T 1)))), (0, .ref ox)]) (k := 1) hx hb dX4_digest_28 hl rfl (by decide) (by decide) rfl (fun ls hl => ?_)
  refine lv_goto (tgt := 6) hx hb dX4_digest_31 (by decide) ?_
  refine lv_iload_n hx hb dX4_digest_6 rfl (lv_at hl 0 rfl) ?_
  refine lv_bipush (v := 11) hx hb dX4_digest_7 (by decide) ?_
  refine lv_icmp_ge (tgt := 34) hx hb dX4_digest_9 (by decide) (fun q => absurd q (by decide)) (fun _ => ?_)
  refine lv_lload_n hx hb dX4_digest_12 rfl (lv_at hl 1 rfl) ?_
  refine lv_ldc2 (v := 31) hx hb hown (hts (.constantLong RX4 175 31) (List.mem_of_getElem? (i := 2) rfl)) dX4_digest_13 ?_
  refine lv_lmul hx hb dX4_digest_16 ?_
  refine lv_aload_n hx hb dX4_digest_17 rfl (lv_at hl 2 rfl) ?_
  refine va_get (D := D) (ci := 4) (v := .ref (a 0)) (C := RX4) (T := TX4) (N := 2) hx hb hts hwX4 hown hE.K hP 0 rfl rfl 0 (by decide) (hts (.fieldLink RX4 10 "SedgeBarges" "now" "LSedgeBarges$Waterway;") (List.mem_of_getElem? (i := 3) rfl)) (fun _ h9 => h9) rfl dX4_digest_18 ?_
  refine lv_iload_n hx hb dX4_digest_21 rfl (lv_at hl 0 rfl) ?_
  refine goI ([oX ox a a2]) (wWay cA a2 dy2 co2 ti2 ro2 u2 n2 B2 ch2 v2 nb2 G2 w2 T2) hP hD hS hA (rnV (rest := [.long (((((1277 * 31) + (Int32.toInt64 (tellW dy co ti ro n B nb G T 0))) * 31) + (Int32.toInt64 (tellW dy co ti ro n B nb G T 1))) * 31)]) (c_Way_tell sa tb D cA cL l a dy co ti ro u n B ch v nb G w T 2 (show n ≤ 8 from by first | omega | assumption | decide) (show nb ≤ 3 from by first | omega | assumption | decide) (show 2 < 11 from by first | omega | assumption | decide)) ([oX ox a a2]) (wWay cA a2 dy2 co2 ti2 ro2 u2 n2 B2 ch2 v2 nb2 G2 w2 T2) hP hD hS hA hE ⟨hx, hb, hml, hown, hts⟩ (cwV 1 hts gX4_digest_X3_tell rfl rfl rfl (by decide +kernel) ⟨(Nat.le_of_ble_eq_true rfl), (Nat.le_of_ble_eq_true rfl)⟩) 3 0 rfl rfl rfl rfl hl.1 rfl (Nat.le_of_ble_eq_true rfl) dX4_digest_22 ⟨(Nat.le_of_ble_eq_true rfl), (Nat.le_of_ble_eq_true rfl)⟩) (fun _ => rfl) (fun r_22 u_22 H locs hw_22 hP hD hS => ?_)
  have hP : va_P D vwCl (wX cA ox a dy co ti ro u n B ch v nb G w T a2 dy2 co2 ti2 ro2 u2 n2 B2 ch2 v2 nb2 G2 w2 T2) H := hP
  have hD : va_D A (wX cA ox a dy co ti ro u n B ch v nb G w T a2 dy2 co2 ti2 ro2 u2 n2 B2 ch2 v2 nb2 G2 w2 T2) := hD
  refine w_eqi (show r_22 = tellW dy co ti ro n B nb G T 2 from hw_22) ?_
  refine lv_i2l (v := (tellW dy co ti ro n B nb G T 2 : Int32).toInt64) hx hb dX4_digest_25 rfl ?_
  refine lv_ladd hx hb dX4_digest_26 ?_
  refine lv_lstore_n (lv' := [(1, .long ((((((1277 * 31) + (Int32.toInt64 (tellW dy co ti ro n B nb G T 0))) * 31) + (Int32.toInt64 (tellW dy co ti ro n B nb G T 1))) * 31) + (Int32.toInt64 (tellW dy co ti ro n B nb G T 2)))), (3, .int 2), (0, .ref ox)]) hx hb dX4_digest_27 rfl hl (by decide) rfl (fun ls hl => ?_)
  refine lv_iinc (v := 3) (lv' := [(3, .int 3), (1, .long ((((((1277 * 31) + (Int32.toInt64 (tellW dy co ti ro n B nb G T 0))) * 31) + (Int32.toInt64 (tellW dy co ti ro n B nb G T 1))) * 31) + (Int32.toInt64 (tellW dy co ti ro n B nb G T 2)))), (0, .ref ox)]) (k := 1) hx hb dX4_digest_28 hl rfl (by decide) (by decide) rfl (fun ls hl => ?_)
  refine lv_goto (tgt := 6) hx hb dX4_digest_31 (by decide) ?_
  refine lv_iload_n hx hb dX4_digest_6 rfl (lv_at hl 0 rfl) ?_
  refine lv_bipush (v := 11) hx hb dX4_digest_7 (by decide) ?_
  refine lv_icmp_ge (tgt := 34) hx hb dX4_digest_9 (by decide) (fun q => absurd q (by decide)) (fun _ => ?_)
  refine lv_lload_n hx hb dX4_digest_12 rfl (lv_at hl 1 rfl) ?_
  refine lv_ldc2 (v := 31) hx hb hown (hts (.constantLong RX4 175 31) (List.mem_of_getElem? (i := 2) rfl)) dX4_digest_13 ?_
  refine lv_lmul hx hb dX4_digest_16 ?_
  refine lv_aload_n hx hb dX4_digest_17 rfl (lv_at hl 2 rfl) ?_
  refine va_get (D := D) (ci := 4) (v := .ref (a 0)) (C := RX4) (T := TX4) (N := 2) hx hb hts hwX4 hown hE.K hP 0 rfl rfl 0 (by decide) (hts (.fieldLink RX4 10 "SedgeBarges" "now" "LSedgeBarges$Waterway;") (List.mem_of_getElem? (i := 3) rfl)) (fun _ h9 => h9) rfl dX4_digest_18 ?_
  refine lv_iload_n hx hb dX4_digest_21 rfl (lv_at hl 0 rfl) ?_
  refine goI ([oX ox a a2]) (wWay cA a2 dy2 co2 ti2 ro2 u2 n2 B2 ch2 v2 nb2 G2 w2 T2) hP hD hS hA (rnV (rest := [.long (((((((1277 * 31) + (Int32.toInt64 (tellW dy co ti ro n B nb G T 0))) * 31) + (Int32.toInt64 (tellW dy co ti ro n B nb G T 1))) * 31) + (Int32.toInt64 (tellW dy co ti ro n B nb G T 2))) * 31)]) (c_Way_tell sa tb D cA cL l a dy co ti ro u n B ch v nb G w T 3 (show n ≤ 8 from by first | omega | assumption | decide) (show nb ≤ 3 from by first | omega | assumption | decide) (show 3 < 11 from by first | omega | assumption | decide)) ([oX ox a a2]) (wWay cA a2 dy2 co2 ti2 ro2 u2 n2 B2 ch2 v2 nb2 G2 w2 T2) hP hD hS hA hE ⟨hx, hb, hml, hown, hts⟩ (cwV 1 hts gX4_digest_X3_tell rfl rfl rfl (by decide +kernel) ⟨(Nat.le_of_ble_eq_true rfl), (Nat.le_of_ble_eq_true rfl)⟩) 3 0 rfl rfl rfl rfl hl.1 rfl (Nat.le_of_ble_eq_true rfl) dX4_digest_22 ⟨(Nat.le_of_ble_eq_true rfl), (Nat.le_of_ble_eq_true rfl)⟩) (fun _ => rfl) (fun r_22 u_22 H locs hw_22 hP hD hS => ?_)
  have hP : va_P D vwCl (wX cA ox a dy co ti ro u n B ch v nb G w T a2 dy2 co2 ti2 ro2 u2 n2 B2 ch2 v2 nb2 G2 w2 T2) H := hP
  have hD : va_D A (wX cA ox a dy co ti ro u n B ch v nb G w T a2 dy2 co2 ti2 ro2 u2 n2 B2 ch2 v2 nb2 G2 w2 T2) := hD
  refine w_eqi (show r_22 = tellW dy co ti ro n B nb G T 3 from hw_22) ?_
  refine lv_i2l (v := (tellW dy co ti ro n B nb G T 3 : Int32).toInt64) hx hb dX4_digest_25 rfl ?_
  refine lv_ladd hx hb dX4_digest_26 ?_
  refine lv_lstore_n (lv' := [(1, .long ((((((((1277 * 31) + (Int32.toInt64 (tellW dy co ti ro n B nb G T 0))) * 31) + (Int32.toInt64 (tellW dy co ti ro n B nb G T 1))) * 31) + (Int32.toInt64 (tellW dy co ti ro n B nb G T 2))) * 31) + (Int32.toInt64 (tellW dy co ti ro n B nb G T 3)))), (3, .int 3), (0, .ref ox)]) hx hb dX4_digest_27 rfl hl (by decide) rfl (fun ls hl => ?_)
  refine lv_iinc (v := 4) (lv' := [(3, .int 4), (1, .long ((((((((1277 * 31) + (Int32.toInt64 (tellW dy co ti ro n B nb G T 0))) * 31) + (Int32.toInt64 (tellW dy co ti ro n B nb G T 1))) * 31) + (Int32.toInt64 (tellW dy co ti ro n B nb G T 2))) * 31) + (Int32.toInt64 (tellW dy co ti ro n B nb G T 3)))), (0, .ref ox)]) (k := 1) hx hb dX4_digest_28 hl rfl (by decide) (by decide) rfl (fun ls hl => ?_)
  refine lv_goto (tgt := 6) hx hb dX4_digest_31 (by decide) ?_
  refine lv_iload_n hx hb dX4_digest_6 rfl (lv_at hl 0 rfl) ?_
  refine lv_bipush (v := 11) hx hb dX4_digest_7 (by decide) ?_
  refine lv_icmp_ge (tgt := 34) hx hb dX4_digest_9 (by decide) (fun q => absurd q (by decide)) (fun _ => ?_)
  refine lv_lload_n hx hb dX4_digest_12 rfl (lv_at hl 1 rfl) ?_
  refine lv_ldc2 (v := 31) hx hb hown (hts (.constantLong RX4 175 31) (List.mem_of_getElem? (i := 2) rfl)) dX4_digest_13 ?_
  refine lv_lmul hx hb dX4_digest_16 ?_
  refine lv_aload_n hx hb dX4_digest_17 rfl (lv_at hl 2 rfl) ?_
  refine va_get (D := D) (ci := 4) (v := .ref (a 0)) (C := RX4) (T := TX4) (N := 2) hx hb hts hwX4 hown hE.K hP 0 rfl rfl 0 (by decide) (hts (.fieldLink RX4 10 "SedgeBarges" "now" "LSedgeBarges$Waterway;") (List.mem_of_getElem? (i := 3) rfl)) (fun _ h9 => h9) rfl dX4_digest_18 ?_
  refine lv_iload_n hx hb dX4_digest_21 rfl (lv_at hl 0 rfl) ?_
  refine goI ([oX ox a a2]) (wWay cA a2 dy2 co2 ti2 ro2 u2 n2 B2 ch2 v2 nb2 G2 w2 T2) hP hD hS hA (rnV (rest := [.long (((((((((1277 * 31) + (Int32.toInt64 (tellW dy co ti ro n B nb G T 0))) * 31) + (Int32.toInt64 (tellW dy co ti ro n B nb G T 1))) * 31) + (Int32.toInt64 (tellW dy co ti ro n B nb G T 2))) * 31) + (Int32.toInt64 (tellW dy co ti ro n B nb G T 3))) * 31)]) (c_Way_tell sa tb D cA cL l a dy co ti ro u n B ch v nb G w T 4 (show n ≤ 8 from by first | omega | assumption | decide) (show nb ≤ 3 from by first | omega | assumption | decide) (show 4 < 11 from by first | omega | assumption | decide)) ([oX ox a a2]) (wWay cA a2 dy2 co2 ti2 ro2 u2 n2 B2 ch2 v2 nb2 G2 w2 T2) hP hD hS hA hE ⟨hx, hb, hml, hown, hts⟩ (cwV 1 hts gX4_digest_X3_tell rfl rfl rfl (by decide +kernel) ⟨(Nat.le_of_ble_eq_true rfl), (Nat.le_of_ble_eq_true rfl)⟩) 3 0 rfl rfl rfl rfl hl.1 rfl (Nat.le_of_ble_eq_true rfl) dX4_digest_22 ⟨(Nat.le_of_ble_eq_true rfl), (Nat.le_of_ble_eq_true rfl)⟩) (fun _ => rfl) (fun r_22 u_22 H locs hw_22 hP hD hS => ?_)
  have hP : va_P D vwCl (wX cA ox a dy co ti ro u n B ch v nb G w T a2 dy2 co2 ti2 ro2 u2 n2 B2 ch2 v2 nb2 G2 w2 T2) H := hP
  have hD : va_D A (wX cA ox a dy co ti ro u n B ch v nb G w T a2 dy2 co2 ti2 ro2 u2 n2 B2 ch2 v2 nb2 G2 w2 T2) := hD
  refine w_eqi (show r_22 = tellW dy co ti ro n B nb G T 4 from hw_22) ?_
  refine lv_i2l (v := (tellW dy co ti ro n B nb G T 4 : Int32).toInt64) hx hb dX4_digest_25 rfl ?_
  refine lv_ladd hx hb dX4_digest_26 ?_
  refine lv_lstore_n (lv' := [(1, .long ((((((((((1277 * 31) + (Int32.toInt64 (tellW dy co ti ro n B nb G T 0))) * 31) + (Int32.toInt64 (tellW dy co ti ro n B nb G T 1))) * 31) + (Int32.toInt64 (tellW dy co ti ro n B nb G T 2))) * 31) + (Int32.toInt64 (tellW dy co ti ro n B nb G T 3))) * 31) + (Int32.toInt64 (tellW dy co ti ro n B nb G T 4)))), (3, .int 4), (0, .ref ox)]) hx hb dX4_digest_27 rfl hl (by decide) rfl (fun ls hl => ?_)
  refine lv_iinc (v := 5) (lv' := [(3, .int 5), (1, .long ((((((((((1277 * 31) + (Int32.toInt64 (tellW dy co ti ro n B nb G T 0))) * 31) + (Int32.toInt64 (tellW dy co ti ro n B nb G T 1))) * 31) + (Int32.toInt64 (tellW dy co ti ro n B nb G T 2))) * 31) + (Int32.toInt64 (tellW dy co ti ro n B nb G T 3))) * 31) + (Int32.toInt64 (tellW dy co ti ro n B nb G T 4)))), (0, .ref ox)]) (k := 1) hx hb dX4_digest_28 hl rfl (by decide) (by decide) rfl (fun ls hl => ?_)
  refine lv_goto (tgt := 6) hx hb dX4_digest_31 (by decide) ?_
  refine lv_iload_n hx hb dX4_digest_6 rfl (lv_at hl 0 rfl) ?_
  refine lv_bipush (v := 11) hx hb dX4_digest_7 (by decide) ?_
  refine lv_icmp_ge (tgt := 34) hx hb dX4_digest_9 (by decide) (fun q => absurd q (by decide)) (fun _ => ?_)
  refine lv_lload_n hx hb dX4_digest_12 rfl (lv_at hl 1 rfl) ?_
  refine lv_ldc2 (v := 31) hx hb hown (hts (.constantLong RX4 175 31) (List.mem_of_getElem? (i := 2) rfl)) dX4_digest_13 ?_
  refine lv_lmul hx hb dX4_digest_16 ?_
  refine lv_aload_n hx hb dX4_digest_17 rfl (lv_at hl 2 rfl) ?_
  refine va_get (D := D) (ci := 4) (v := .ref (a 0)) (C := RX4) (T := TX4) (N := 2) hx hb hts hwX4 hown hE.K hP 0 rfl rfl 0 (by decide) (hts (.fieldLink RX4 10 "SedgeBarges" "now" "LSedgeBarges$Waterway;") (List.mem_of_getElem? (i := 3) rfl)) (fun _ h9 => h9) rfl dX4_digest_18 ?_
  refine lv_iload_n hx hb dX4_digest_21 rfl (lv_at hl 0 rfl) ?_
  refine goI ([oX ox a a2]) (wWay cA a2 dy2 co2 ti2 ro2 u2 n2 B2 ch2 v2 nb2 G2 w2 T2) hP hD hS hA (rnV (rest := [.long (((((((((((1277 * 31) + (Int32.toInt64 (tellW dy co ti ro n B nb G T 0))) * 31) + (Int32.toInt64 (tellW dy co ti ro n B nb G T 1))) * 31) + (Int32.toInt64 (tellW dy co ti ro n B nb G T 2))) * 31) + (Int32.toInt64 (tellW dy co ti ro n B nb G T 3))) * 31) + (Int32.toInt64 (tellW dy co ti ro n B nb G T 4))) * 31)]) (c_Way_tell sa tb D cA cL l a dy co ti ro u n B ch v nb G w T 5 (show n ≤ 8 from by first | omega | assumption | decide) (show nb ≤ 3 from by first | omega | assumption | decide) (show 5 < 11 from by first | omega | assumption | decide)) ([oX ox a a2]) (wWay cA a2 dy2 co2 ti2 ro2 u2 n2 B2 ch2 v2 nb2 G2 w2 T2) hP hD hS hA hE ⟨hx, hb, hml, hown, hts⟩ (cwV 1 hts gX4_digest_X3_tell rfl rfl rfl (by decide +kernel) ⟨(Nat.le_of_ble_eq_true rfl), (Nat.le_of_ble_eq_true rfl)⟩) 3 0 rfl rfl rfl rfl hl.1 rfl (Nat.le_of_ble_eq_true rfl) dX4_digest_22 ⟨(Nat.le_of_ble_eq_true rfl), (Nat.le_of_ble_eq_true rfl)⟩) (fun _ => rfl) (fun r_22 u_22 H locs hw_22 hP hD hS => ?_)
  have hP : va_P D vwCl (wX cA ox a dy co ti ro u n B ch v nb G w T a2 dy2 co2 ti2 ro2 u2 n2 B2 ch2 v2 nb2 G2 w2 T2) H := hP
  have hD : va_D A (wX cA ox a dy co ti ro u n B ch v nb G w T a2 dy2 co2 ti2 ro2 u2 n2 B2 ch2 v2 nb2 G2 w2 T2) := hD
  refine w_eqi (show r_22 = tellW dy co ti ro n B nb G T 5 from hw_22) ?_
  refine lv_i2l (v := (tellW dy co ti ro n B nb G T 5 : Int32).toInt64) hx hb dX4_digest_25 rfl ?_
  refine lv_ladd hx hb dX4_digest_26 ?_
  refine lv_lstore_n (lv' := [(1, .long ((((((((((((1277 * 31) + (Int32.toInt64 (tellW dy co ti ro n B nb G T 0))) * 31) + (Int32.toInt64 (tellW dy co ti ro n B nb G T 1))) * 31) + (Int32.toInt64 (tellW dy co ti ro n B nb G T 2))) * 31) + (Int32.toInt64 (tellW dy co ti ro n B nb G T 3))) * 31) + (Int32.toInt64 (tellW dy co ti ro n B nb G T 4))) * 31) + (Int32.toInt64 (tellW dy co ti ro n B nb G T 5)))), (3, .int 5), (0, .ref ox)]) hx hb dX4_digest_27 rfl hl (by decide) rfl (fun ls hl => ?_)
  refine lv_iinc (v := 6) (lv' := [(3, .int 6), (1, .long ((((((((((((1277 * 31) + (Int32.toInt64 (tellW dy co ti ro n B nb G T 0))) * 31) + (Int32.toInt64 (tellW dy co ti ro n B nb G T 1))) * 31) + (Int32.toInt64 (tellW dy co ti ro n B nb G T 2))) * 31) + (Int32.toInt64 (tellW dy co ti ro n B nb G T 3))) * 31) + (Int32.toInt64 (tellW dy co ti ro n B nb G T 4))) * 31) + (Int32.toInt64 (tellW dy co ti ro n B nb G T 5)))), (0, .ref ox)]) (k := 1) hx hb dX4_digest_28 hl rfl (by decide) (by decide) rfl (fun ls hl => ?_)
  refine lv_goto (tgt := 6) hx hb dX4_digest_31 (by decide) ?_
  refine lv_iload_n hx hb dX4_digest_6 rfl (lv_at hl 0 rfl) ?_
  refine lv_bipush (v := 11) hx hb dX4_digest_7 (by decide) ?_
  refine lv_icmp_ge (tgt := 34) hx hb dX4_digest_9 (by decide) (fun q => absurd q (by decide)) (fun _ => ?_)
  refine lv_lload_n hx hb dX4_digest_12 rfl (lv_at hl 1 rfl) ?_
  refine lv_ldc2 (v := 31) hx hb hown (hts (.constantLong RX4 175 31) (List.mem_of_getElem? (i := 2) rfl)) dX4_digest_13 ?_
  refine lv_lmul hx hb dX4_digest_16 ?_
  refine lv_aload_n hx hb dX4_digest_17 rfl (lv_at hl 2 rfl) ?_
  refine va_get (D := D) (ci := 4) (v := .ref (a 0)) (C := RX4) (T := TX4) (N := 2) hx hb hts hwX4 hown hE.K hP 0 rfl rfl 0 (by decide) (hts (.fieldLink RX4 10 "SedgeBarges" "now" "LSedgeBarges$Waterway;") (List.mem_of_getElem? (i := 3) rfl)) (fun _ h9 => h9) rfl dX4_digest_18 ?_
  refine lv_iload_n hx hb dX4_digest_21 rfl (lv_at hl 0 rfl) ?_
  refine goI ([oX ox a a2]) (wWay cA a2 dy2 co2 ti2 ro2 u2 n2 B2 ch2 v2 nb2 G2 w2 T2) hP hD hS hA (rnV (rest := [.long (((((((((((((1277 * 31) + (Int32.toInt64 (tellW dy co ti ro n B nb G T 0))) * 31) + (Int32.toInt64 (tellW dy co ti ro n B nb G T 1))) * 31) + (Int32.toInt64 (tellW dy co ti ro n B nb G T 2))) * 31) + (Int32.toInt64 (tellW dy co ti ro n B nb G T 3))) * 31) + (Int32.toInt64 (tellW dy co ti ro n B nb G T 4))) * 31) + (Int32.toInt64 (tellW dy co ti ro n B nb G T 5))) * 31)]) (c_Way_tell sa tb D cA cL l a dy co ti ro u n B ch v nb G w T 6 (show n ≤ 8 from by first | omega | assumption | decide) (show nb ≤ 3 from by first | omega | assumption | decide) (show 6 < 11 from by first | omega | assumption | decide)) ([oX ox a a2]) (wWay cA a2 dy2 co2 ti2 ro2 u2 n2 B2 ch2 v2 nb2 G2 w2 T2) hP hD hS hA hE ⟨hx, hb, hml, hown, hts⟩ (cwV 1 hts gX4_digest_X3_tell rfl rfl rfl (by decide +kernel) ⟨(Nat.le_of_ble_eq_true rfl), (Nat.le_of_ble_eq_true rfl)⟩) 3 0 rfl rfl rfl rfl hl.1 rfl (Nat.le_of_ble_eq_true rfl) dX4_digest_22 ⟨(Nat.le_of_ble_eq_true rfl), (Nat.le_of_ble_eq_true rfl)⟩) (fun _ => rfl) (fun r_22 u_22 H locs hw_22 hP hD hS => ?_)
  have hP : va_P D vwCl (wX cA ox a dy co ti ro u n B ch v nb G w T a2 dy2 co2 ti2 ro2 u2 n2 B2 ch2 v2 nb2 G2 w2 T2) H := hP
  have hD : va_D A (wX cA ox a dy co ti ro u n B ch v nb G w T a2 dy2 co2 ti2 ro2 u2 n2 B2 ch2 v2 nb2 G2 w2 T2) := hD
  refine w_eqi (show r_22 = tellW dy co ti ro n B nb G T 6 from hw_22) ?_
  refine lv_i2l (v := (tellW dy co ti ro n B nb G T 6 : Int32).toInt64) hx hb dX4_digest_25 rfl ?_
  refine lv_ladd hx hb dX4_digest_26 ?_
  refine lv_lstore_n (lv' := [(1, .long ((((((((((((((1277 * 31) + (Int32.toInt64 (tellW dy co ti ro n B nb G T 0))) * 31) + (Int32.toInt64 (tellW dy co ti ro n B nb G T 1))) * 31) + (Int32.toInt64 (tellW dy co ti ro n B nb G T 2))) * 31) + (Int32.toInt64 (tellW dy co ti ro n B nb G T 3))) * 31) + (Int32.toInt64 (tellW dy co ti ro n B nb G T 4))) * 31) + (Int32.toInt64 (tellW dy co ti ro n B nb G T 5))) * 31) + (Int32.toInt64 (tellW dy co ti ro n B nb G T 6)))), (3, .int 6), (0, .ref ox)]) hx hb dX4_digest_27 rfl hl (by decide) rfl (fun ls hl => ?_)
  refine lv_iinc (v := 7) (lv' := [(3, .int 7), (1, .long ((((((((((((((1277 * 31) + (Int32.toInt64 (tellW dy co ti ro n B nb G T 0))) * 31) + (Int32.toInt64 (tellW dy co ti ro n B nb G T 1))) * 31) + (Int32.toInt64 (tellW dy co ti ro n B nb G T 2))) * 31) + (Int32.toInt64 (tellW dy co ti ro n B nb G T 3))) * 31) + (Int32.toInt64 (tellW dy co ti ro n B nb G T 4))) * 31) + (Int32.toInt64 (tellW dy co ti ro n B nb G T 5))) * 31) + (Int32.toInt64 (tellW dy co ti ro n B nb G T 6)))), (0, .ref ox)]) (k := 1) hx hb dX4_digest_28 hl rfl (by decide) (by decide) rfl (fun ls hl => ?_)
  refine lv_goto (tgt := 6) hx hb dX4_digest_31 (by decide) ?_
  refine lv_iload_n hx hb dX4_digest_6 rfl (lv_at hl 0 rfl) ?_
  refine lv_bipush (v := 11) hx hb dX4_digest_7 (by decide) ?_
  refine lv_icmp_ge (tgt := 34) hx hb dX4_digest_9 (by decide) (fun q => absurd q (by decide)) (fun _ => ?_)
  refine lv_lload_n hx hb dX4_digest_12 rfl (lv_at hl 1 rfl) ?_
  refine lv_ldc2 (v := 31) hx hb hown (hts (.constantLong RX4 175 31) (List.mem_of_getElem? (i := 2) rfl)) dX4_digest_13 ?_
  refine lv_lmul hx hb dX4_digest_16 ?_
  refine lv_aload_n hx hb dX4_digest_17 rfl (lv_at hl 2 rfl) ?_
  refine va_get (D := D) (ci := 4) (v := .ref (a 0)) (C := RX4) (T := TX4) (N := 2) hx hb hts hwX4 hown hE.K hP 0 rfl rfl 0 (by decide) (hts (.fieldLink RX4 10 "SedgeBarges" "now" "LSedgeBarges$Waterway;") (List.mem_of_getElem? (i := 3) rfl)) (fun _ h9 => h9) rfl dX4_digest_18 ?_
  refine lv_iload_n hx hb dX4_digest_21 rfl (lv_at hl 0 rfl) ?_
  refine goI ([oX ox a a2]) (wWay cA a2 dy2 co2 ti2 ro2 u2 n2 B2 ch2 v2 nb2 G2 w2 T2) hP hD hS hA (rnV (rest := [.long (((((((((((((((1277 * 31) + (Int32.toInt64 (tellW dy co ti ro n B nb G T 0))) * 31) + (Int32.toInt64 (tellW dy co ti ro n B nb G T 1))) * 31) + (Int32.toInt64 (tellW dy co ti ro n B nb G T 2))) * 31) + (Int32.toInt64 (tellW dy co ti ro n B nb G T 3))) * 31) + (Int32.toInt64 (tellW dy co ti ro n B nb G T 4))) * 31) + (Int32.toInt64 (tellW dy co ti ro n B nb G T 5))) * 31) + (Int32.toInt64 (tellW dy co ti ro n B nb G T 6))) * 31)]) (c_Way_tell sa tb D cA cL l a dy co ti ro u n B ch v nb G w T 7 (show n ≤ 8 from by first | omega | assumption | decide) (show nb ≤ 3 from by first | omega | assumption | decide) (show 7 < 11 from by first | omega | assumption | decide)) ([oX ox a a2]) (wWay cA a2 dy2 co2 ti2 ro2 u2 n2 B2 ch2 v2 nb2 G2 w2 T2) hP hD hS hA hE ⟨hx, hb, hml, hown, hts⟩ (cwV 1 hts gX4_digest_X3_tell rfl rfl rfl (by decide +kernel) ⟨(Nat.le_of_ble_eq_true rfl), (Nat.le_of_ble_eq_true rfl)⟩) 3 0 rfl rfl rfl rfl hl.1 rfl (Nat.le_of_ble_eq_true rfl) dX4_digest_22 ⟨(Nat.le_of_ble_eq_true rfl), (Nat.le_of_ble_eq_true rfl)⟩) (fun _ => rfl) (fun r_22 u_22 H locs hw_22 hP hD hS => ?_)
  have hP : va_P D vwCl (wX cA ox a dy co ti ro u n B ch v nb G w T a2 dy2 co2 ti2 ro2 u2 n2 B2 ch2 v2 nb2 G2 w2 T2) H := hP
  have hD : va_D A (wX cA ox a dy co ti ro u n B ch v nb G w T a2 dy2 co2 ti2 ro2 u2 n2 B2 ch2 v2 nb2 G2 w2 T2) := hD
  refine w_eqi (show r_22 = tellW dy co ti ro n B nb G T 7 from hw_22) ?_
  refine lv_i2l (v := (tellW dy co ti ro n B nb G T 7 : Int32).toInt64) hx hb dX4_digest_25 rfl ?_
  refine lv_ladd hx hb dX4_digest_26 ?_
  refine lv_lstore_n (lv' := [(1, .long ((((((((((((((((1277 * 31) + (Int32.toInt64 (tellW dy co ti ro n B nb G T 0))) * 31) + (Int32.toInt64 (tellW dy co ti ro n B nb G T 1))) * 31) + (Int32.toInt64 (tellW dy co ti ro n B nb G T 2))) * 31) + (Int32.toInt64 (tellW dy co ti ro n B nb G T 3))) * 31) + (Int32.toInt64 (tellW dy co ti ro n B nb G T 4))) * 31) + (Int32.toInt64 (tellW dy co ti ro n B nb G T 5))) * 31) + (Int32.toInt64 (tellW dy co ti ro n B nb G T 6))) * 31) + (Int32.toInt64 (tellW dy co ti ro n B nb G T 7)))), (3, .int 7), (0, .ref ox)]) hx hb dX4_digest_27 rfl hl (by decide) rfl (fun ls hl => ?_)
  refine lv_iinc (v := 8) (lv' := [(3, .int 8), (1, .long ((((((((((((((((1277 * 31) + (Int32.toInt64 (tellW dy co ti ro n B nb G T 0))) * 31) + (Int32.toInt64 (tellW dy co ti ro n B nb G T 1))) * 31) + (Int32.toInt64 (tellW dy co ti ro n B nb G T 2))) * 31) + (Int32.toInt64 (tellW dy co ti ro n B nb G T 3))) * 31) + (Int32.toInt64 (tellW dy co ti ro n B nb G T 4))) * 31) + (Int32.toInt64 (tellW dy co ti ro n B nb G T 5))) * 31) + (Int32.toInt64 (tellW dy co ti ro n B nb G T 6))) * 31) + (Int32.toInt64 (tellW dy co ti ro n B nb G T 7)))), (0, .ref ox)]) (k := 1) hx hb dX4_digest_28 hl rfl (by decide) (by decide) rfl (fun ls hl => ?_)
  refine lv_goto (tgt := 6) hx hb dX4_digest_31 (by decide) ?_
  refine lv_iload_n hx hb dX4_digest_6 rfl (lv_at hl 0 rfl) ?_
  refine lv_bipush (v := 11) hx hb dX4_digest_7 (by decide) ?_
  refine lv_icmp_ge (tgt := 34) hx hb dX4_digest_9 (by decide) (fun q => absurd q (by decide)) (fun _ => ?_)
  refine lv_lload_n hx hb dX4_digest_12 rfl (lv_at hl 1 rfl) ?_
  refine lv_ldc2 (v := 31) hx hb hown (hts (.constantLong RX4 175 31) (List.mem_of_getElem? (i := 2) rfl)) dX4_digest_13 ?_
  refine lv_lmul hx hb dX4_digest_16 ?_
  refine lv_aload_n hx hb dX4_digest_17 rfl (lv_at hl 2 rfl) ?_
  refine va_get (D := D) (ci := 4) (v := .ref (a 0)) (C := RX4) (T := TX4) (N := 2) hx hb hts hwX4 hown hE.K hP 0 rfl rfl 0 (by decide) (hts (.fieldLink RX4 10 "SedgeBarges" "now" "LSedgeBarges$Waterway;") (List.mem_of_getElem? (i := 3) rfl)) (fun _ h9 => h9) rfl dX4_digest_18 ?_
  refine lv_iload_n hx hb dX4_digest_21 rfl (lv_at hl 0 rfl) ?_
  refine goI ([oX ox a a2]) (wWay cA a2 dy2 co2 ti2 ro2 u2 n2 B2 ch2 v2 nb2 G2 w2 T2) hP hD hS hA (rnV (rest := [.long (((((((((((((((((1277 * 31) + (Int32.toInt64 (tellW dy co ti ro n B nb G T 0))) * 31) + (Int32.toInt64 (tellW dy co ti ro n B nb G T 1))) * 31) + (Int32.toInt64 (tellW dy co ti ro n B nb G T 2))) * 31) + (Int32.toInt64 (tellW dy co ti ro n B nb G T 3))) * 31) + (Int32.toInt64 (tellW dy co ti ro n B nb G T 4))) * 31) + (Int32.toInt64 (tellW dy co ti ro n B nb G T 5))) * 31) + (Int32.toInt64 (tellW dy co ti ro n B nb G T 6))) * 31) + (Int32.toInt64 (tellW dy co ti ro n B nb G T 7))) * 31)]) (c_Way_tell sa tb D cA cL l a dy co ti ro u n B ch v nb G w T 8 (show n ≤ 8 from by first | omega | assumption | decide) (show nb ≤ 3 from by first | omega | assumption | decide) (show 8 < 11 from by first | omega | assumption | decide)) ([oX ox a a2]) (wWay cA a2 dy2 co2 ti2 ro2 u2 n2 B2 ch2 v2 nb2 G2 w2 T2) hP hD hS hA hE ⟨hx, hb, hml, hown, hts⟩ (cwV 1 hts gX4_digest_X3_tell rfl rfl rfl (by decide +kernel) ⟨(Nat.le_of_ble_eq_true rfl), (Nat.le_of_ble_eq_true rfl)⟩) 3 0 rfl rfl rfl rfl hl.1 rfl (Nat.le_of_ble_eq_true rfl) dX4_digest_22 ⟨(Nat.le_of_ble_eq_true rfl), (Nat.le_of_ble_eq_true rfl)⟩) (fun _ => rfl) (fun r_22 u_22 H locs hw_22 hP hD hS => ?_)
  have hP : va_P D vwCl (wX cA ox a dy co ti ro u n B ch v nb G w T a2 dy2 co2 ti2 ro2 u2 n2 B2 ch2 v2 nb2 G2 w2 T2) H := hP
  have hD : va_D A (wX cA ox a dy co ti ro u n B ch v nb G w T a2 dy2 co2 ti2 ro2 u2 n2 B2 ch2 v2 nb2 G2 w2 T2) := hD
  refine w_eqi (show r_22 = tellW dy co ti ro n B nb G T 8 from hw_22) ?_
  refine lv_i2l (v := (tellW dy co ti ro n B nb G T 8 : Int32).toInt64) hx hb dX4_digest_25 rfl ?_
  refine lv_ladd hx hb dX4_digest_26 ?_
  refine lv_lstore_n (lv' := [(1, .long ((((((((((((((((((1277 * 31) + (Int32.toInt64 (tellW dy co ti ro n B nb G T 0))) * 31) + (Int32.toInt64 (tellW dy co ti ro n B nb G T 1))) * 31) + (Int32.toInt64 (tellW dy co ti ro n B nb G T 2))) * 31) + (Int32.toInt64 (tellW dy co ti ro n B nb G T 3))) * 31) + (Int32.toInt64 (tellW dy co ti ro n B nb G T 4))) * 31) + (Int32.toInt64 (tellW dy co ti ro n B nb G T 5))) * 31) + (Int32.toInt64 (tellW dy co ti ro n B nb G T 6))) * 31) + (Int32.toInt64 (tellW dy co ti ro n B nb G T 7))) * 31) + (Int32.toInt64 (tellW dy co ti ro n B nb G T 8)))), (3, .int 8), (0, .ref ox)]) hx hb dX4_digest_27 rfl hl (by decide) rfl (fun ls hl => ?_)
  refine lv_iinc (v := 9) (lv' := [(3, .int 9), (1, .long ((((((((((((((((((1277 * 31) + (Int32.toInt64 (tellW dy co ti ro n B nb G T 0))) * 31) + (Int32.toInt64 (tellW dy co ti ro n B nb G T 1))) * 31) + (Int32.toInt64 (tellW dy co ti ro n B nb G T 2))) * 31) + (Int32.toInt64 (tellW dy co ti ro n B nb G T 3))) * 31) + (Int32.toInt64 (tellW dy co ti ro n B nb G T 4))) * 31) + (Int32.toInt64 (tellW dy co ti ro n B nb G T 5))) * 31) + (Int32.toInt64 (tellW dy co ti ro n B nb G T 6))) * 31) + (Int32.toInt64 (tellW dy co ti ro n B nb G T 7))) * 31) + (Int32.toInt64 (tellW dy co ti ro n B nb G T 8)))), (0, .ref ox)]) (k := 1) hx hb dX4_digest_28 hl rfl (by decide) (by decide) rfl (fun ls hl => ?_)
  refine lv_goto (tgt := 6) hx hb dX4_digest_31 (by decide) ?_
  refine lv_iload_n hx hb dX4_digest_6 rfl (lv_at hl 0 rfl) ?_
  refine lv_bipush (v := 11) hx hb dX4_digest_7 (by decide) ?_
  refine lv_icmp_ge (tgt := 34) hx hb dX4_digest_9 (by decide) (fun q => absurd q (by decide)) (fun _ => ?_)
  refine lv_lload_n hx hb dX4_digest_12 rfl (lv_at hl 1 rfl) ?_
  refine lv_ldc2 (v := 31) hx hb hown (hts (.constantLong RX4 175 31) (List.mem_of_getElem? (i := 2) rfl)) dX4_digest_13 ?_
  refine lv_lmul hx hb dX4_digest_16 ?_
  refine lv_aload_n hx hb dX4_digest_17 rfl (lv_at hl 2 rfl) ?_
  refine va_get (D := D) (ci := 4) (v := .ref (a 0)) (C := RX4) (T := TX4) (N := 2) hx hb hts hwX4 hown hE.K hP 0 rfl rfl 0 (by decide) (hts (.fieldLink RX4 10 "SedgeBarges" "now" "LSedgeBarges$Waterway;") (List.mem_of_getElem? (i := 3) rfl)) (fun _ h9 => h9) rfl dX4_digest_18 ?_
  refine lv_iload_n hx hb dX4_digest_21 rfl (lv_at hl 0 rfl) ?_
  refine goI ([oX ox a a2]) (wWay cA a2 dy2 co2 ti2 ro2 u2 n2 B2 ch2 v2 nb2 G2 w2 T2) hP hD hS hA (rnV (rest := [.long (((((((((((((((((((1277 * 31) + (Int32.toInt64 (tellW dy co ti ro n B nb G T 0))) * 31) + (Int32.toInt64 (tellW dy co ti ro n B nb G T 1))) * 31) + (Int32.toInt64 (tellW dy co ti ro n B nb G T 2))) * 31) + (Int32.toInt64 (tellW dy co ti ro n B nb G T 3))) * 31) + (Int32.toInt64 (tellW dy co ti ro n B nb G T 4))) * 31) + (Int32.toInt64 (tellW dy co ti ro n B nb G T 5))) * 31) + (Int32.toInt64 (tellW dy co ti ro n B nb G T 6))) * 31) + (Int32.toInt64 (tellW dy co ti ro n B nb G T 7))) * 31) + (Int32.toInt64 (tellW dy co ti ro n B nb G T 8))) * 31)]) (c_Way_tell sa tb D cA cL l a dy co ti ro u n B ch v nb G w T 9 (show n ≤ 8 from by first | omega | assumption | decide) (show nb ≤ 3 from by first | omega | assumption | decide) (show 9 < 11 from by first | omega | assumption | decide)) ([oX ox a a2]) (wWay cA a2 dy2 co2 ti2 ro2 u2 n2 B2 ch2 v2 nb2 G2 w2 T2) hP hD hS hA hE ⟨hx, hb, hml, hown, hts⟩ (cwV 1 hts gX4_digest_X3_tell rfl rfl rfl (by decide +kernel) ⟨(Nat.le_of_ble_eq_true rfl), (Nat.le_of_ble_eq_true rfl)⟩) 3 0 rfl rfl rfl rfl hl.1 rfl (Nat.le_of_ble_eq_true rfl) dX4_digest_22 ⟨(Nat.le_of_ble_eq_true rfl), (Nat.le_of_ble_eq_true rfl)⟩) (fun _ => rfl) (fun r_22 u_22 H locs hw_22 hP hD hS => ?_)
  have hP : va_P D vwCl (wX cA ox a dy co ti ro u n B ch v nb G w T a2 dy2 co2 ti2 ro2 u2 n2 B2 ch2 v2 nb2 G2 w2 T2) H := hP
  have hD : va_D A (wX cA ox a dy co ti ro u n B ch v nb G w T a2 dy2 co2 ti2 ro2 u2 n2 B2 ch2 v2 nb2 G2 w2 T2) := hD
  refine w_eqi (show r_22 = tellW dy co ti ro n B nb G T 9 from hw_22) ?_
  refine lv_i2l (v := (tellW dy co ti ro n B nb G T 9 : Int32).toInt64) hx hb dX4_digest_25 rfl ?_
  refine lv_ladd hx hb dX4_digest_26 ?_
  refine lv_lstore_n (lv' := [(1, .long ((((((((((((((((((((1277 * 31) + (Int32.toInt64 (tellW dy co ti ro n B nb G T 0))) * 31) + (Int32.toInt64 (tellW dy co ti ro n B nb G T 1))) * 31) + (Int32.toInt64 (tellW dy co ti ro n B nb G T 2))) * 31) + (Int32.toInt64 (tellW dy co ti ro n B nb G T 3))) * 31) + (Int32.toInt64 (tellW dy co ti ro n B nb G T 4))) * 31) + (Int32.toInt64 (tellW dy co ti ro n B nb G T 5))) * 31) + (Int32.toInt64 (tellW dy co ti ro n B nb G T 6))) * 31) + (Int32.toInt64 (tellW dy co ti ro n B nb G T 7))) * 31) + (Int32.toInt64 (tellW dy co ti ro n B nb G T 8))) * 31) + (Int32.toInt64 (tellW dy co ti ro n B nb G T 9)))), (3, .int 9), (0, .ref ox)]) hx hb dX4_digest_27 rfl hl (by decide) rfl (fun ls hl => ?_)
  refine lv_iinc (v := 10) (lv' := [(3, .int 10), (1, .long ((((((((((((((((((((1277 * 31) + (Int32.toInt64 (tellW dy co ti ro n B nb G T 0))) * 31) + (Int32.toInt64 (tellW dy co ti ro n B nb G T 1))) * 31) + (Int32.toInt64 (tellW dy co ti ro n B nb G T 2))) * 31) + (Int32.toInt64 (tellW dy co ti ro n B nb G T 3))) * 31) + (Int32.toInt64 (tellW dy co ti ro n B nb G T 4))) * 31) + (Int32.toInt64 (tellW dy co ti ro n B nb G T 5))) * 31) + (Int32.toInt64 (tellW dy co ti ro n B nb G T 6))) * 31) + (Int32.toInt64 (tellW dy co ti ro n B nb G T 7))) * 31) + (Int32.toInt64 (tellW dy co ti ro n B nb G T 8))) * 31) + (Int32.toInt64 (tellW dy co ti ro n B nb G T 9)))), (0, .ref ox)]) (k := 1) hx hb dX4_digest_28 hl rfl (by decide) (by decide) rfl (fun ls hl => ?_)
  refine lv_goto (tgt := 6) hx hb dX4_digest_31 (by decide) ?_
  refine lv_iload_n hx hb dX4_digest_6 rfl (lv_at hl 0 rfl) ?_
  refine lv_bipush (v := 11) hx hb dX4_digest_7 (by decide) ?_
  refine lv_icmp_ge (tgt := 34) hx hb dX4_digest_9 (by decide) (fun q => absurd q (by decide)) (fun _ => ?_)
  refine lv_lload_n hx hb dX4_digest_12 rfl (lv_at hl 1 rfl) ?_
  refine lv_ldc2 (v := 31) hx hb hown (hts (.constantLong RX4 175 31) (List.mem_of_getElem? (i := 2) rfl)) dX4_digest_13 ?_
  refine lv_lmul hx hb dX4_digest_16 ?_
  refine lv_aload_n hx hb dX4_digest_17 rfl (lv_at hl 2 rfl) ?_
  refine va_get (D := D) (ci := 4) (v := .ref (a 0)) (C := RX4) (T := TX4) (N := 2) hx hb hts hwX4 hown hE.K hP 0 rfl rfl 0 (by decide) (hts (.fieldLink RX4 10 "SedgeBarges" "now" "LSedgeBarges$Waterway;") (List.mem_of_getElem? (i := 3) rfl)) (fun _ h9 => h9) rfl dX4_digest_18 ?_
  refine lv_iload_n hx hb dX4_digest_21 rfl (lv_at hl 0 rfl) ?_
  refine goI ([oX ox a a2]) (wWay cA a2 dy2 co2 ti2 ro2 u2 n2 B2 ch2 v2 nb2 G2 w2 T2) hP hD hS hA (rnV (rest := [.long (((((((((((((((((((((1277 * 31) + (Int32.toInt64 (tellW dy co ti ro n B nb G T 0))) * 31) + (Int32.toInt64 (tellW dy co ti ro n B nb G T 1))) * 31) + (Int32.toInt64 (tellW dy co ti ro n B nb G T 2))) * 31) + (Int32.toInt64 (tellW dy co ti ro n B nb G T 3))) * 31) + (Int32.toInt64 (tellW dy co ti ro n B nb G T 4))) * 31) + (Int32.toInt64 (tellW dy co ti ro n B nb G T 5))) * 31) + (Int32.toInt64 (tellW dy co ti ro n B nb G T 6))) * 31) + (Int32.toInt64 (tellW dy co ti ro n B nb G T 7))) * 31) + (Int32.toInt64 (tellW dy co ti ro n B nb G T 8))) * 31) + (Int32.toInt64 (tellW dy co ti ro n B nb G T 9))) * 31)]) (c_Way_tell sa tb D cA cL l a dy co ti ro u n B ch v nb G w T 10 (show n ≤ 8 from by first | omega | assumption | decide) (show nb ≤ 3 from by first | omega | assumption | decide) (show 10 < 11 from by first | omega | assumption | decide)) ([oX ox a a2]) (wWay cA a2 dy2 co2 ti2 ro2 u2 n2 B2 ch2 v2 nb2 G2 w2 T2) hP hD hS hA hE ⟨hx, hb, hml, hown, hts⟩ (cwV 1 hts gX4_digest_X3_tell rfl rfl rfl (by decide +kernel) ⟨(Nat.le_of_ble_eq_true rfl), (Nat.le_of_ble_eq_true rfl)⟩) 3 0 rfl rfl rfl rfl hl.1 rfl (Nat.le_of_ble_eq_true rfl) dX4_digest_22 ⟨(Nat.le_of_ble_eq_true rfl), (Nat.le_of_ble_eq_true rfl)⟩) (fun _ => rfl) (fun r_22 u_22 H locs hw_22 hP hD hS => ?_)
  have hP : va_P D vwCl (wX cA ox a dy co ti ro u n B ch v nb G w T a2 dy2 co2 ti2 ro2 u2 n2 B2 ch2 v2 nb2 G2 w2 T2) H := hP
  have hD : va_D A (wX cA ox a dy co ti ro u n B ch v nb G w T a2 dy2 co2 ti2 ro2 u2 n2 B2 ch2 v2 nb2 G2 w2 T2) := hD
  refine w_eqi (show r_22 = tellW dy co ti ro n B nb G T 10 from hw_22) ?_
  refine lv_i2l (v := (tellW dy co ti ro n B nb G T 10 : Int32).toInt64) hx hb dX4_digest_25 rfl ?_
  refine lv_ladd hx hb dX4_digest_26 ?_
  refine lv_lstore_n (lv' := [(1, .long ((((((((((((((((((((((1277 * 31) + (Int32.toInt64 (tellW dy co ti ro n B nb G T 0))) * 31) + (Int32.toInt64 (tellW dy co ti ro n B nb G T 1))) * 31) + (Int32.toInt64 (tellW dy co ti ro n B nb G T 2))) * 31) + (Int32.toInt64 (tellW dy co ti ro n B nb G T 3))) * 31) + (Int32.toInt64 (tellW dy co ti ro n B nb G T 4))) * 31) + (Int32.toInt64 (tellW dy co ti ro n B nb G T 5))) * 31) + (Int32.toInt64 (tellW dy co ti ro n B nb G T 6))) * 31) + (Int32.toInt64 (tellW dy co ti ro n B nb G T 7))) * 31) + (Int32.toInt64 (tellW dy co ti ro n B nb G T 8))) * 31) + (Int32.toInt64 (tellW dy co ti ro n B nb G T 9))) * 31) + (Int32.toInt64 (tellW dy co ti ro n B nb G T 10)))), (3, .int 10), (0, .ref ox)]) hx hb dX4_digest_27 rfl hl (by decide) rfl (fun ls hl => ?_)
  refine lv_iinc (v := 11) (lv' := [(3, .int 11), (1, .long ((((((((((((((((((((((1277 * 31) + (Int32.toInt64 (tellW dy co ti ro n B nb G T 0))) * 31) + (Int32.toInt64 (tellW dy co ti ro n B nb G T 1))) * 31) + (Int32.toInt64 (tellW dy co ti ro n B nb G T 2))) * 31) + (Int32.toInt64 (tellW dy co ti ro n B nb G T 3))) * 31) + (Int32.toInt64 (tellW dy co ti ro n B nb G T 4))) * 31) + (Int32.toInt64 (tellW dy co ti ro n B nb G T 5))) * 31) + (Int32.toInt64 (tellW dy co ti ro n B nb G T 6))) * 31) + (Int32.toInt64 (tellW dy co ti ro n B nb G T 7))) * 31) + (Int32.toInt64 (tellW dy co ti ro n B nb G T 8))) * 31) + (Int32.toInt64 (tellW dy co ti ro n B nb G T 9))) * 31) + (Int32.toInt64 (tellW dy co ti ro n B nb G T 10)))), (0, .ref ox)]) (k := 1) hx hb dX4_digest_28 hl rfl (by decide) (by decide) rfl (fun ls hl => ?_)
  refine lv_goto (tgt := 6) hx hb dX4_digest_31 (by decide) ?_
  refine lv_iload_n hx hb dX4_digest_6 rfl (lv_at hl 0 rfl) ?_
  refine lv_bipush (v := 11) hx hb dX4_digest_7 (by decide) ?_
  refine lv_icmp_ge (tgt := 34) hx hb dX4_digest_9 (by decide) (fun _ => ?_) (fun q => absurd (by decide) q)
  refine lv_iconst (v := 0) hx hb dX4_digest_34 (by decide) ?_
  refine lv_istore_n (lv' := [(3, .int 0), (1, .long ((((((((((((((((((((((1277 * 31) + (Int32.toInt64 (tellW dy co ti ro n B nb G T 0))) * 31) + (Int32.toInt64 (tellW dy co ti ro n B nb G T 1))) * 31) + (Int32.toInt64 (tellW dy co ti ro n B nb G T 2))) * 31) + (Int32.toInt64 (tellW dy co ti ro n B nb G T 3))) * 31) + (Int32.toInt64 (tellW dy co ti ro n B nb G T 4))) * 31) + (Int32.toInt64 (tellW dy co ti ro n B nb G T 5))) * 31) + (Int32.toInt64 (tellW dy co ti ro n B nb G T 6))) * 31) + (Int32.toInt64 (tellW dy co ti ro n B nb G T 7))) * 31) + (Int32.toInt64 (tellW dy co ti ro n B nb G T 8))) * 31) + (Int32.toInt64 (tellW dy co ti ro n B nb G T 9))) * 31) + (Int32.toInt64 (tellW dy co ti ro n B nb G T 10)))), (0, .ref ox)]) hx hb dX4_digest_35 rfl hl (by decide) rfl (fun ls hl => ?_)
  have loop_36 : ∀ (f_36 : Nat) (i : Nat) (dd : Int64), (n - i) < f_36 → (i ≤ n) → (dd = dgB B i (dg (tellW dy co ti ro n B nb G T) 11 1277)) → ∀ (H : Heap) (locs : List Loc), va_P D vwCl (wX cA ox a dy co ti ro u n B ch v nb G w T a2 dy2 co2 ti2 ro2 u2 n2 B2 ch2 v2 nb2 G2 w2 T2) H → va_D A (wX cA ox a dy co ti ro u n B ch v nb G w T a2 dy2 co2 ti2 ro2 u2 n2 B2 ch2 v2 nb2 G2 w2 T2) → va_S A s.heap H locs → ∀ ls : Array Slot, lv_has ls 5 [(0, .ref ox), (1, .long dd), (3, .int (nI i))] → W pg l e ({ frames := 4, cells := 0, slots := 0, locals := 88 }) s m args below meth c H locs 0 0 (MQ below (qL D (fun (r : Int64) (_ : Unit) => r = digF dy co ti ro n B nb G T) (fun _ => wX cA ox a dy co ti ro u n B ch v nb G w T a2 dy2 co2 ti2 ro2 u2 n2 B2 ch2 v2 nb2 G2 w2 T2) A) args s 0 0 A) (F0 m 36 ls []) := by
    intro f_36
    induction f_36 with
    | zero => intro i dd h_f; exact absurd h_f (Nat.not_lt_zero _)
    | succ f_36 ih_36 =>
      intro i dd h_f36 hi hdd H locs hP hD hS ls hl
      refine lv_iload_n hx hb dX4_digest_36 rfl (lv_at hl 2 rfl) ?_
      refine lv_aload_n hx hb dX4_digest_37 rfl (lv_at hl 0 rfl) ?_
      refine va_get (D := D) (ci := 4) (v := .ref (a 0)) (C := RX4) (T := TX4) (N := 2) hx hb hts hwX4 hown hE.K hP 0 rfl rfl 0 (by decide) (hts (.fieldLink RX4 10 "SedgeBarges" "now" "LSedgeBarges$Waterway;") (List.mem_of_getElem? (i := 3) rfl)) (fun _ h9 => h9) rfl dX4_digest_38 ?_
      refine va_getN (D := D) (ci := 3) (v := .ref (a 1)) (C := RX3) (T := TX3) (N := 7) hx hb hts hwX3 hown hE.K hP 1 rfl rfl 4 (by decide) (nf_5 hE) (fun _ h9 => h9) rfl dX4_digest_41 ?_
      refine va_getN (D := D) (ci := 1) (v := .int (nI n)) (C := RX1) (T := TX1) (N := 10) hx hb hts hwX1 hown hE.K hP 2 rfl rfl 0 (by decide) (nf_3 hE) (fun _ h9 => h9) rfl dX4_digest_44 ?_
      refine rc_ge (tgt := 93) (a := i) (b := n) hx hb (by omega) (by omega) dX4_digest_47 (by decide) (fun c_47 => ?_) (fun c_47 => ?_)
      · refine lv_iconst (v := 0) hx hb dX4_digest_93 (by decide) ?_
        refine lv_istore_n (lv' := [(3, .int 0), (0, .ref ox), (1, .long dd)]) hx hb dX4_digest_94 rfl hl (by decide) rfl (fun ls hl => ?_)
        have loop_95 : ∀ (f_95 : Nat) (i2 : Nat) (dd2 : Int64), (nb - i2) < f_95 → (i2 ≤ nb) → (dd2 = dgG G i2 (dgB B n (dg (tellW dy co ti ro n B nb G T) 11 1277))) → ∀ (H : Heap) (locs : List Loc), va_P D vwCl (wX cA ox a dy co ti ro u n B ch v nb G w T a2 dy2 co2 ti2 ro2 u2 n2 B2 ch2 v2 nb2 G2 w2 T2) H → va_D A (wX cA ox a dy co ti ro u n B ch v nb G w T a2 dy2 co2 ti2 ro2 u2 n2 B2 ch2 v2 nb2 G2 w2 T2) → va_S A s.heap H locs → ∀ ls : Array Slot, lv_has ls 5 [(0, .ref ox), (1, .long dd2), (3, .int (nI i2))] → W pg l e ({ frames := 4, cells := 0, slots := 0, locals := 88 }) s m args below meth c H locs 0 0 (MQ below (qL D (fun (r : Int64) (_ : Unit) => r = digF dy co ti ro n B nb G T) (fun _ => wX cA ox a dy co ti ro u n B ch v nb G w T a2 dy2 co2 ti2 ro2 u2 n2 B2 ch2 v2 nb2 G2 w2 T2) A) args s 0 0 A) (F0 m 95 ls []) := by
          intro f_95
          induction f_95 with
          | zero => intro i2 dd2 h_f; exact absurd h_f (Nat.not_lt_zero _)
          | succ f_95 ih_95 =>
            intro i2 dd2 h_f95 hi2 hdd2 H locs hP hD hS ls hl
            refine lv_iload_n hx hb dX4_digest_95 rfl (lv_at hl 2 rfl) ?_
            refine lv_aload_n hx hb dX4_digest_96 rfl (lv_at hl 0 rfl) ?_
            refine va_get (D := D) (ci := 4) (v := .ref (a 0)) (C := RX4) (T := TX4) (N := 2) hx hb hts hwX4 hown hE.K hP 0 rfl rfl 0 (by decide) (hts (.fieldLink RX4 10 "SedgeBarges" "now" "LSedgeBarges$Waterway;") (List.mem_of_getElem? (i := 3) rfl)) (fun _ h9 => h9) rfl dX4_digest_97 ?_
            refine va_getN (D := D) (ci := 3) (v := .ref (a 2)) (C := RX3) (T := TX3) (N := 7) hx hb hts hwX3 hown hE.K hP 1 rfl rfl 5 (by decide) (nf_8 hE) (fun _ h9 => h9) rfl dX4_digest_100 ?_
            refine va_getN (D := D) (ci := 0) (v := .int (nI nb)) (C := RX0) (T := TX0) (N := 6) hx hb hts hwX0 hown hE.K hP 12 rfl rfl 0 (by decide) (nf_4 hE) (fun _ h9 => h9) rfl dX4_digest_103 ?_
            refine rc_ge (tgt := 152) (a := i2) (b := nb) hx hb (by omega) (by omega) dX4_digest_106 (by decide) (fun c_106 => ?_) (fun c_106 => ?_)
            · refine lv_iconst (v := 0) hx hb dX4_digest_152 (by decide) ?_
              refine lv_istore_n (lv' := [(3, .int 0), (0, .ref ox), (1, .long dd2)]) hx hb dX4_digest_153 rfl hl (by decide) rfl (fun ls hl => ?_)
              refine lv_iload_n hx hb dX4_digest_154 rfl (lv_at hl 0 rfl) ?_
              refine lv_iconst (v := 3) hx hb dX4_digest_155 (by decide) ?_
              refine lv_icmp_ge (tgt := 201) hx hb dX4_digest_156 (by decide) (fun q => absurd q (by decide)) (fun _ => ?_)
              refine lv_iconst (v := 0) hx hb dX4_digest_159 (by decide) ?_
              refine lv_istore (lv' := [(4, .int 0), (3, .int 0), (0, .ref ox), (1, .long dd2)]) hx hb dX4_digest_160 hl (by decide) rfl (fun ls hl => ?_)
              refine lv_iload hx hb dX4_digest_162 (lv_at hl 0 rfl) ?_
              refine lv_iconst (v := 4) hx hb dX4_digest_164 (by decide) ?_
              refine lv_icmp_ge (tgt := 195) hx hb dX4_digest_165 (by decide) (fun q => absurd q (by decide)) (fun _ => ?_)
              refine lv_lload_n hx hb dX4_digest_168 rfl (lv_at hl 3 rfl) ?_
              refine lv_ldc2 (v := 31) hx hb hown (hts (.constantLong RX4 175 31) (List.mem_of_getElem? (i := 2) rfl)) dX4_digest_169 ?_
              refine lv_lmul hx hb dX4_digest_172 ?_
              refine lv_aload_n hx hb dX4_digest_173 rfl (lv_at hl 2 rfl) ?_
              refine va_get (D := D) (ci := 4) (v := .ref (a 0)) (C := RX4) (T := TX4) (N := 2) hx hb hts hwX4 hown hE.K hP 0 rfl rfl 0 (by decide) (hts (.fieldLink RX4 10 "SedgeBarges" "now" "LSedgeBarges$Waterway;") (List.mem_of_getElem? (i := 3) rfl)) (fun _ h9 => h9) rfl dX4_digest_174 ?_
              refine va_getN (D := D) (ci := 3) (v := .ref (a 3)) (C := RX3) (T := TX3) (N := 7) hx hb hts hwX3 hown hE.K hP 1 rfl rfl 6 (by decide) (nf_2 hE) (fun _ h9 => h9) rfl dX4_digest_177 ?_
              refine lv_iload_n hx hb dX4_digest_180 rfl (lv_at hl 1 rfl) ?_
              refine lv_iload hx hb dX4_digest_181 (lv_at hl 0 rfl) ?_
              refine goI ([oX ox a a2, oWay a dy co ti ro] ++ (wBeds cA (a 1) u n B ch ++ wBars cA (a 2) v nb G)) (wWay cA a2 dy2 co2 ti2 ro2 u2 n2 B2 ch2 v2 nb2 G2 w2 T2) hP hD hS hA (rnV (rest := [.long (dd2 * 31)]) (c_Land_tell sa tb D cA cL l (a 3) w T 0 0 (show 0 < 3 from by first | omega | assumption | decide) (show 0 < 4 from by first | omega | assumption | decide)) ([oX ox a a2, oWay a dy co ti ro] ++ (wBeds cA (a 1) u n B ch ++ wBars cA (a 2) v nb G)) (wWay cA a2 dy2 co2 ti2 ro2 u2 n2 B2 ch2 v2 nb2 G2 w2 T2) hP hD hS hA hE ⟨hx, hb, hml, hown, hts⟩ (cwV 2 hts gX4_digest_X2_tell rfl rfl rfl (by decide +kernel) ⟨(Nat.le_of_ble_eq_true rfl), (Nat.le_of_ble_eq_true rfl)⟩) 2 0 rfl rfl rfl rfl hl.1 rfl (Nat.le_of_ble_eq_true rfl) dX4_digest_183 ⟨(Nat.le_of_ble_eq_true rfl), (Nat.le_of_ble_eq_true rfl)⟩) (fun _ => rfl) (fun r_183 u_183 H locs hw_183 hP hD hS => ?_)
              have hP : va_P D vwCl (wX cA ox a dy co ti ro u n B ch v nb G w T a2 dy2 co2 ti2 ro2 u2 n2 B2 ch2 v2 nb2 G2 w2 T2) H := hP
              have hD : va_D A (wX cA ox a dy co ti ro u n B ch v nb G w T a2 dy2 co2 ti2 ro2 u2 n2 B2 ch2 v2 nb2 G2 w2 T2) := hD
              refine w_eqi (show r_183 = tellL T 0 0 from hw_183) ?_
              refine lv_i2l (v := (tellL T 0 0 : Int32).toInt64) hx hb dX4_digest_186 rfl ?_
              refine lv_ladd hx hb dX4_digest_187 ?_
              refine lv_lstore_n (lv' := [(1, .long ((dd2 * 31) + (Int32.toInt64 (tellL T 0 0)))), (4, .int 0), (3, .int 0), (0, .ref ox)]) hx hb dX4_digest_188 rfl hl (by decide) rfl (fun ls hl => ?_)
              refine lv_iinc (v := 1) (lv' := [(4, .int 1), (1, .long ((dd2 * 31) + (Int32.toInt64 (tellL T 0 0)))), (3, .int 0), (0, .ref ox)]) (k := 1) hx hb dX4_digest_189 hl rfl (by decide) (by decide) rfl (fun ls hl => ?_)
              refine lv_goto (tgt := 162) hx hb dX4_digest_192 (by decide) ?_
              refine lv_iload hx hb dX4_digest_162 (lv_at hl 0 rfl) ?_
              refine lv_iconst (v := 4) hx hb dX4_digest_164 (by decide) ?_
              refine lv_icmp_ge (tgt := 195) hx hb dX4_digest_165 (by decide) (fun q => absurd q (by decide)) (fun _ => ?_)
              refine lv_lload_n hx hb dX4_digest_168 rfl (lv_at hl 1 rfl) ?_
              refine lv_ldc2 (v := 31) hx hb hown (hts (.constantLong RX4 175 31) (List.mem_of_getElem? (i := 2) rfl)) dX4_digest_169 ?_
              refine lv_lmul hx hb dX4_digest_172 ?_
              refine lv_aload_n hx hb dX4_digest_173 rfl (lv_at hl 3 rfl) ?_
              refine va_get (D := D) (ci := 4) (v := .ref (a 0)) (C := RX4) (T := TX4) (N := 2) hx hb hts hwX4 hown hE.K hP 0 rfl rfl 0 (by decide) (hts (.fieldLink RX4 10 "SedgeBarges" "now" "LSedgeBarges$Waterway;") (List.mem_of_getElem? (i := 3) rfl)) (fun _ h9 => h9) rfl dX4_digest_174 ?_
              refine va_getN (D := D) (ci := 3) (v := .ref (a 3)) (C := RX3) (T := TX3) (N := 7) hx hb hts hwX3 hown hE.K hP 1 rfl rfl 6 (by decide) (nf_2 hE) (fun _ h9 => h9) rfl dX4_digest_177 ?_
              refine lv_iload_n hx hb dX4_digest_180 rfl (lv_at hl 2 rfl) ?_
              refine lv_iload hx hb dX4_digest_181 (lv_at hl 0 rfl) ?_
              refine goI ([oX ox a a2, oWay a dy co ti ro] ++ (wBeds cA (a 1) u n B ch ++ wBars cA (a 2) v nb G)) (wWay cA a2 dy2 co2 ti2 ro2 u2 n2 B2 ch2 v2 nb2 G2 w2 T2) hP hD hS hA (rnV (rest := [.long (((dd2 * 31) + (Int32.toInt64 (tellL T 0 0))) * 31)]) (c_Land_tell sa tb D cA cL l (a 3) w T 0 1 (show 0 < 3 from by first | omega | assumption | decide) (show 1 < 4 from by first | omega | assumption | decide)) ([oX ox a a2, oWay a dy co ti ro] ++ (wBeds cA (a 1) u n B ch ++ wBars cA (a 2) v nb G)) (wWay cA a2 dy2 co2 ti2 ro2 u2 n2 B2 ch2 v2 nb2 G2 w2 T2) hP hD hS hA hE ⟨hx, hb, hml, hown, hts⟩ (cwV 2 hts gX4_digest_X2_tell rfl rfl rfl (by decide +kernel) ⟨(Nat.le_of_ble_eq_true rfl), (Nat.le_of_ble_eq_true rfl)⟩) 2 0 rfl rfl rfl rfl hl.1 rfl (Nat.le_of_ble_eq_true rfl) dX4_digest_183 ⟨(Nat.le_of_ble_eq_true rfl), (Nat.le_of_ble_eq_true rfl)⟩) (fun _ => rfl) (fun r_183 u_183 H locs hw_183 hP hD hS => ?_)
              have hP : va_P D vwCl (wX cA ox a dy co ti ro u n B ch v nb G w T a2 dy2 co2 ti2 ro2 u2 n2 B2 ch2 v2 nb2 G2 w2 T2) H := hP
              have hD : va_D A (wX cA ox a dy co ti ro u n B ch v nb G w T a2 dy2 co2 ti2 ro2 u2 n2 B2 ch2 v2 nb2 G2 w2 T2) := hD
              refine w_eqi (show r_183 = tellL T 0 1 from hw_183) ?_
              refine lv_i2l (v := (tellL T 0 1 : Int32).toInt64) hx hb dX4_digest_186 rfl ?_
              refine lv_ladd hx hb dX4_digest_187 ?_
              refine lv_lstore_n (lv' := [(1, .long ((((dd2 * 31) + (Int32.toInt64 (tellL T 0 0))) * 31) + (Int32.toInt64 (tellL T 0 1)))), (4, .int 1), (3, .int 0), (0, .ref ox)]) hx hb dX4_digest_188 rfl hl (by decide) rfl (fun ls hl => ?_)
              refine lv_iinc (v := 2) (lv' := [(4, .int 2), (1, .long ((((dd2 * 31) + (Int32.toInt64 (tellL T 0 0))) * 31) + (Int32.toInt64 (tellL T 0 1)))), (3, .int 0), (0, .ref ox)]) (k := 1) hx hb dX4_digest_189 hl rfl (by decide) (by decide) rfl (fun ls hl => ?_)
              refine lv_goto (tgt := 162) hx hb dX4_digest_192 (by decide) ?_
              refine lv_iload hx hb dX4_digest_162 (lv_at hl 0 rfl) ?_
              refine lv_iconst (v := 4) hx hb dX4_digest_164 (by decide) ?_
              refine lv_icmp_ge (tgt := 195) hx hb dX4_digest_165 (by decide) (fun q => absurd q (by decide)) (fun _ => ?_)
              refine lv_lload_n hx hb dX4_digest_168 rfl (lv_at hl 1 rfl) ?_
              refine lv_ldc2 (v := 31) hx hb hown (hts (.constantLong RX4 175 31) (List.mem_of_getElem? (i := 2) rfl)) dX4_digest_169 ?_
              refine lv_lmul hx hb dX4_digest_172 ?_
              refine lv_aload_n hx hb dX4_digest_173 rfl (lv_at hl 3 rfl) ?_
              refine va_get (D := D) (ci := 4) (v := .ref (a 0)) (C := RX4) (T := TX4) (N := 2) hx hb hts hwX4 hown hE.K hP 0 rfl rfl 0 (by decide) (hts (.fieldLink RX4 10 "SedgeBarges" "now" "LSedgeBarges$Waterway;") (List.mem_of_getElem? (i := 3) rfl)) (fun _ h9 => h9) rfl dX4_digest_174 ?_
              refine va_getN (D := D) (ci := 3) (v := .ref (a 3)) (C := RX3) (T := TX3) (N := 7) hx hb hts hwX3 hown hE.K hP 1 rfl rfl 6 (by decide) (nf_2 hE) (fun _ h9 => h9) rfl dX4_digest_177 ?_
              refine lv_iload_n hx hb dX4_digest_180 rfl (lv_at hl 2 rfl) ?_
              refine lv_iload hx hb dX4_digest_181 (lv_at hl 0 rfl) ?_
              refine goI ([oX ox a a2, oWay a dy co ti ro] ++ (wBeds cA (a 1) u n B ch ++ wBars cA (a 2) v nb G)) (wWay cA a2 dy2 co2 ti2 ro2 u2 n2 B2 ch2 v2 nb2 G2 w2 T2) hP hD hS hA (rnV (rest := [.long (((((dd2 * 31) + (Int32.toInt64 (tellL T 0 0))) * 31) + (Int32.toInt64 (tellL T 0 1))) * 31)]) (c_Land_tell sa tb D cA cL l (a 3) w T 0 2 (show 0 < 3 from by first | omega | assumption | decide) (show 2 < 4 from by first | omega | assumption | decide)) ([oX ox a a2, oWay a dy co ti ro] ++ (wBeds cA (a 1) u n B ch ++ wBars cA (a 2) v nb G)) (wWay cA a2 dy2 co2 ti2 ro2 u2 n2 B2 ch2 v2 nb2 G2 w2 T2) hP hD hS hA hE ⟨hx, hb, hml, hown, hts⟩ (cwV 2 hts gX4_digest_X2_tell rfl rfl rfl (by decide +kernel) ⟨(Nat.le_of_ble_eq_true rfl), (Nat.le_of_ble_eq_true rfl)⟩) 2 0 rfl rfl rfl rfl hl.1 rfl (Nat.le_of_ble_eq_true rfl) dX4_digest_183 ⟨(Nat.le_of_ble_eq_true rfl), (Nat.le_of_ble_eq_true rfl)⟩) (fun _ => rfl) (fun r_183 u_183 H locs hw_183 hP hD hS => ?_)
              have hP : va_P D vwCl (wX cA ox a dy co ti ro u n B ch v nb G w T a2 dy2 co2 ti2 ro2 u2 n2 B2 ch2 v2 nb2 G2 w2 T2) H := hP
              have hD : va_D A (wX cA ox a dy co ti ro u n B ch v nb G w T a2 dy2 co2 ti2 ro2 u2 n2 B2 ch2 v2 nb2 G2 w2 T2) := hD
              refine w_eqi (show r_183 = tellL T 0 2 from hw_183) ?_
              refine lv_i2l (v := (tellL T 0 2 : Int32).toInt64) hx hb dX4_digest_186 rfl ?_
              refine lv_ladd hx hb dX4_digest_187 ?_
              refine lv_lstore_n (lv' := [(1, .long ((((((dd2 * 31) + (Int32.toInt64 (tellL T 0 0))) * 31) + (Int32.toInt64 (tellL T 0 1))) * 31) + (Int32.toInt64 (tellL T 0 2)))), (4, .int 2), (3, .int 0), (0, .ref ox)]) hx hb dX4_digest_188 rfl hl (by decide) rfl (fun ls hl => ?_)
              refine lv_iinc (v := 3) (lv' := [(4, .int 3), (1, .long ((((((dd2 * 31) + (Int32.toInt64 (tellL T 0 0))) * 31) + (Int32.toInt64 (tellL T 0 1))) * 31) + (Int32.toInt64 (tellL T 0 2)))), (3, .int 0), (0, .ref ox)]) (k := 1) hx hb dX4_digest_189 hl rfl (by decide) (by decide) rfl (fun ls hl => ?_)
              refine lv_goto (tgt := 162) hx hb dX4_digest_192 (by decide) ?_
              refine lv_iload hx hb dX4_digest_162 (lv_at hl 0 rfl) ?_
              refine lv_iconst (v := 4) hx hb dX4_digest_164 (by decide) ?_
              refine lv_icmp_ge (tgt := 195) hx hb dX4_digest_165 (by decide) (fun q => absurd q (by decide)) (fun _ => ?_)
              refine lv_lload_n hx hb dX4_digest_168 rfl (lv_at hl 1 rfl) ?_
              refine lv_ldc2 (v := 31) hx hb hown (hts (.constantLong RX4 175 31) (List.mem_of_getElem? (i := 2) rfl)) dX4_digest_169 ?_
              refine lv_lmul hx hb dX4_digest_172 ?_
              refine lv_aload_n hx hb dX4_digest_173 rfl (lv_at hl 3 rfl) ?_
              refine va_get (D := D) (ci := 4) (v := .ref (a 0)) (C := RX4) (T := TX4) (N := 2) hx hb hts hwX4 hown hE.K hP 0 rfl rfl 0 (by decide) (hts (.fieldLink RX4 10 "SedgeBarges" "now" "LSedgeBarges$Waterway;") (List.mem_of_getElem? (i := 3) rfl)) (fun _ h9 => h9) rfl dX4_digest_174 ?_
              refine va_getN (D := D) (ci := 3) (v := .ref (a 3)) (C := RX3) (T := TX3) (N := 7) hx hb hts hwX3 hown hE.K hP 1 rfl rfl 6 (by decide) (nf_2 hE) (fun _ h9 => h9) rfl dX4_digest_177 ?_
              refine lv_iload_n hx hb dX4_digest_180 rfl (lv_at hl 2 rfl) ?_
              refine lv_iload hx hb dX4_digest_181 (lv_at hl 0 rfl) ?_
              refine goI ([oX ox a a2, oWay a dy co ti ro] ++ (wBeds cA (a 1) u n B ch ++ wBars cA (a 2) v nb G)) (wWay cA a2 dy2 co2 ti2 ro2 u2 n2 B2 ch2 v2 nb2 G2 w2 T2) hP hD hS hA (rnV (rest := [.long (((((((dd2 * 31) + (Int32.toInt64 (tellL T 0 0))) * 31) + (Int32.toInt64 (tellL T 0 1))) * 31) + (Int32.toInt64 (tellL T 0 2))) * 31)]) (c_Land_tell sa tb D cA cL l (a 3) w T 0 3 (show 0 < 3 from by first | omega | assumption | decide) (show 3 < 4 from by first | omega | assumption | decide)) ([oX ox a a2, oWay a dy co ti ro] ++ (wBeds cA (a 1) u n B ch ++ wBars cA (a 2) v nb G)) (wWay cA a2 dy2 co2 ti2 ro2 u2 n2 B2 ch2 v2 nb2 G2 w2 T2) hP hD hS hA hE ⟨hx, hb, hml, hown, hts⟩ (cwV 2 hts gX4_digest_X2_tell rfl rfl rfl (by decide +kernel) ⟨(Nat.le_of_ble_eq_true rfl), (Nat.le_of_ble_eq_true rfl)⟩) 2 0 rfl rfl rfl rfl hl.1 rfl (Nat.le_of_ble_eq_true rfl) dX4_digest_183 ⟨(Nat.le_of_ble_eq_true rfl), (Nat.le_of_ble_eq_true rfl)⟩) (fun _ => rfl) (fun r_183 u_183 H locs hw_183 hP hD hS => ?_)
              have hP : va_P D vwCl (wX cA ox a dy co ti ro u n B ch v nb G w T a2 dy2 co2 ti2 ro2 u2 n2 B2 ch2 v2 nb2 G2 w2 T2) H := hP
              have hD : va_D A (wX cA ox a dy co ti ro u n B ch v nb G w T a2 dy2 co2 ti2 ro2 u2 n2 B2 ch2 v2 nb2 G2 w2 T2) := hD
              refine w_eqi (show r_183 = tellL T 0 3 from hw_183) ?_
              refine lv_i2l (v := (tellL T 0 3 : Int32).toInt64) hx hb dX4_digest_186 rfl ?_
              refine lv_ladd hx hb dX4_digest_187 ?_
              refine lv_lstore_n (lv' := [(1, .long ((((((((dd2 * 31) + (Int32.toInt64 (tellL T 0 0))) * 31) + (Int32.toInt64 (tellL T 0 1))) * 31) + (Int32.toInt64 (tellL T 0 2))) * 31) + (Int32.toInt64 (tellL T 0 3)))), (4, .int 3), (3, .int 0), (0, .ref ox)]) hx hb dX4_digest_188 rfl hl (by decide) rfl (fun ls hl => ?_)
              refine lv_iinc (v := 4) (lv' := [(4, .int 4), (1, .long ((((((((dd2 * 31) + (Int32.toInt64 (tellL T 0 0))) * 31) + (Int32.toInt64 (tellL T 0 1))) * 31) + (Int32.toInt64 (tellL T 0 2))) * 31) + (Int32.toInt64 (tellL T 0 3)))), (3, .int 0), (0, .ref ox)]) (k := 1) hx hb dX4_digest_189 hl rfl (by decide) (by decide) rfl (fun ls hl => ?_)
              refine lv_goto (tgt := 162) hx hb dX4_digest_192 (by decide) ?_
              refine lv_iload hx hb dX4_digest_162 (lv_at hl 0 rfl) ?_
              refine lv_iconst (v := 4) hx hb dX4_digest_164 (by decide) ?_
              refine lv_icmp_ge (tgt := 195) hx hb dX4_digest_165 (by decide) (fun _ => ?_) (fun q => absurd (by decide) q)
              refine lv_iinc (v := 1) (lv' := [(3, .int 1), (4, .int 4), (1, .long ((((((((dd2 * 31) + (Int32.toInt64 (tellL T 0 0))) * 31) + (Int32.toInt64 (tellL T 0 1))) * 31) + (Int32.toInt64 (tellL T 0 2))) * 31) + (Int32.toInt64 (tellL T 0 3)))), (0, .ref ox)]) (k := 2) hx hb dX4_digest_195 hl rfl (by decide) (by decide) rfl (fun ls hl => ?_)
              refine lv_goto (tgt := 154) hx hb dX4_digest_198 (by decide) ?_
              refine lv_iload_n hx hb dX4_digest_154 rfl (lv_at hl 0 rfl) ?_
              refine lv_iconst (v := 3) hx hb dX4_digest_155 (by decide) ?_
              refine lv_icmp_ge (tgt := 201) hx hb dX4_digest_156 (by decide) (fun q => absurd q (by decide)) (fun _ => ?_)
              refine lv_iconst (v := 0) hx hb dX4_digest_159 (by decide) ?_
              refine lv_istore (lv' := [(4, .int 0), (3, .int 1), (1, .long ((((((((dd2 * 31) + (Int32.toInt64 (tellL T 0 0))) * 31) + (Int32.toInt64 (tellL T 0 1))) * 31) + (Int32.toInt64 (tellL T 0 2))) * 31) + (Int32.toInt64 (tellL T 0 3)))), (0, .ref ox)]) hx hb dX4_digest_160 hl (by decide) rfl (fun ls hl => ?_)
              refine lv_iload hx hb dX4_digest_162 (lv_at hl 0 rfl) ?_
              refine lv_iconst (v := 4) hx hb dX4_digest_164 (by decide) ?_
              refine lv_icmp_ge (tgt := 195) hx hb dX4_digest_165 (by decide) (fun q => absurd q (by decide)) (fun _ => ?_)
              refine lv_lload_n hx hb dX4_digest_168 rfl (lv_at hl 2 rfl) ?_
              refine lv_ldc2 (v := 31) hx hb hown (hts (.constantLong RX4 175 31) (List.mem_of_getElem? (i := 2) rfl)) dX4_digest_169 ?_
              refine lv_lmul hx hb dX4_digest_172 ?_
              refine lv_aload_n hx hb dX4_digest_173 rfl (lv_at hl 3 rfl) ?_
              refine va_get (D := D) (ci := 4) (v := .ref (a 0)) (C := RX4) (T := TX4) (N := 2) hx hb hts hwX4 hown hE.K hP 0 rfl rfl 0 (by decide) (hts (.fieldLink RX4 10 "SedgeBarges" "now" "LSedgeBarges$Waterway;") (List.mem_of_getElem? (i := 3) rfl)) (fun _ h9 => h9) rfl dX4_digest_174 ?_
              refine va_getN (D := D) (ci := 3) (v := .ref (a 3)) (C := RX3) (T := TX3) (N := 7) hx hb hts hwX3 hown hE.K hP 1 rfl rfl 6 (by decide) (nf_2 hE) (fun _ h9 => h9) rfl dX4_digest_177 ?_
              refine lv_iload_n hx hb dX4_digest_180 rfl (lv_at hl 1 rfl) ?_
              refine lv_iload hx hb dX4_digest_181 (lv_at hl 0 rfl) ?_
              refine goI ([oX ox a a2, oWay a dy co ti ro] ++ (wBeds cA (a 1) u n B ch ++ wBars cA (a 2) v nb G)) (wWay cA a2 dy2 co2 ti2 ro2 u2 n2 B2 ch2 v2 nb2 G2 w2 T2) hP hD hS hA (rnV (rest := [.long (((((((((dd2 * 31) + (Int32.toInt64 (tellL T 0 0))) * 31) + (Int32.toInt64 (tellL T 0 1))) * 31) + (Int32.toInt64 (tellL T 0 2))) * 31) + (Int32.toInt64 (tellL T 0 3))) * 31)]) (c_Land_tell sa tb D cA cL l (a 3) w T 1 0 (show 1 < 3 from by first | omega | assumption | decide) (show 0 < 4 from by first | omega | assumption | decide)) ([oX ox a a2, oWay a dy co ti ro] ++ (wBeds cA (a 1) u n B ch ++ wBars cA (a 2) v nb G)) (wWay cA a2 dy2 co2 ti2 ro2 u2 n2 B2 ch2 v2 nb2 G2 w2 T2) hP hD hS hA hE ⟨hx, hb, hml, hown, hts⟩ (cwV 2 hts gX4_digest_X2_tell rfl rfl rfl (by decide +kernel) ⟨(Nat.le_of_ble_eq_true rfl), (Nat.le_of_ble_eq_true rfl)⟩) 2 0 rfl rfl rfl rfl hl.1 rfl (Nat.le_of_ble_eq_true rfl) dX4_digest_183 ⟨(Nat.le_of_ble_eq_true rfl), (Nat.le_of_ble_eq_true rfl)⟩) (fun _ => rfl) (fun r_183 u_183 H locs hw_183 hP hD hS => ?_)
              have hP : va_P D vwCl (wX cA ox a dy co ti ro u n B ch v nb G w T a2 dy2 co2 ti2 ro2 u2 n2 B2 ch2 v2 nb2 G2 w2 T2) H := hP
              have hD : va_D A (wX cA ox a dy co ti ro u n B ch v nb G w T a2 dy2 co2 ti2 ro2 u2 n2 B2 ch2 v2 nb2 G2 w2 T2) := hD
              refine w_eqi (show r_183 = tellL T 1 0 from hw_183) ?_
              refine lv_i2l (v := (tellL T 1 0 : Int32).toInt64) hx hb dX4_digest_186 rfl ?_
              refine lv_ladd hx hb dX4_digest_187 ?_
              refine lv_lstore_n (lv' := [(1, .long ((((((((((dd2 * 31) + (Int32.toInt64 (tellL T 0 0))) * 31) + (Int32.toInt64 (tellL T 0 1))) * 31) + (Int32.toInt64 (tellL T 0 2))) * 31) + (Int32.toInt64 (tellL T 0 3))) * 31) + (Int32.toInt64 (tellL T 1 0)))), (4, .int 0), (3, .int 1), (0, .ref ox)]) hx hb dX4_digest_188 rfl hl (by decide) rfl (fun ls hl => ?_)
              refine lv_iinc (v := 1) (lv' := [(4, .int 1), (1, .long ((((((((((dd2 * 31) + (Int32.toInt64 (tellL T 0 0))) * 31) + (Int32.toInt64 (tellL T 0 1))) * 31) + (Int32.toInt64 (tellL T 0 2))) * 31) + (Int32.toInt64 (tellL T 0 3))) * 31) + (Int32.toInt64 (tellL T 1 0)))), (3, .int 1), (0, .ref ox)]) (k := 1) hx hb dX4_digest_189 hl rfl (by decide) (by decide) rfl (fun ls hl => ?_)
              refine lv_goto (tgt := 162) hx hb dX4_digest_192 (by decide) ?_
              refine lv_iload hx hb dX4_digest_162 (lv_at hl 0 rfl) ?_
              refine lv_iconst (v := 4) hx hb dX4_digest_164 (by decide) ?_
              refine lv_icmp_ge (tgt := 195) hx hb dX4_digest_165 (by decide) (fun q => absurd q (by decide)) (fun _ => ?_)
              refine lv_lload_n hx hb dX4_digest_168 rfl (lv_at hl 1 rfl) ?_
              refine lv_ldc2 (v := 31) hx hb hown (hts (.constantLong RX4 175 31) (List.mem_of_getElem? (i := 2) rfl)) dX4_digest_169 ?_
              refine lv_lmul hx hb dX4_digest_172 ?_
              refine lv_aload_n hx hb dX4_digest_173 rfl (lv_at hl 3 rfl) ?_
              refine va_get (D := D) (ci := 4) (v := .ref (a 0)) (C := RX4) (T := TX4) (N := 2) hx hb hts hwX4 hown hE.K hP 0 rfl rfl 0 (by decide) (hts (.fieldLink RX4 10 "SedgeBarges" "now" "LSedgeBarges$Waterway;") (List.mem_of_getElem? (i := 3) rfl)) (fun _ h9 => h9) rfl dX4_digest_174 ?_
              refine va_getN (D := D) (ci := 3) (v := .ref (a 3)) (C := RX3) (T := TX3) (N := 7) hx hb hts hwX3 hown hE.K hP 1 rfl rfl 6 (by decide) (nf_2 hE) (fun _ h9 => h9) rfl dX4_digest_177 ?_
              refine lv_iload_n hx hb dX4_digest_180 rfl (lv_at hl 2 rfl) ?_
              refine lv_iload hx hb dX4_digest_181 (lv_at hl 0 rfl) ?_
              refine goI ([oX ox a a2, oWay a dy co ti ro] ++ (wBeds cA (a 1) u n B ch ++ wBars cA (a 2) v nb G)) (wWay cA a2 dy2 co2 ti2 ro2 u2 n2 B2 ch2 v2 nb2 G2 w2 T2) hP hD hS hA (rnV (rest := [.long (((((((((((dd2 * 31) + (Int32.toInt64 (tellL T 0 0))) * 31) + (Int32.toInt64 (tellL T 0 1))) * 31) + (Int32.toInt64 (tellL T 0 2))) * 31) + (Int32.toInt64 (tellL T 0 3))) * 31) + (Int32.toInt64 (tellL T 1 0))) * 31)]) (c_Land_tell sa tb D cA cL l (a 3) w T 1 1 (show 1 < 3 from by first | omega | assumption | decide) (show 1 < 4 from by first | omega | assumption | decide)) ([oX ox a a2, oWay a dy co ti ro] ++ (wBeds cA (a 1) u n B ch ++ wBars cA (a 2) v nb G)) (wWay cA a2 dy2 co2 ti2 ro2 u2 n2 B2 ch2 v2 nb2 G2 w2 T2) hP hD hS hA hE ⟨hx, hb, hml, hown, hts⟩ (cwV 2 hts gX4_digest_X2_tell rfl rfl rfl (by decide +kernel) ⟨(Nat.le_of_ble_eq_true rfl), (Nat.le_of_ble_eq_true rfl)⟩) 2 0 rfl rfl rfl rfl hl.1 rfl (Nat.le_of_ble_eq_true rfl) dX4_digest_183 ⟨(Nat.le_of_ble_eq_true rfl), (Nat.le_of_ble_eq_true rfl)⟩) (fun _ => rfl) (fun r_183 u_183 H locs hw_183 hP hD hS => ?_)
              have hP : va_P D vwCl (wX cA ox a dy co ti ro u n B ch v nb G w T a2 dy2 co2 ti2 ro2 u2 n2 B2 ch2 v2 nb2 G2 w2 T2) H := hP
              have hD : va_D A (wX cA ox a dy co ti ro u n B ch v nb G w T a2 dy2 co2 ti2 ro2 u2 n2 B2 ch2 v2 nb2 G2 w2 T2) := hD
              refine w_eqi (show r_183 = tellL T 1 1 from hw_183) ?_
              refine lv_i2l (v := (tellL T 1 1 : Int32).toInt64) hx hb dX4_digest_186 rfl ?_
              refine lv_ladd hx hb dX4_digest_187 ?_
              refine lv_lstore_n (lv' := [(1, .long ((((((((((((dd2 * 31) + (Int32.toInt64 (tellL T 0 0))) * 31) + (Int32.toInt64 (tellL T 0 1))) * 31) + (Int32.toInt64 (tellL T 0 2))) * 31) + (Int32.toInt64 (tellL T 0 3))) * 31) + (Int32.toInt64 (tellL T 1 0))) * 31) + (Int32.toInt64 (tellL T 1 1)))), (4, .int 1), (3, .int 1), (0, .ref ox)]) hx hb dX4_digest_188 rfl hl (by decide) rfl (fun ls hl => ?_)
              refine lv_iinc (v := 2) (lv' := [(4, .int 2), (1, .long ((((((((((((dd2 * 31) + (Int32.toInt64 (tellL T 0 0))) * 31) + (Int32.toInt64 (tellL T 0 1))) * 31) + (Int32.toInt64 (tellL T 0 2))) * 31) + (Int32.toInt64 (tellL T 0 3))) * 31) + (Int32.toInt64 (tellL T 1 0))) * 31) + (Int32.toInt64 (tellL T 1 1)))), (3, .int 1), (0, .ref ox)]) (k := 1) hx hb dX4_digest_189 hl rfl (by decide) (by decide) rfl (fun ls hl => ?_)
              refine lv_goto (tgt := 162) hx hb dX4_digest_192 (by decide) ?_
              refine lv_iload hx hb dX4_digest_162 (lv_at hl 0 rfl) ?_
              refine lv_iconst (v := 4) hx hb dX4_digest_164 (by decide) ?_
              refine lv_icmp_ge (tgt := 195) hx hb dX4_digest_165 (by decide) (fun q => absurd q (by decide)) (fun _ => ?_)
              refine lv_lload_n hx hb dX4_digest_168 rfl (lv_at hl 1 rfl) ?_
              refine lv_ldc2 (v := 31) hx hb hown (hts (.constantLong RX4 175 31) (List.mem_of_getElem? (i := 2) rfl)) dX4_digest_169 ?_
              refine lv_lmul hx hb dX4_digest_172 ?_
              refine lv_aload_n hx hb dX4_digest_173 rfl (lv_at hl 3 rfl) ?_
              refine va_get (D := D) (ci := 4) (v := .ref (a 0)) (C := RX4) (T := TX4) (N := 2) hx hb hts hwX4 hown hE.K hP 0 rfl rfl 0 (by decide) (hts (.fieldLink RX4 10 "SedgeBarges" "now" "LSedgeBarges$Waterway;") (List.mem_of_getElem? (i := 3) rfl)) (fun _ h9 => h9) rfl dX4_digest_174 ?_
              refine va_getN (D := D) (ci := 3) (v := .ref (a 3)) (C := RX3) (T := TX3) (N := 7) hx hb hts hwX3 hown hE.K hP 1 rfl rfl 6 (by decide) (nf_2 hE) (fun _ h9 => h9) rfl dX4_digest_177 ?_
              refine lv_iload_n hx hb dX4_digest_180 rfl (lv_at hl 2 rfl) ?_
              refine lv_iload hx hb dX4_digest_181 (lv_at hl 0 rfl) ?_
              refine goI ([oX ox a a2, oWay a dy co ti ro] ++ (wBeds cA (a 1) u n B ch ++ wBars cA (a 2) v nb G)) (wWay cA a2 dy2 co2 ti2 ro2 u2 n2 B2 ch2 v2 nb2 G2 w2 T2) hP hD hS hA (rnV (rest := [.long (((((((((((((dd2 * 31) + (Int32.toInt64 (tellL T 0 0))) * 31) + (Int32.toInt64 (tellL T 0 1))) * 31) + (Int32.toInt64 (tellL T 0 2))) * 31) + (Int32.toInt64 (tellL T 0 3))) * 31) + (Int32.toInt64 (tellL T 1 0))) * 31) + (Int32.toInt64 (tellL T 1 1))) * 31)]) (c_Land_tell sa tb D cA cL l (a 3) w T 1 2 (show 1 < 3 from by first | omega | assumption | decide) (show 2 < 4 from by first | omega | assumption | decide)) ([oX ox a a2, oWay a dy co ti ro] ++ (wBeds cA (a 1) u n B ch ++ wBars cA (a 2) v nb G)) (wWay cA a2 dy2 co2 ti2 ro2 u2 n2 B2 ch2 v2 nb2 G2 w2 T2) hP hD hS hA hE ⟨hx, hb, hml, hown, hts⟩ (cwV 2 hts gX4_digest_X2_tell rfl rfl rfl (by decide +kernel) ⟨(Nat.le_of_ble_eq_true rfl), (Nat.le_of_ble_eq_true rfl)⟩) 2 0 rfl rfl rfl rfl hl.1 rfl (Nat.le_of_ble_eq_true rfl) dX4_digest_183 ⟨(Nat.le_of_ble_eq_true rfl), (Nat.le_of_ble_eq_true rfl)⟩) (fun _ => rfl) (fun r_183 u_183 H locs hw_183 hP hD hS => ?_)
              have hP : va_P D vwCl (wX cA ox a dy co ti ro u n B ch v nb G w T a2 dy2 co2 ti2 ro2 u2 n2 B2 ch2 v2 nb2 G2 w2 T2) H := hP
              have hD : va_D A (wX cA ox a dy co ti ro u n B ch v nb G w T a2 dy2 co2 ti2 ro2 u2 n2 B2 ch2 v2 nb2 G2 w2 T2) := hD
              refine w_eqi (show r_183 = tellL T 1 2 from hw_183) ?_
              refine lv_i2l (v := (tellL T 1 2 : Int32).toInt64) hx hb dX4_digest_186 rfl ?_
              refine lv_ladd hx hb dX4_digest_187 ?_
              refine lv_lstore_n (lv' := [(1, .long ((((((((((((((dd2 * 31) + (Int32.toInt64 (tellL T 0 0))) * 31) + (Int32.toInt64 (tellL T 0 1))) * 31) + (Int32.toInt64 (tellL T 0 2))) * 31) + (Int32.toInt64 (tellL T 0 3))) * 31) + (Int32.toInt64 (tellL T 1 0))) * 31) + (Int32.toInt64 (tellL T 1 1))) * 31) + (Int32.toInt64 (tellL T 1 2)))), (4, .int 2), (3, .int 1), (0, .ref ox)]) hx hb dX4_digest_188 rfl hl (by decide) rfl (fun ls hl => ?_)
              refine lv_iinc (v := 3) (lv' := [(4, .int 3), (1, .long ((((((((((((((dd2 * 31) + (Int32.toInt64 (tellL T 0 0))) * 31) + (Int32.toInt64 (tellL T 0 1))) * 31) + (Int32.toInt64 (tellL T 0 2))) * 31) + (Int32.toInt64 (tellL T 0 3))) * 31) + (Int32.toInt64 (tellL T 1 0))) * 31) + (Int32.toInt64 (tellL T 1 1))) * 31) + (Int32.toInt64 (tellL T 1 2)))), (3, .int 1), (0, .ref ox)]) (k := 1) hx hb dX4_digest_189 hl rfl (by decide) (by decide) rfl (fun ls hl => ?_)
              refine lv_goto (tgt := 162) hx hb dX4_digest_192 (by decide) ?_
              refine lv_iload hx hb dX4_digest_162 (lv_at hl 0 rfl) ?_
              refine lv_iconst (v := 4) hx hb dX4_digest_164 (by decide) ?_
              refine lv_icmp_ge (tgt := 195) hx hb dX4_digest_165 (by decide) (fun q => absurd q (by decide)) (fun _ => ?_)
              refine lv_lload_n hx hb dX4_digest_168 rfl (lv_at hl 1 rfl) ?_
              refine lv_ldc2 (v := 31) hx hb hown (hts (.constantLong RX4 175 31) (List.mem_of_getElem? (i := 2) rfl)) dX4_digest_169 ?_
              refine lv_lmul hx hb dX4_digest_172 ?_
              refine lv_aload_n hx hb dX4_digest_173 rfl (lv_at hl 3 rfl) ?_
              refine va_get (D := D) (ci := 4) (v := .ref (a 0)) (C := RX4) (T := TX4) (N := 2) hx hb hts hwX4 hown hE.K hP 0 rfl rfl 0 (by decide) (hts (.fieldLink RX4 10 "SedgeBarges" "now" "LSedgeBarges$Waterway;") (List.mem_of_getElem? (i := 3) rfl)) (fun _ h9 => h9) rfl dX4_digest_174 ?_
              refine va_getN (D := D) (ci := 3) (v := .ref (a 3)) (C := RX3) (T := TX3) (N := 7) hx hb hts hwX3 hown hE.K hP 1 rfl rfl 6 (by decide) (nf_2 hE) (fun _ h9 => h9) rfl dX4_digest_177 ?_
              refine lv_iload_n hx hb dX4_digest_180 rfl (lv_at hl 2 rfl) ?_
              refine lv_iload hx hb dX4_digest_181 (lv_at hl 0 rfl) ?_
              refine goI ([oX ox a a2, oWay a dy co ti ro] ++ (wBeds cA (a 1) u n B ch ++ wBars cA (a 2) v nb G)) (wWay cA a2 dy2 co2 ti2 ro2 u2 n2 B2 ch2 v2 nb2 G2 w2 T2) hP hD hS hA (rnV (rest := [.long (((((((((((((((dd2 * 31) + (Int32.toInt64 (tellL T 0 0))) * 31) + (Int32.toInt64 (tellL T 0 1))) * 31) + (Int32.toInt64 (tellL T 0 2))) * 31) + (Int32.toInt64 (tellL T 0 3))) * 31) + (Int32.toInt64 (tellL T 1 0))) * 31) + (Int32.toInt64 (tellL T 1 1))) * 31) + (Int32.toInt64 (tellL T 1 2))) * 31)]) (c_Land_tell sa tb D cA cL l (a 3) w T 1 3 (show 1 < 3 from by first | omega | assumption | decide) (show 3 < 4 from by first | omega | assumption | decide)) ([oX ox a a2, oWay a dy co ti ro] ++ (wBeds cA (a 1) u n B ch ++ wBars cA (a 2) v nb G)) (wWay cA a2 dy2 co2 ti2 ro2 u2 n2 B2 ch2 v2 nb2 G2 w2 T2) hP hD hS hA hE ⟨hx, hb, hml, hown, hts⟩ (cwV 2 hts gX4_digest_X2_tell rfl rfl rfl (by decide +kernel) ⟨(Nat.le_of_ble_eq_true rfl), (Nat.le_of_ble_eq_true rfl)⟩) 2 0 rfl rfl rfl rfl hl.1 rfl (Nat.le_of_ble_eq_true rfl) dX4_digest_183 ⟨(Nat.le_of_ble_eq_true rfl), (Nat.le_of_ble_eq_true rfl)⟩) (fun _ => rfl) (fun r_183 u_183 H locs hw_183 hP hD hS => ?_)
              have hP : va_P D vwCl (wX cA ox a dy co ti ro u n B ch v nb G w T a2 dy2 co2 ti2 ro2 u2 n2 B2 ch2 v2 nb2 G2 w2 T2) H := hP
              have hD : va_D A (wX cA ox a dy co ti ro u n B ch v nb G w T a2 dy2 co2 ti2 ro2 u2 n2 B2 ch2 v2 nb2 G2 w2 T2) := hD
              refine w_eqi (show r_183 = tellL T 1 3 from hw_183) ?_
              refine lv_i2l (v := (tellL T 1 3 : Int32).toInt64) hx hb dX4_digest_186 rfl ?_
              refine lv_ladd hx hb dX4_digest_187 ?_
              refine lv_lstore_n (lv' := [(1, .long ((((((((((((((((dd2 * 31) + (Int32.toInt64 (tellL T 0 0))) * 31) + (Int32.toInt64 (tellL T 0 1))) * 31) + (Int32.toInt64 (tellL T 0 2))) * 31) + (Int32.toInt64 (tellL T 0 3))) * 31) + (Int32.toInt64 (tellL T 1 0))) * 31) + (Int32.toInt64 (tellL T 1 1))) * 31) + (Int32.toInt64 (tellL T 1 2))) * 31) + (Int32.toInt64 (tellL T 1 3)))), (4, .int 3), (3, .int 1), (0, .ref ox)]) hx hb dX4_digest_188 rfl hl (by decide) rfl (fun ls hl => ?_)
              refine lv_iinc (v := 4) (lv' := [(4, .int 4), (1, .long ((((((((((((((((dd2 * 31) + (Int32.toInt64 (tellL T 0 0))) * 31) + (Int32.toInt64 (tellL T 0 1))) * 31) + (Int32.toInt64 (tellL T 0 2))) * 31) + (Int32.toInt64 (tellL T 0 3))) * 31) + (Int32.toInt64 (tellL T 1 0))) * 31) + (Int32.toInt64 (tellL T 1 1))) * 31) + (Int32.toInt64 (tellL T 1 2))) * 31) + (Int32.toInt64 (tellL T 1 3)))), (3, .int 1), (0, .ref ox)]) (k := 1) hx hb dX4_digest_189 hl rfl (by decide) (by decide) rfl (fun ls hl => ?_)
              refine lv_goto (tgt := 162) hx hb dX4_digest_192 (by decide) ?_
              refine lv_iload hx hb dX4_digest_162 (lv_at hl 0 rfl) ?_
              refine lv_iconst (v := 4) hx hb dX4_digest_164 (by decide) ?_
              refine lv_icmp_ge (tgt := 195) hx hb dX4_digest_165 (by decide) (fun _ => ?_) (fun q => absurd (by decide) q)
              refine lv_iinc (v := 2) (lv' := [(3, .int 2), (4, .int 4), (1, .long ((((((((((((((((dd2 * 31) + (Int32.toInt64 (tellL T 0 0))) * 31) + (Int32.toInt64 (tellL T 0 1))) * 31) + (Int32.toInt64 (tellL T 0 2))) * 31) + (Int32.toInt64 (tellL T 0 3))) * 31) + (Int32.toInt64 (tellL T 1 0))) * 31) + (Int32.toInt64 (tellL T 1 1))) * 31) + (Int32.toInt64 (tellL T 1 2))) * 31) + (Int32.toInt64 (tellL T 1 3)))), (0, .ref ox)]) (k := 2) hx hb dX4_digest_195 hl rfl (by decide) (by decide) rfl (fun ls hl => ?_)
              refine lv_goto (tgt := 154) hx hb dX4_digest_198 (by decide) ?_
              refine lv_iload_n hx hb dX4_digest_154 rfl (lv_at hl 0 rfl) ?_
              refine lv_iconst (v := 3) hx hb dX4_digest_155 (by decide) ?_
              refine lv_icmp_ge (tgt := 201) hx hb dX4_digest_156 (by decide) (fun q => absurd q (by decide)) (fun _ => ?_)
              refine lv_iconst (v := 0) hx hb dX4_digest_159 (by decide) ?_
              refine lv_istore (lv' := [(4, .int 0), (3, .int 2), (1, .long ((((((((((((((((dd2 * 31) + (Int32.toInt64 (tellL T 0 0))) * 31) + (Int32.toInt64 (tellL T 0 1))) * 31) + (Int32.toInt64 (tellL T 0 2))) * 31) + (Int32.toInt64 (tellL T 0 3))) * 31) + (Int32.toInt64 (tellL T 1 0))) * 31) + (Int32.toInt64 (tellL T 1 1))) * 31) + (Int32.toInt64 (tellL T 1 2))) * 31) + (Int32.toInt64 (tellL T 1 3)))), (0, .ref ox)]) hx hb dX4_digest_160 hl (by decide) rfl (fun ls hl => ?_)
              refine lv_iload hx hb dX4_digest_162 (lv_at hl 0 rfl) ?_
              refine lv_iconst (v := 4) hx hb dX4_digest_164 (by decide) ?_
              refine lv_icmp_ge (tgt := 195) hx hb dX4_digest_165 (by decide) (fun q => absurd q (by decide)) (fun _ => ?_)
              refine lv_lload_n hx hb dX4_digest_168 rfl (lv_at hl 2 rfl) ?_
              refine lv_ldc2 (v := 31) hx hb hown (hts (.constantLong RX4 175 31) (List.mem_of_getElem? (i := 2) rfl)) dX4_digest_169 ?_
              refine lv_lmul hx hb dX4_digest_172 ?_
              refine lv_aload_n hx hb dX4_digest_173 rfl (lv_at hl 3 rfl) ?_
              refine va_get (D := D) (ci := 4) (v := .ref (a 0)) (C := RX4) (T := TX4) (N := 2) hx hb hts hwX4 hown hE.K hP 0 rfl rfl 0 (by decide) (hts (.fieldLink RX4 10 "SedgeBarges" "now" "LSedgeBarges$Waterway;") (List.mem_of_getElem? (i := 3) rfl)) (fun _ h9 => h9) rfl dX4_digest_174 ?_
              refine va_getN (D := D) (ci := 3) (v := .ref (a 3)) (C := RX3) (T := TX3) (N := 7) hx hb hts hwX3 hown hE.K hP 1 rfl rfl 6 (by decide) (nf_2 hE) (fun _ h9 => h9) rfl dX4_digest_177 ?_
              refine lv_iload_n hx hb dX4_digest_180 rfl (lv_at hl 1 rfl) ?_
              refine lv_iload hx hb dX4_digest_181 (lv_at hl 0 rfl) ?_
              refine goI ([oX ox a a2, oWay a dy co ti ro] ++ (wBeds cA (a 1) u n B ch ++ wBars cA (a 2) v nb G)) (wWay cA a2 dy2 co2 ti2 ro2 u2 n2 B2 ch2 v2 nb2 G2 w2 T2) hP hD hS hA (rnV (rest := [.long (((((((((((((((((dd2 * 31) + (Int32.toInt64 (tellL T 0 0))) * 31) + (Int32.toInt64 (tellL T 0 1))) * 31) + (Int32.toInt64 (tellL T 0 2))) * 31) + (Int32.toInt64 (tellL T 0 3))) * 31) + (Int32.toInt64 (tellL T 1 0))) * 31) + (Int32.toInt64 (tellL T 1 1))) * 31) + (Int32.toInt64 (tellL T 1 2))) * 31) + (Int32.toInt64 (tellL T 1 3))) * 31)]) (c_Land_tell sa tb D cA cL l (a 3) w T 2 0 (show 2 < 3 from by first | omega | assumption | decide) (show 0 < 4 from by first | omega | assumption | decide)) ([oX ox a a2, oWay a dy co ti ro] ++ (wBeds cA (a 1) u n B ch ++ wBars cA (a 2) v nb G)) (wWay cA a2 dy2 co2 ti2 ro2 u2 n2 B2 ch2 v2 nb2 G2 w2 T2) hP hD hS hA hE ⟨hx, hb, hml, hown, hts⟩ (cwV 2 hts gX4_digest_X2_tell rfl rfl rfl (by decide +kernel) ⟨(Nat.le_of_ble_eq_true rfl), (Nat.le_of_ble_eq_true rfl)⟩) 2 0 rfl rfl rfl rfl hl.1 rfl (Nat.le_of_ble_eq_true rfl) dX4_digest_183 ⟨(Nat.le_of_ble_eq_true rfl), (Nat.le_of_ble_eq_true rfl)⟩) (fun _ => rfl) (fun r_183 u_183 H locs hw_183 hP hD hS => ?_)
              have hP : va_P D vwCl (wX cA ox a dy co ti ro u n B ch v nb G w T a2 dy2 co2 ti2 ro2 u2 n2 B2 ch2 v2 nb2 G2 w2 T2) H := hP
              have hD : va_D A (wX cA ox a dy co ti ro u n B ch v nb G w T a2 dy2 co2 ti2 ro2 u2 n2 B2 ch2 v2 nb2 G2 w2 T2) := hD
              refine w_eqi (show r_183 = tellL T 2 0 from hw_183) ?_
              refine lv_i2l (v := (tellL T 2 0 : Int32).toInt64) hx hb dX4_digest_186 rfl ?_
              refine lv_ladd hx hb dX4_digest_187 ?_
              refine lv_lstore_n (lv' := [(1, .long ((((((((((((((((((dd2 * 31) + (Int32.toInt64 (tellL T 0 0))) * 31) + (Int32.toInt64 (tellL T 0 1))) * 31) + (Int32.toInt64 (tellL T 0 2))) * 31) + (Int32.toInt64 (tellL T 0 3))) * 31) + (Int32.toInt64 (tellL T 1 0))) * 31) + (Int32.toInt64 (tellL T 1 1))) * 31) + (Int32.toInt64 (tellL T 1 2))) * 31) + (Int32.toInt64 (tellL T 1 3))) * 31) + (Int32.toInt64 (tellL T 2 0)))), (4, .int 0), (3, .int 2), (0, .ref ox)]) hx hb dX4_digest_188 rfl hl (by decide) rfl (fun ls hl => ?_)
              refine lv_iinc (v := 1) (lv' := [(4, .int 1), (1, .long ((((((((((((((((((dd2 * 31) + (Int32.toInt64 (tellL T 0 0))) * 31) + (Int32.toInt64 (tellL T 0 1))) * 31) + (Int32.toInt64 (tellL T 0 2))) * 31) + (Int32.toInt64 (tellL T 0 3))) * 31) + (Int32.toInt64 (tellL T 1 0))) * 31) + (Int32.toInt64 (tellL T 1 1))) * 31) + (Int32.toInt64 (tellL T 1 2))) * 31) + (Int32.toInt64 (tellL T 1 3))) * 31) + (Int32.toInt64 (tellL T 2 0)))), (3, .int 2), (0, .ref ox)]) (k := 1) hx hb dX4_digest_189 hl rfl (by decide) (by decide) rfl (fun ls hl => ?_)
              refine lv_goto (tgt := 162) hx hb dX4_digest_192 (by decide) ?_
              refine lv_iload hx hb dX4_digest_162 (lv_at hl 0 rfl) ?_
              refine lv_iconst (v := 4) hx hb dX4_digest_164 (by decide) ?_
              refine lv_icmp_ge (tgt := 195) hx hb dX4_digest_165 (by decide) (fun q => absurd q (by decide)) (fun _ => ?_)
              refine lv_lload_n hx hb dX4_digest_168 rfl (lv_at hl 1 rfl) ?_
              refine lv_ldc2 (v := 31) hx hb hown (hts (.constantLong RX4 175 31) (List.mem_of_getElem? (i := 2) rfl)) dX4_digest_169 ?_
              refine lv_lmul hx hb dX4_digest_172 ?_
              refine lv_aload_n hx hb dX4_digest_173 rfl (lv_at hl 3 rfl) ?_
              refine va_get (D := D) (ci := 4) (v := .ref (a 0)) (C := RX4) (T := TX4) (N := 2) hx hb hts hwX4 hown hE.K hP 0 rfl rfl 0 (by decide) (hts (.fieldLink RX4 10 "SedgeBarges" "now" "LSedgeBarges$Waterway;") (List.mem_of_getElem? (i := 3) rfl)) (fun _ h9 => h9) rfl dX4_digest_174 ?_
              refine va_getN (D := D) (ci := 3) (v := .ref (a 3)) (C := RX3) (T := TX3) (N := 7) hx hb hts hwX3 hown hE.K hP 1 rfl rfl 6 (by decide) (nf_2 hE) (fun _ h9 => h9) rfl dX4_digest_177 ?_
              refine lv_iload_n hx hb dX4_digest_180 rfl (lv_at hl 2 rfl) ?_
              refine lv_iload hx hb dX4_digest_181 (lv_at hl 0 rfl) ?_
              refine goI ([oX ox a a2, oWay a dy co ti ro] ++ (wBeds cA (a 1) u n B ch ++ wBars cA (a 2) v nb G)) (wWay cA a2 dy2 co2 ti2 ro2 u2 n2 B2 ch2 v2 nb2 G2 w2 T2) hP hD hS hA (rnV (rest := [.long (((((((((((((((((((dd2 * 31) + (Int32.toInt64 (tellL T 0 0))) * 31) + (Int32.toInt64 (tellL T 0 1))) * 31) + (Int32.toInt64 (tellL T 0 2))) * 31) + (Int32.toInt64 (tellL T 0 3))) * 31) + (Int32.toInt64 (tellL T 1 0))) * 31) + (Int32.toInt64 (tellL T 1 1))) * 31) + (Int32.toInt64 (tellL T 1 2))) * 31) + (Int32.toInt64 (tellL T 1 3))) * 31) + (Int32.toInt64 (tellL T 2 0))) * 31)]) (c_Land_tell sa tb D cA cL l (a 3) w T 2 1 (show 2 < 3 from by first | omega | assumption | decide) (show 1 < 4 from by first | omega | assumption | decide)) ([oX ox a a2, oWay a dy co ti ro] ++ (wBeds cA (a 1) u n B ch ++ wBars cA (a 2) v nb G)) (wWay cA a2 dy2 co2 ti2 ro2 u2 n2 B2 ch2 v2 nb2 G2 w2 T2) hP hD hS hA hE ⟨hx, hb, hml, hown, hts⟩ (cwV 2 hts gX4_digest_X2_tell rfl rfl rfl (by decide +kernel) ⟨(Nat.le_of_ble_eq_true rfl), (Nat.le_of_ble_eq_true rfl)⟩) 2 0 rfl rfl rfl rfl hl.1 rfl (Nat.le_of_ble_eq_true rfl) dX4_digest_183 ⟨(Nat.le_of_ble_eq_true rfl), (Nat.le_of_ble_eq_true rfl)⟩) (fun _ => rfl) (fun r_183 u_183 H locs hw_183 hP hD hS => ?_)
              have hP : va_P D vwCl (wX cA ox a dy co ti ro u n B ch v nb G w T a2 dy2 co2 ti2 ro2 u2 n2 B2 ch2 v2 nb2 G2 w2 T2) H := hP
              have hD : va_D A (wX cA ox a dy co ti ro u n B ch v nb G w T a2 dy2 co2 ti2 ro2 u2 n2 B2 ch2 v2 nb2 G2 w2 T2) := hD
              refine w_eqi (show r_183 = tellL T 2 1 from hw_183) ?_
              refine lv_i2l (v := (tellL T 2 1 : Int32).toInt64) hx hb dX4_digest_186 rfl ?_
              refine lv_ladd hx hb dX4_digest_187 ?_
              refine lv_lstore_n (lv' := [(1, .long ((((((((((((((((((((dd2 * 31) + (Int32.toInt64 (tellL T 0 0))) * 31) + (Int32.toInt64 (tellL T 0 1))) * 31) + (Int32.toInt64 (tellL T 0 2))) * 31) + (Int32.toInt64 (tellL T 0 3))) * 31) + (Int32.toInt64 (tellL T 1 0))) * 31) + (Int32.toInt64 (tellL T 1 1))) * 31) + (Int32.toInt64 (tellL T 1 2))) * 31) + (Int32.toInt64 (tellL T 1 3))) * 31) + (Int32.toInt64 (tellL T 2 0))) * 31) + (Int32.toInt64 (tellL T 2 1)))), (4, .int 1), (3, .int 2), (0, .ref ox)]) hx hb dX4_digest_188 rfl hl (by decide) rfl (fun ls hl => ?_)
              refine lv_iinc (v := 2) (lv' := [(4, .int 2), (1, .long ((((((((((((((((((((dd2 * 31) + (Int32.toInt64 (tellL T 0 0))) * 31) + (Int32.toInt64 (tellL T 0 1))) * 31) + (Int32.toInt64 (tellL T 0 2))) * 31) + (Int32.toInt64 (tellL T 0 3))) * 31) + (Int32.toInt64 (tellL T 1 0))) * 31) + (Int32.toInt64 (tellL T 1 1))) * 31) + (Int32.toInt64 (tellL T 1 2))) * 31) + (Int32.toInt64 (tellL T 1 3))) * 31) + (Int32.toInt64 (tellL T 2 0))) * 31) + (Int32.toInt64 (tellL T 2 1)))), (3, .int 2), (0, .ref ox)]) (k := 1) hx hb dX4_digest_189 hl rfl (by decide) (by decide) rfl (fun ls hl => ?_)
              refine lv_goto (tgt := 162) hx hb dX4_digest_192 (by decide) ?_
              refine lv_iload hx hb dX4_digest_162 (lv_at hl 0 rfl) ?_
              refine lv_iconst (v := 4) hx hb dX4_digest_164 (by decide) ?_
              refine lv_icmp_ge (tgt := 195) hx hb dX4_digest_165 (by decide) (fun q => absurd q (by decide)) (fun _ => ?_)
              refine lv_lload_n hx hb dX4_digest_168 rfl (lv_at hl 1 rfl) ?_
              refine lv_ldc2 (v := 31) hx hb hown (hts (.constantLong RX4 175 31) (List.mem_of_getElem? (i := 2) rfl)) dX4_digest_169 ?_
              refine lv_lmul hx hb dX4_digest_172 ?_
              refine lv_aload_n hx hb dX4_digest_173 rfl (lv_at hl 3 rfl) ?_
              refine va_get (D := D) (ci := 4) (v := .ref (a 0)) (C := RX4) (T := TX4) (N := 2) hx hb hts hwX4 hown hE.K hP 0 rfl rfl 0 (by decide) (hts (.fieldLink RX4 10 "SedgeBarges" "now" "LSedgeBarges$Waterway;") (List.mem_of_getElem? (i := 3) rfl)) (fun _ h9 => h9) rfl dX4_digest_174 ?_
              refine va_getN (D := D) (ci := 3) (v := .ref (a 3)) (C := RX3) (T := TX3) (N := 7) hx hb hts hwX3 hown hE.K hP 1 rfl rfl 6 (by decide) (nf_2 hE) (fun _ h9 => h9) rfl dX4_digest_177 ?_
              refine lv_iload_n hx hb dX4_digest_180 rfl (lv_at hl 2 rfl) ?_
              refine lv_iload hx hb dX4_digest_181 (lv_at hl 0 rfl) ?_
              refine goI ([oX ox a a2, oWay a dy co ti ro] ++ (wBeds cA (a 1) u n B ch ++ wBars cA (a 2) v nb G)) (wWay cA a2 dy2 co2 ti2 ro2 u2 n2 B2 ch2 v2 nb2 G2 w2 T2) hP hD hS hA (rnV (rest := [.long (((((((((((((((((((((dd2 * 31) + (Int32.toInt64 (tellL T 0 0))) * 31) + (Int32.toInt64 (tellL T 0 1))) * 31) + (Int32.toInt64 (tellL T 0 2))) * 31) + (Int32.toInt64 (tellL T 0 3))) * 31) + (Int32.toInt64 (tellL T 1 0))) * 31) + (Int32.toInt64 (tellL T 1 1))) * 31) + (Int32.toInt64 (tellL T 1 2))) * 31) + (Int32.toInt64 (tellL T 1 3))) * 31) + (Int32.toInt64 (tellL T 2 0))) * 31) + (Int32.toInt64 (tellL T 2 1))) * 31)]) (c_Land_tell sa tb D cA cL l (a 3) w T 2 2 (show 2 < 3 from by first | omega | assumption | decide) (show 2 < 4 from by first | omega | assumption | decide)) ([oX ox a a2, oWay a dy co ti ro] ++ (wBeds cA (a 1) u n B ch ++ wBars cA (a 2) v nb G)) (wWay cA a2 dy2 co2 ti2 ro2 u2 n2 B2 ch2 v2 nb2 G2 w2 T2) hP hD hS hA hE ⟨hx, hb, hml, hown, hts⟩ (cwV 2 hts gX4_digest_X2_tell rfl rfl rfl (by decide +kernel) ⟨(Nat.le_of_ble_eq_true rfl), (Nat.le_of_ble_eq_true rfl)⟩) 2 0 rfl rfl rfl rfl hl.1 rfl (Nat.le_of_ble_eq_true rfl) dX4_digest_183 ⟨(Nat.le_of_ble_eq_true rfl), (Nat.le_of_ble_eq_true rfl)⟩) (fun _ => rfl) (fun r_183 u_183 H locs hw_183 hP hD hS => ?_)
              have hP : va_P D vwCl (wX cA ox a dy co ti ro u n B ch v nb G w T a2 dy2 co2 ti2 ro2 u2 n2 B2 ch2 v2 nb2 G2 w2 T2) H := hP
              have hD : va_D A (wX cA ox a dy co ti ro u n B ch v nb G w T a2 dy2 co2 ti2 ro2 u2 n2 B2 ch2 v2 nb2 G2 w2 T2) := hD
              refine w_eqi (show r_183 = tellL T 2 2 from hw_183) ?_
              refine lv_i2l (v := (tellL T 2 2 : Int32).toInt64) hx hb dX4_digest_186 rfl ?_
              refine lv_ladd hx hb dX4_digest_187 ?_
              refine lv_lstore_n (lv' := [(1, .long ((((((((((((((((((((((dd2 * 31) + (Int32.toInt64 (tellL T 0 0))) * 31) + (Int32.toInt64 (tellL T 0 1))) * 31) + (Int32.toInt64 (tellL T 0 2))) * 31) + (Int32.toInt64 (tellL T 0 3))) * 31) + (Int32.toInt64 (tellL T 1 0))) * 31) + (Int32.toInt64 (tellL T 1 1))) * 31) + (Int32.toInt64 (tellL T 1 2))) * 31) + (Int32.toInt64 (tellL T 1 3))) * 31) + (Int32.toInt64 (tellL T 2 0))) * 31) + (Int32.toInt64 (tellL T 2 1))) * 31) + (Int32.toInt64 (tellL T 2 2)))), (4, .int 2), (3, .int 2), (0, .ref ox)]) hx hb dX4_digest_188 rfl hl (by decide) rfl (fun ls hl => ?_)
              refine lv_iinc (v := 3) (lv' := [(4, .int 3), (1, .long ((((((((((((((((((((((dd2 * 31) + (Int32.toInt64 (tellL T 0 0))) * 31) + (Int32.toInt64 (tellL T 0 1))) * 31) + (Int32.toInt64 (tellL T 0 2))) * 31) + (Int32.toInt64 (tellL T 0 3))) * 31) + (Int32.toInt64 (tellL T 1 0))) * 31) + (Int32.toInt64 (tellL T 1 1))) * 31) + (Int32.toInt64 (tellL T 1 2))) * 31) + (Int32.toInt64 (tellL T 1 3))) * 31) + (Int32.toInt64 (tellL T 2 0))) * 31) + (Int32.toInt64 (tellL T 2 1))) * 31) + (Int32.toInt64 (tellL T 2 2)))), (3, .int 2), (0, .ref ox)]) (k := 1) hx hb dX4_digest_189 hl rfl (by decide) (by decide) rfl (fun ls hl => ?_)
              refine lv_goto (tgt := 162) hx hb dX4_digest_192 (by decide) ?_
              refine lv_iload hx hb dX4_digest_162 (lv_at hl 0 rfl) ?_
              refine lv_iconst (v := 4) hx hb dX4_digest_164 (by decide) ?_
              refine lv_icmp_ge (tgt := 195) hx hb dX4_digest_165 (by decide) (fun q => absurd q (by decide)) (fun _ => ?_)
              refine lv_lload_n hx hb dX4_digest_168 rfl (lv_at hl 1 rfl) ?_
              refine lv_ldc2 (v := 31) hx hb hown (hts (.constantLong RX4 175 31) (List.mem_of_getElem? (i := 2) rfl)) dX4_digest_169 ?_
              refine lv_lmul hx hb dX4_digest_172 ?_
              refine lv_aload_n hx hb dX4_digest_173 rfl (lv_at hl 3 rfl) ?_
              refine va_get (D := D) (ci := 4) (v := .ref (a 0)) (C := RX4) (T := TX4) (N := 2) hx hb hts hwX4 hown hE.K hP 0 rfl rfl 0 (by decide) (hts (.fieldLink RX4 10 "SedgeBarges" "now" "LSedgeBarges$Waterway;") (List.mem_of_getElem? (i := 3) rfl)) (fun _ h9 => h9) rfl dX4_digest_174 ?_
              refine va_getN (D := D) (ci := 3) (v := .ref (a 3)) (C := RX3) (T := TX3) (N := 7) hx hb hts hwX3 hown hE.K hP 1 rfl rfl 6 (by decide) (nf_2 hE) (fun _ h9 => h9) rfl dX4_digest_177 ?_
              refine lv_iload_n hx hb dX4_digest_180 rfl (lv_at hl 2 rfl) ?_
              refine lv_iload hx hb dX4_digest_181 (lv_at hl 0 rfl) ?_
              refine goI ([oX ox a a2, oWay a dy co ti ro] ++ (wBeds cA (a 1) u n B ch ++ wBars cA (a 2) v nb G)) (wWay cA a2 dy2 co2 ti2 ro2 u2 n2 B2 ch2 v2 nb2 G2 w2 T2) hP hD hS hA (rnV (rest := [.long (((((((((((((((((((((((dd2 * 31) + (Int32.toInt64 (tellL T 0 0))) * 31) + (Int32.toInt64 (tellL T 0 1))) * 31) + (Int32.toInt64 (tellL T 0 2))) * 31) + (Int32.toInt64 (tellL T 0 3))) * 31) + (Int32.toInt64 (tellL T 1 0))) * 31) + (Int32.toInt64 (tellL T 1 1))) * 31) + (Int32.toInt64 (tellL T 1 2))) * 31) + (Int32.toInt64 (tellL T 1 3))) * 31) + (Int32.toInt64 (tellL T 2 0))) * 31) + (Int32.toInt64 (tellL T 2 1))) * 31) + (Int32.toInt64 (tellL T 2 2))) * 31)]) (c_Land_tell sa tb D cA cL l (a 3) w T 2 3 (show 2 < 3 from by first | omega | assumption | decide) (show 3 < 4 from by first | omega | assumption | decide)) ([oX ox a a2, oWay a dy co ti ro] ++ (wBeds cA (a 1) u n B ch ++ wBars cA (a 2) v nb G)) (wWay cA a2 dy2 co2 ti2 ro2 u2 n2 B2 ch2 v2 nb2 G2 w2 T2) hP hD hS hA hE ⟨hx, hb, hml, hown, hts⟩ (cwV 2 hts gX4_digest_X2_tell rfl rfl rfl (by decide +kernel) ⟨(Nat.le_of_ble_eq_true rfl), (Nat.le_of_ble_eq_true rfl)⟩) 2 0 rfl rfl rfl rfl hl.1 rfl (Nat.le_of_ble_eq_true rfl) dX4_digest_183 ⟨(Nat.le_of_ble_eq_true rfl), (Nat.le_of_ble_eq_true rfl)⟩) (fun _ => rfl) (fun r_183 u_183 H locs hw_183 hP hD hS => ?_)
              have hP : va_P D vwCl (wX cA ox a dy co ti ro u n B ch v nb G w T a2 dy2 co2 ti2 ro2 u2 n2 B2 ch2 v2 nb2 G2 w2 T2) H := hP
              have hD : va_D A (wX cA ox a dy co ti ro u n B ch v nb G w T a2 dy2 co2 ti2 ro2 u2 n2 B2 ch2 v2 nb2 G2 w2 T2) := hD
              refine w_eqi (show r_183 = tellL T 2 3 from hw_183) ?_
              refine lv_i2l (v := (tellL T 2 3 : Int32).toInt64) hx hb dX4_digest_186 rfl ?_
              refine lv_ladd hx hb dX4_digest_187 ?_
              refine lv_lstore_n (lv' := [(1, .long ((((((((((((((((((((((((dd2 * 31) + (Int32.toInt64 (tellL T 0 0))) * 31) + (Int32.toInt64 (tellL T 0 1))) * 31) + (Int32.toInt64 (tellL T 0 2))) * 31) + (Int32.toInt64 (tellL T 0 3))) * 31) + (Int32.toInt64 (tellL T 1 0))) * 31) + (Int32.toInt64 (tellL T 1 1))) * 31) + (Int32.toInt64 (tellL T 1 2))) * 31) + (Int32.toInt64 (tellL T 1 3))) * 31) + (Int32.toInt64 (tellL T 2 0))) * 31) + (Int32.toInt64 (tellL T 2 1))) * 31) + (Int32.toInt64 (tellL T 2 2))) * 31) + (Int32.toInt64 (tellL T 2 3)))), (4, .int 3), (3, .int 2), (0, .ref ox)]) hx hb dX4_digest_188 rfl hl (by decide) rfl (fun ls hl => ?_)
              refine lv_iinc (v := 4) (lv' := [(4, .int 4), (1, .long ((((((((((((((((((((((((dd2 * 31) + (Int32.toInt64 (tellL T 0 0))) * 31) + (Int32.toInt64 (tellL T 0 1))) * 31) + (Int32.toInt64 (tellL T 0 2))) * 31) + (Int32.toInt64 (tellL T 0 3))) * 31) + (Int32.toInt64 (tellL T 1 0))) * 31) + (Int32.toInt64 (tellL T 1 1))) * 31) + (Int32.toInt64 (tellL T 1 2))) * 31) + (Int32.toInt64 (tellL T 1 3))) * 31) + (Int32.toInt64 (tellL T 2 0))) * 31) + (Int32.toInt64 (tellL T 2 1))) * 31) + (Int32.toInt64 (tellL T 2 2))) * 31) + (Int32.toInt64 (tellL T 2 3)))), (3, .int 2), (0, .ref ox)]) (k := 1) hx hb dX4_digest_189 hl rfl (by decide) (by decide) rfl (fun ls hl => ?_)
              refine lv_goto (tgt := 162) hx hb dX4_digest_192 (by decide) ?_
              refine lv_iload hx hb dX4_digest_162 (lv_at hl 0 rfl) ?_
              refine lv_iconst (v := 4) hx hb dX4_digest_164 (by decide) ?_
              refine lv_icmp_ge (tgt := 195) hx hb dX4_digest_165 (by decide) (fun _ => ?_) (fun q => absurd (by decide) q)
              refine lv_iinc (v := 3) (lv' := [(3, .int 3), (4, .int 4), (1, .long ((((((((((((((((((((((((dd2 * 31) + (Int32.toInt64 (tellL T 0 0))) * 31) + (Int32.toInt64 (tellL T 0 1))) * 31) + (Int32.toInt64 (tellL T 0 2))) * 31) + (Int32.toInt64 (tellL T 0 3))) * 31) + (Int32.toInt64 (tellL T 1 0))) * 31) + (Int32.toInt64 (tellL T 1 1))) * 31) + (Int32.toInt64 (tellL T 1 2))) * 31) + (Int32.toInt64 (tellL T 1 3))) * 31) + (Int32.toInt64 (tellL T 2 0))) * 31) + (Int32.toInt64 (tellL T 2 1))) * 31) + (Int32.toInt64 (tellL T 2 2))) * 31) + (Int32.toInt64 (tellL T 2 3)))), (0, .ref ox)]) (k := 2) hx hb dX4_digest_195 hl rfl (by decide) (by decide) rfl (fun ls hl => ?_)
              refine lv_goto (tgt := 154) hx hb dX4_digest_198 (by decide) ?_
              refine lv_iload_n hx hb dX4_digest_154 rfl (lv_at hl 0 rfl) ?_
              refine lv_iconst (v := 3) hx hb dX4_digest_155 (by decide) ?_
              refine lv_icmp_ge (tgt := 201) hx hb dX4_digest_156 (by decide) (fun _ => ?_) (fun q => absurd (by decide) q)
              refine lv_lload_n hx hb dX4_digest_201 rfl (lv_at hl 2 rfl) ?_
              rw [show i2 = nb from by omega] at hdd2
              subst hdd2
              exact enL () hx hb hr hlocks hS hP (rfl) dX4_digest_202
            · refine lv_iconst (v := 0) hx hb dX4_digest_109 (by decide) ?_
              refine lv_istore (lv' := [(4, .int 0), (0, .ref ox), (1, .long dd2), (3, .int (nI i2))]) hx hb dX4_digest_110 hl (by decide) rfl (fun ls hl => ?_)
              refine lv_iload hx hb dX4_digest_112 (lv_at hl 0 rfl) ?_
              refine lv_bipush (v := 6) hx hb dX4_digest_114 (by decide) ?_
              refine lv_icmp_ge (tgt := 146) hx hb dX4_digest_116 (by decide) (fun q => absurd q (by decide)) (fun _ => ?_)
              refine lv_lload_n hx hb dX4_digest_119 rfl (lv_at hl 2 rfl) ?_
              refine lv_ldc2 (v := 31) hx hb hown (hts (.constantLong RX4 175 31) (List.mem_of_getElem? (i := 2) rfl)) dX4_digest_120 ?_
              refine lv_lmul hx hb dX4_digest_123 ?_
              refine lv_aload_n hx hb dX4_digest_124 rfl (lv_at hl 1 rfl) ?_
              refine va_get (D := D) (ci := 4) (v := .ref (a 0)) (C := RX4) (T := TX4) (N := 2) hx hb hts hwX4 hown hE.K hP 0 rfl rfl 0 (by decide) (hts (.fieldLink RX4 10 "SedgeBarges" "now" "LSedgeBarges$Waterway;") (List.mem_of_getElem? (i := 3) rfl)) (fun _ h9 => h9) rfl dX4_digest_125 ?_
              refine va_getN (D := D) (ci := 3) (v := .ref (a 2)) (C := RX3) (T := TX3) (N := 7) hx hb hts hwX3 hown hE.K hP 1 rfl rfl 5 (by decide) (nf_8 hE) (fun _ h9 => h9) rfl dX4_digest_128 ?_
              refine lv_iload_n hx hb dX4_digest_131 rfl (lv_at hl 3 rfl) ?_
              refine lv_iload hx hb dX4_digest_132 (lv_at hl 0 rfl) ?_
              refine goI ([oX ox a a2, oWay a dy co ti ro] ++ wBeds cA (a 1) u n B ch) (wLand cA (a 3) w T ++ (wWay cA a2 dy2 co2 ti2 ro2 u2 n2 B2 ch2 v2 nb2 G2 w2 T2)) hP hD hS hA (rnV (rest := [.long (dd2 * 31)]) (c_Bars_tell sa tb D cA cL l (a 2) v nb G i2 0 (show i2 < 3 from by first | omega | assumption | decide) (show 0 < 6 from by first | omega | assumption | decide)) ([oX ox a a2, oWay a dy co ti ro] ++ wBeds cA (a 1) u n B ch) (wLand cA (a 3) w T ++ (wWay cA a2 dy2 co2 ti2 ro2 u2 n2 B2 ch2 v2 nb2 G2 w2 T2)) hP hD hS hA hE ⟨hx, hb, hml, hown, hts⟩ (cwV 2 hts gX4_digest_X0_tell rfl rfl rfl (by decide +kernel) ⟨(Nat.le_of_ble_eq_true rfl), (Nat.le_of_ble_eq_true rfl)⟩) 0 0 rfl rfl rfl rfl hl.1 rfl (Nat.le_of_ble_eq_true rfl) dX4_digest_134 ⟨(Nat.le_of_ble_eq_true rfl), (Nat.le_of_ble_eq_true rfl)⟩) (fun _ => rfl) (fun r_134 u_134 H locs hw_134 hP hD hS => ?_)
              have hP : va_P D vwCl (wX cA ox a dy co ti ro u n B ch v nb G w T a2 dy2 co2 ti2 ro2 u2 n2 B2 ch2 v2 nb2 G2 w2 T2) H := hP
              have hD : va_D A (wX cA ox a dy co ti ro u n B ch v nb G w T a2 dy2 co2 ti2 ro2 u2 n2 B2 ch2 v2 nb2 G2 w2 T2) := hD
              refine w_eqi (show r_134 = tellG G i2 0 from hw_134) ?_
              refine lv_i2l (v := (tellG G i2 0 : Int32).toInt64) hx hb dX4_digest_137 rfl ?_
              refine lv_ladd hx hb dX4_digest_138 ?_
              refine lv_lstore_n (lv' := [(1, .long ((dd2 * 31) + (Int32.toInt64 (tellG G i2 0)))), (4, .int 0), (0, .ref ox), (3, .int (nI i2))]) hx hb dX4_digest_139 rfl hl (by decide) rfl (fun ls hl => ?_)
              refine lv_iinc (v := 1) (lv' := [(4, .int 1), (1, .long ((dd2 * 31) + (Int32.toInt64 (tellG G i2 0)))), (0, .ref ox), (3, .int (nI i2))]) (k := 1) hx hb dX4_digest_140 hl rfl (by decide) (by decide) rfl (fun ls hl => ?_)
              refine lv_goto (tgt := 112) hx hb dX4_digest_143 (by decide) ?_
              refine lv_iload hx hb dX4_digest_112 (lv_at hl 0 rfl) ?_
              refine lv_bipush (v := 6) hx hb dX4_digest_114 (by decide) ?_
              refine lv_icmp_ge (tgt := 146) hx hb dX4_digest_116 (by decide) (fun q => absurd q (by decide)) (fun _ => ?_)
              refine lv_lload_n hx hb dX4_digest_119 rfl (lv_at hl 1 rfl) ?_
              refine lv_ldc2 (v := 31) hx hb hown (hts (.constantLong RX4 175 31) (List.mem_of_getElem? (i := 2) rfl)) dX4_digest_120 ?_
              refine lv_lmul hx hb dX4_digest_123 ?_
              refine lv_aload_n hx hb dX4_digest_124 rfl (lv_at hl 2 rfl) ?_
              refine va_get (D := D) (ci := 4) (v := .ref (a 0)) (C := RX4) (T := TX4) (N := 2) hx hb hts hwX4 hown hE.K hP 0 rfl rfl 0 (by decide) (hts (.fieldLink RX4 10 "SedgeBarges" "now" "LSedgeBarges$Waterway;") (List.mem_of_getElem? (i := 3) rfl)) (fun _ h9 => h9) rfl dX4_digest_125 ?_
              refine va_getN (D := D) (ci := 3) (v := .ref (a 2)) (C := RX3) (T := TX3) (N := 7) hx hb hts hwX3 hown hE.K hP 1 rfl rfl 5 (by decide) (nf_8 hE) (fun _ h9 => h9) rfl dX4_digest_128 ?_
              refine lv_iload_n hx hb dX4_digest_131 rfl (lv_at hl 3 rfl) ?_
              refine lv_iload hx hb dX4_digest_132 (lv_at hl 0 rfl) ?_
              refine goI ([oX ox a a2, oWay a dy co ti ro] ++ wBeds cA (a 1) u n B ch) (wLand cA (a 3) w T ++ (wWay cA a2 dy2 co2 ti2 ro2 u2 n2 B2 ch2 v2 nb2 G2 w2 T2)) hP hD hS hA (rnV (rest := [.long (((dd2 * 31) + (Int32.toInt64 (tellG G i2 0))) * 31)]) (c_Bars_tell sa tb D cA cL l (a 2) v nb G i2 1 (show i2 < 3 from by first | omega | assumption | decide) (show 1 < 6 from by first | omega | assumption | decide)) ([oX ox a a2, oWay a dy co ti ro] ++ wBeds cA (a 1) u n B ch) (wLand cA (a 3) w T ++ (wWay cA a2 dy2 co2 ti2 ro2 u2 n2 B2 ch2 v2 nb2 G2 w2 T2)) hP hD hS hA hE ⟨hx, hb, hml, hown, hts⟩ (cwV 2 hts gX4_digest_X0_tell rfl rfl rfl (by decide +kernel) ⟨(Nat.le_of_ble_eq_true rfl), (Nat.le_of_ble_eq_true rfl)⟩) 0 0 rfl rfl rfl rfl hl.1 rfl (Nat.le_of_ble_eq_true rfl) dX4_digest_134 ⟨(Nat.le_of_ble_eq_true rfl), (Nat.le_of_ble_eq_true rfl)⟩) (fun _ => rfl) (fun r_134 u_134 H locs hw_134 hP hD hS => ?_)
              have hP : va_P D vwCl (wX cA ox a dy co ti ro u n B ch v nb G w T a2 dy2 co2 ti2 ro2 u2 n2 B2 ch2 v2 nb2 G2 w2 T2) H := hP
              have hD : va_D A (wX cA ox a dy co ti ro u n B ch v nb G w T a2 dy2 co2 ti2 ro2 u2 n2 B2 ch2 v2 nb2 G2 w2 T2) := hD
              refine w_eqi (show r_134 = tellG G i2 1 from hw_134) ?_
              refine lv_i2l (v := (tellG G i2 1 : Int32).toInt64) hx hb dX4_digest_137 rfl ?_
              refine lv_ladd hx hb dX4_digest_138 ?_
              refine lv_lstore_n (lv' := [(1, .long ((((dd2 * 31) + (Int32.toInt64 (tellG G i2 0))) * 31) + (Int32.toInt64 (tellG G i2 1)))), (4, .int 1), (0, .ref ox), (3, .int (nI i2))]) hx hb dX4_digest_139 rfl hl (by decide) rfl (fun ls hl => ?_)
              refine lv_iinc (v := 2) (lv' := [(4, .int 2), (1, .long ((((dd2 * 31) + (Int32.toInt64 (tellG G i2 0))) * 31) + (Int32.toInt64 (tellG G i2 1)))), (0, .ref ox), (3, .int (nI i2))]) (k := 1) hx hb dX4_digest_140 hl rfl (by decide) (by decide) rfl (fun ls hl => ?_)
              refine lv_goto (tgt := 112) hx hb dX4_digest_143 (by decide) ?_
              refine lv_iload hx hb dX4_digest_112 (lv_at hl 0 rfl) ?_
              refine lv_bipush (v := 6) hx hb dX4_digest_114 (by decide) ?_
              refine lv_icmp_ge (tgt := 146) hx hb dX4_digest_116 (by decide) (fun q => absurd q (by decide)) (fun _ => ?_)
              refine lv_lload_n hx hb dX4_digest_119 rfl (lv_at hl 1 rfl) ?_
              refine lv_ldc2 (v := 31) hx hb hown (hts (.constantLong RX4 175 31) (List.mem_of_getElem? (i := 2) rfl)) dX4_digest_120 ?_
              refine lv_lmul hx hb dX4_digest_123 ?_
              refine lv_aload_n hx hb dX4_digest_124 rfl (lv_at hl 2 rfl) ?_
              refine va_get (D := D) (ci := 4) (v := .ref (a 0)) (C := RX4) (T := TX4) (N := 2) hx hb hts hwX4 hown hE.K hP 0 rfl rfl 0 (by decide) (hts (.fieldLink RX4 10 "SedgeBarges" "now" "LSedgeBarges$Waterway;") (List.mem_of_getElem? (i := 3) rfl)) (fun _ h9 => h9) rfl dX4_digest_125 ?_
              refine va_getN (D := D) (ci := 3) (v := .ref (a 2)) (C := RX3) (T := TX3) (N := 7) hx hb hts hwX3 hown hE.K hP 1 rfl rfl 5 (by decide) (nf_8 hE) (fun _ h9 => h9) rfl dX4_digest_128 ?_
              refine lv_iload_n hx hb dX4_digest_131 rfl (lv_at hl 3 rfl) ?_
              refine lv_iload hx hb dX4_digest_132 (lv_at hl 0 rfl) ?_
              refine goI ([oX ox a a2, oWay a dy co ti ro] ++ wBeds cA (a 1) u n B ch) (wLand cA (a 3) w T ++ (wWay cA a2 dy2 co2 ti2 ro2 u2 n2 B2 ch2 v2 nb2 G2 w2 T2)) hP hD hS hA (rnV (rest := [.long (((((dd2 * 31) + (Int32.toInt64 (tellG G i2 0))) * 31) + (Int32.toInt64 (tellG G i2 1))) * 31)]) (c_Bars_tell sa tb D cA cL l (a 2) v nb G i2 2 (show i2 < 3 from by first | omega | assumption | decide) (show 2 < 6 from by first | omega | assumption | decide)) ([oX ox a a2, oWay a dy co ti ro] ++ wBeds cA (a 1) u n B ch) (wLand cA (a 3) w T ++ (wWay cA a2 dy2 co2 ti2 ro2 u2 n2 B2 ch2 v2 nb2 G2 w2 T2)) hP hD hS hA hE ⟨hx, hb, hml, hown, hts⟩ (cwV 2 hts gX4_digest_X0_tell rfl rfl rfl (by decide +kernel) ⟨(Nat.le_of_ble_eq_true rfl), (Nat.le_of_ble_eq_true rfl)⟩) 0 0 rfl rfl rfl rfl hl.1 rfl (Nat.le_of_ble_eq_true rfl) dX4_digest_134 ⟨(Nat.le_of_ble_eq_true rfl), (Nat.le_of_ble_eq_true rfl)⟩) (fun _ => rfl) (fun r_134 u_134 H locs hw_134 hP hD hS => ?_)
              have hP : va_P D vwCl (wX cA ox a dy co ti ro u n B ch v nb G w T a2 dy2 co2 ti2 ro2 u2 n2 B2 ch2 v2 nb2 G2 w2 T2) H := hP
              have hD : va_D A (wX cA ox a dy co ti ro u n B ch v nb G w T a2 dy2 co2 ti2 ro2 u2 n2 B2 ch2 v2 nb2 G2 w2 T2) := hD
              refine w_eqi (show r_134 = tellG G i2 2 from hw_134) ?_
              refine lv_i2l (v := (tellG G i2 2 : Int32).toInt64) hx hb dX4_digest_137 rfl ?_
              refine lv_ladd hx hb dX4_digest_138 ?_
              refine lv_lstore_n (lv' := [(1, .long ((((((dd2 * 31) + (Int32.toInt64 (tellG G i2 0))) * 31) + (Int32.toInt64 (tellG G i2 1))) * 31) + (Int32.toInt64 (tellG G i2 2)))), (4, .int 2), (0, .ref ox), (3, .int (nI i2))]) hx hb dX4_digest_139 rfl hl (by decide) rfl (fun ls hl => ?_)
              refine lv_iinc (v := 3) (lv' := [(4, .int 3), (1, .long ((((((dd2 * 31) + (Int32.toInt64 (tellG G i2 0))) * 31) + (Int32.toInt64 (tellG G i2 1))) * 31) + (Int32.toInt64 (tellG G i2 2)))), (0, .ref ox), (3, .int (nI i2))]) (k := 1) hx hb dX4_digest_140 hl rfl (by decide) (by decide) rfl (fun ls hl => ?_)
              refine lv_goto (tgt := 112) hx hb dX4_digest_143 (by decide) ?_
              refine lv_iload hx hb dX4_digest_112 (lv_at hl 0 rfl) ?_
              refine lv_bipush (v := 6) hx hb dX4_digest_114 (by decide) ?_
              refine lv_icmp_ge (tgt := 146) hx hb dX4_digest_116 (by decide) (fun q => absurd q (by decide)) (fun _ => ?_)
              refine lv_lload_n hx hb dX4_digest_119 rfl (lv_at hl 1 rfl) ?_
              refine lv_ldc2 (v := 31) hx hb hown (hts (.constantLong RX4 175 31) (List.mem_of_getElem? (i := 2) rfl)) dX4_digest_120 ?_
              refine lv_lmul hx hb dX4_digest_123 ?_
              refine lv_aload_n hx hb dX4_digest_124 rfl (lv_at hl 2 rfl) ?_
              refine va_get (D := D) (ci := 4) (v := .ref (a 0)) (C := RX4) (T := TX4) (N := 2) hx hb hts hwX4 hown hE.K hP 0 rfl rfl 0 (by decide) (hts (.fieldLink RX4 10 "SedgeBarges" "now" "LSedgeBarges$Waterway;") (List.mem_of_getElem? (i := 3) rfl)) (fun _ h9 => h9) rfl dX4_digest_125 ?_
              refine va_getN (D := D) (ci := 3) (v := .ref (a 2)) (C := RX3) (T := TX3) (N := 7) hx hb hts hwX3 hown hE.K hP 1 rfl rfl 5 (by decide) (nf_8 hE) (fun _ h9 => h9) rfl dX4_digest_128 ?_
              refine lv_iload_n hx hb dX4_digest_131 rfl (lv_at hl 3 rfl) ?_
              refine lv_iload hx hb dX4_digest_132 (lv_at hl 0 rfl) ?_
              refine goI ([oX ox a a2, oWay a dy co ti ro] ++ wBeds cA (a 1) u n B ch) (wLand cA (a 3) w T ++ (wWay cA a2 dy2 co2 ti2 ro2 u2 n2 B2 ch2 v2 nb2 G2 w2 T2)) hP hD hS hA (rnV (rest := [.long (((((((dd2 * 31) + (Int32.toInt64 (tellG G i2 0))) * 31) + (Int32.toInt64 (tellG G i2 1))) * 31) + (Int32.toInt64 (tellG G i2 2))) * 31)]) (c_Bars_tell sa tb D cA cL l (a 2) v nb G i2 3 (show i2 < 3 from by first | omega | assumption | decide) (show 3 < 6 from by first | omega | assumption | decide)) ([oX ox a a2, oWay a dy co ti ro] ++ wBeds cA (a 1) u n B ch) (wLand cA (a 3) w T ++ (wWay cA a2 dy2 co2 ti2 ro2 u2 n2 B2 ch2 v2 nb2 G2 w2 T2)) hP hD hS hA hE ⟨hx, hb, hml, hown, hts⟩ (cwV 2 hts gX4_digest_X0_tell rfl rfl rfl (by decide +kernel) ⟨(Nat.le_of_ble_eq_true rfl), (Nat.le_of_ble_eq_true rfl)⟩) 0 0 rfl rfl rfl rfl hl.1 rfl (Nat.le_of_ble_eq_true rfl) dX4_digest_134 ⟨(Nat.le_of_ble_eq_true rfl), (Nat.le_of_ble_eq_true rfl)⟩) (fun _ => rfl) (fun r_134 u_134 H locs hw_134 hP hD hS => ?_)
              have hP : va_P D vwCl (wX cA ox a dy co ti ro u n B ch v nb G w T a2 dy2 co2 ti2 ro2 u2 n2 B2 ch2 v2 nb2 G2 w2 T2) H := hP
              have hD : va_D A (wX cA ox a dy co ti ro u n B ch v nb G w T a2 dy2 co2 ti2 ro2 u2 n2 B2 ch2 v2 nb2 G2 w2 T2) := hD
              refine w_eqi (show r_134 = tellG G i2 3 from hw_134) ?_
              refine lv_i2l (v := (tellG G i2 3 : Int32).toInt64) hx hb dX4_digest_137 rfl ?_
              refine lv_ladd hx hb dX4_digest_138 ?_
              refine lv_lstore_n (lv' := [(1, .long ((((((((dd2 * 31) + (Int32.toInt64 (tellG G i2 0))) * 31) + (Int32.toInt64 (tellG G i2 1))) * 31) + (Int32.toInt64 (tellG G i2 2))) * 31) + (Int32.toInt64 (tellG G i2 3)))), (4, .int 3), (0, .ref ox), (3, .int (nI i2))]) hx hb dX4_digest_139 rfl hl (by decide) rfl (fun ls hl => ?_)
              refine lv_iinc (v := 4) (lv' := [(4, .int 4), (1, .long ((((((((dd2 * 31) + (Int32.toInt64 (tellG G i2 0))) * 31) + (Int32.toInt64 (tellG G i2 1))) * 31) + (Int32.toInt64 (tellG G i2 2))) * 31) + (Int32.toInt64 (tellG G i2 3)))), (0, .ref ox), (3, .int (nI i2))]) (k := 1) hx hb dX4_digest_140 hl rfl (by decide) (by decide) rfl (fun ls hl => ?_)
              refine lv_goto (tgt := 112) hx hb dX4_digest_143 (by decide) ?_
              refine lv_iload hx hb dX4_digest_112 (lv_at hl 0 rfl) ?_
              refine lv_bipush (v := 6) hx hb dX4_digest_114 (by decide) ?_
              refine lv_icmp_ge (tgt := 146) hx hb dX4_digest_116 (by decide) (fun q => absurd q (by decide)) (fun _ => ?_)
              refine lv_lload_n hx hb dX4_digest_119 rfl (lv_at hl 1 rfl) ?_
              refine lv_ldc2 (v := 31) hx hb hown (hts (.constantLong RX4 175 31) (List.mem_of_getElem? (i := 2) rfl)) dX4_digest_120 ?_
              refine lv_lmul hx hb dX4_digest_123 ?_
              refine lv_aload_n hx hb dX4_digest_124 rfl (lv_at hl 2 rfl) ?_
              refine va_get (D := D) (ci := 4) (v := .ref (a 0)) (C := RX4) (T := TX4) (N := 2) hx hb hts hwX4 hown hE.K hP 0 rfl rfl 0 (by decide) (hts (.fieldLink RX4 10 "SedgeBarges" "now" "LSedgeBarges$Waterway;") (List.mem_of_getElem? (i := 3) rfl)) (fun _ h9 => h9) rfl dX4_digest_125 ?_
              refine va_getN (D := D) (ci := 3) (v := .ref (a 2)) (C := RX3) (T := TX3) (N := 7) hx hb hts hwX3 hown hE.K hP 1 rfl rfl 5 (by decide) (nf_8 hE) (fun _ h9 => h9) rfl dX4_digest_128 ?_
              refine lv_iload_n hx hb dX4_digest_131 rfl (lv_at hl 3 rfl) ?_
              refine lv_iload hx hb dX4_digest_132 (lv_at hl 0 rfl) ?_
              refine goI ([oX ox a a2, oWay a dy co ti ro] ++ wBeds cA (a 1) u n B ch) (wLand cA (a 3) w T ++ (wWay cA a2 dy2 co2 ti2 ro2 u2 n2 B2 ch2 v2 nb2 G2 w2 T2)) hP hD hS hA (rnV (rest := [.long (((((((((dd2 * 31) + (Int32.toInt64 (tellG G i2 0))) * 31) + (Int32.toInt64 (tellG G i2 1))) * 31) + (Int32.toInt64 (tellG G i2 2))) * 31) + (Int32.toInt64 (tellG G i2 3))) * 31)]) (c_Bars_tell sa tb D cA cL l (a 2) v nb G i2 4 (show i2 < 3 from by first | omega | assumption | decide) (show 4 < 6 from by first | omega | assumption | decide)) ([oX ox a a2, oWay a dy co ti ro] ++ wBeds cA (a 1) u n B ch) (wLand cA (a 3) w T ++ (wWay cA a2 dy2 co2 ti2 ro2 u2 n2 B2 ch2 v2 nb2 G2 w2 T2)) hP hD hS hA hE ⟨hx, hb, hml, hown, hts⟩ (cwV 2 hts gX4_digest_X0_tell rfl rfl rfl (by decide +kernel) ⟨(Nat.le_of_ble_eq_true rfl), (Nat.le_of_ble_eq_true rfl)⟩) 0 0 rfl rfl rfl rfl hl.1 rfl (Nat.le_of_ble_eq_true rfl) dX4_digest_134 ⟨(Nat.le_of_ble_eq_true rfl), (Nat.le_of_ble_eq_true rfl)⟩) (fun _ => rfl) (fun r_134 u_134 H locs hw_134 hP hD hS => ?_)
              have hP : va_P D vwCl (wX cA ox a dy co ti ro u n B ch v nb G w T a2 dy2 co2 ti2 ro2 u2 n2 B2 ch2 v2 nb2 G2 w2 T2) H := hP
              have hD : va_D A (wX cA ox a dy co ti ro u n B ch v nb G w T a2 dy2 co2 ti2 ro2 u2 n2 B2 ch2 v2 nb2 G2 w2 T2) := hD
              refine w_eqi (show r_134 = tellG G i2 4 from hw_134) ?_
              refine lv_i2l (v := (tellG G i2 4 : Int32).toInt64) hx hb dX4_digest_137 rfl ?_
              refine lv_ladd hx hb dX4_digest_138 ?_
              refine lv_lstore_n (lv' := [(1, .long ((((((((((dd2 * 31) + (Int32.toInt64 (tellG G i2 0))) * 31) + (Int32.toInt64 (tellG G i2 1))) * 31) + (Int32.toInt64 (tellG G i2 2))) * 31) + (Int32.toInt64 (tellG G i2 3))) * 31) + (Int32.toInt64 (tellG G i2 4)))), (4, .int 4), (0, .ref ox), (3, .int (nI i2))]) hx hb dX4_digest_139 rfl hl (by decide) rfl (fun ls hl => ?_)
              refine lv_iinc (v := 5) (lv' := [(4, .int 5), (1, .long ((((((((((dd2 * 31) + (Int32.toInt64 (tellG G i2 0))) * 31) + (Int32.toInt64 (tellG G i2 1))) * 31) + (Int32.toInt64 (tellG G i2 2))) * 31) + (Int32.toInt64 (tellG G i2 3))) * 31) + (Int32.toInt64 (tellG G i2 4)))), (0, .ref ox), (3, .int (nI i2))]) (k := 1) hx hb dX4_digest_140 hl rfl (by decide) (by decide) rfl (fun ls hl => ?_)
              refine lv_goto (tgt := 112) hx hb dX4_digest_143 (by decide) ?_
              refine lv_iload hx hb dX4_digest_112 (lv_at hl 0 rfl) ?_
              refine lv_bipush (v := 6) hx hb dX4_digest_114 (by decide) ?_
              refine lv_icmp_ge (tgt := 146) hx hb dX4_digest_116 (by decide) (fun q => absurd q (by decide)) (fun _ => ?_)
              refine lv_lload_n hx hb dX4_digest_119 rfl (lv_at hl 1 rfl) ?_
              refine lv_ldc2 (v := 31) hx hb hown (hts (.constantLong RX4 175 31) (List.mem_of_getElem? (i := 2) rfl)) dX4_digest_120 ?_
              refine lv_lmul hx hb dX4_digest_123 ?_
              refine lv_aload_n hx hb dX4_digest_124 rfl (lv_at hl 2 rfl) ?_
              refine va_get (D := D) (ci := 4) (v := .ref (a 0)) (C := RX4) (T := TX4) (N := 2) hx hb hts hwX4 hown hE.K hP 0 rfl rfl 0 (by decide) (hts (.fieldLink RX4 10 "SedgeBarges" "now" "LSedgeBarges$Waterway;") (List.mem_of_getElem? (i := 3) rfl)) (fun _ h9 => h9) rfl dX4_digest_125 ?_
              refine va_getN (D := D) (ci := 3) (v := .ref (a 2)) (C := RX3) (T := TX3) (N := 7) hx hb hts hwX3 hown hE.K hP 1 rfl rfl 5 (by decide) (nf_8 hE) (fun _ h9 => h9) rfl dX4_digest_128 ?_
              refine lv_iload_n hx hb dX4_digest_131 rfl (lv_at hl 3 rfl) ?_
              refine lv_iload hx hb dX4_digest_132 (lv_at hl 0 rfl) ?_
              refine goI ([oX ox a a2, oWay a dy co ti ro] ++ wBeds cA (a 1) u n B ch) (wLand cA (a 3) w T ++ (wWay cA a2 dy2 co2 ti2 ro2 u2 n2 B2 ch2 v2 nb2 G2 w2 T2)) hP hD hS hA (rnV (rest := [.long (((((((((((dd2 * 31) + (Int32.toInt64 (tellG G i2 0))) * 31) + (Int32.toInt64 (tellG G i2 1))) * 31) + (Int32.toInt64 (tellG G i2 2))) * 31) + (Int32.toInt64 (tellG G i2 3))) * 31) + (Int32.toInt64 (tellG G i2 4))) * 31)]) (c_Bars_tell sa tb D cA cL l (a 2) v nb G i2 5 (show i2 < 3 from by first | omega | assumption | decide) (show 5 < 6 from by first | omega | assumption | decide)) ([oX ox a a2, oWay a dy co ti ro] ++ wBeds cA (a 1) u n B ch) (wLand cA (a 3) w T ++ (wWay cA a2 dy2 co2 ti2 ro2 u2 n2 B2 ch2 v2 nb2 G2 w2 T2)) hP hD hS hA hE ⟨hx, hb, hml, hown, hts⟩ (cwV 2 hts gX4_digest_X0_tell rfl rfl rfl (by decide +kernel) ⟨(Nat.le_of_ble_eq_true rfl), (Nat.le_of_ble_eq_true rfl)⟩) 0 0 rfl rfl rfl rfl hl.1 rfl (Nat.le_of_ble_eq_true rfl) dX4_digest_134 ⟨(Nat.le_of_ble_eq_true rfl), (Nat.le_of_ble_eq_true rfl)⟩) (fun _ => rfl) (fun r_134 u_134 H locs hw_134 hP hD hS => ?_)
              have hP : va_P D vwCl (wX cA ox a dy co ti ro u n B ch v nb G w T a2 dy2 co2 ti2 ro2 u2 n2 B2 ch2 v2 nb2 G2 w2 T2) H := hP
              have hD : va_D A (wX cA ox a dy co ti ro u n B ch v nb G w T a2 dy2 co2 ti2 ro2 u2 n2 B2 ch2 v2 nb2 G2 w2 T2) := hD
              refine w_eqi (show r_134 = tellG G i2 5 from hw_134) ?_
              refine lv_i2l (v := (tellG G i2 5 : Int32).toInt64) hx hb dX4_digest_137 rfl ?_
              refine lv_ladd hx hb dX4_digest_138 ?_
              refine lv_lstore_n (lv' := [(1, .long ((((((((((((dd2 * 31) + (Int32.toInt64 (tellG G i2 0))) * 31) + (Int32.toInt64 (tellG G i2 1))) * 31) + (Int32.toInt64 (tellG G i2 2))) * 31) + (Int32.toInt64 (tellG G i2 3))) * 31) + (Int32.toInt64 (tellG G i2 4))) * 31) + (Int32.toInt64 (tellG G i2 5)))), (4, .int 5), (0, .ref ox), (3, .int (nI i2))]) hx hb dX4_digest_139 rfl hl (by decide) rfl (fun ls hl => ?_)
              refine lv_iinc (v := 6) (lv' := [(4, .int 6), (1, .long ((((((((((((dd2 * 31) + (Int32.toInt64 (tellG G i2 0))) * 31) + (Int32.toInt64 (tellG G i2 1))) * 31) + (Int32.toInt64 (tellG G i2 2))) * 31) + (Int32.toInt64 (tellG G i2 3))) * 31) + (Int32.toInt64 (tellG G i2 4))) * 31) + (Int32.toInt64 (tellG G i2 5)))), (0, .ref ox), (3, .int (nI i2))]) (k := 1) hx hb dX4_digest_140 hl rfl (by decide) (by decide) rfl (fun ls hl => ?_)
              refine lv_goto (tgt := 112) hx hb dX4_digest_143 (by decide) ?_
              refine lv_iload hx hb dX4_digest_112 (lv_at hl 0 rfl) ?_
              refine lv_bipush (v := 6) hx hb dX4_digest_114 (by decide) ?_
              refine lv_icmp_ge (tgt := 146) hx hb dX4_digest_116 (by decide) (fun _ => ?_) (fun q => absurd (by decide) q)
              refine lv_iinc (v := (nI (i2 + 1))) (lv' := [(3, .int (nI (i2 + 1))), (4, .int 6), (1, .long ((((((((((((dd2 * 31) + (Int32.toInt64 (tellG G i2 0))) * 31) + (Int32.toInt64 (tellG G i2 1))) * 31) + (Int32.toInt64 (tellG G i2 2))) * 31) + (Int32.toInt64 (tellG G i2 3))) * 31) + (Int32.toInt64 (tellG G i2 4))) * 31) + (Int32.toInt64 (tellG G i2 5)))), (0, .ref ox)]) (k := 3) hx hb dX4_digest_146 hl rfl (iinc1 _) (by decide) rfl (fun ls hl => ?_)
              refine lv_goto (tgt := 95) hx hb dX4_digest_149 (by decide) ?_
              exact ih_95  (i2 + 1) ((((((((((((dd2 * 31) + (Int32.toInt64 (tellG G i2 0))) * 31) + (Int32.toInt64 (tellG G i2 1))) * 31) + (Int32.toInt64 (tellG G i2 2))) * 31) + (Int32.toInt64 (tellG G i2 3))) * 31) + (Int32.toInt64 (tellG G i2 4))) * 31) + (Int32.toInt64 (tellG G i2 5))) (show nb - (i2 + 1) < f_95 from by omega) (show (i2 + 1) ≤ nb from by omega) (show ((((((((((((dd2 * 31) + (Int32.toInt64 (tellG G i2 0))) * 31) + (Int32.toInt64 (tellG G i2 1))) * 31) + (Int32.toInt64 (tellG G i2 2))) * 31) + (Int32.toInt64 (tellG G i2 3))) * 31) + (Int32.toInt64 (tellG G i2 4))) * 31) + (Int32.toInt64 (tellG G i2 5))) = dgG G (i2 + 1) (dgB B n (dg (tellW dy co ti ro n B nb G T) 11 1277)) from by rw [hdd2]; rfl) _ _ hP hD hS ls (lv_sub hl [3, 2, 0] rfl)
        exact loop_95 ((nb - 0) + 1) 0 dd (Nat.lt_succ_self _) (show 0 ≤ nb from by omega) (show dd = dgG G 0 (dgB B n (dg (tellW dy co ti ro n B nb G T) 11 1277)) from by rw [hdd, show i = n from by omega]; rfl) _ _ hP hD hS ls (lv_sub hl [1, 2, 0] rfl)
      · refine lv_iconst (v := 0) hx hb dX4_digest_50 (by decide) ?_
        refine lv_istore (lv' := [(4, .int 0), (0, .ref ox), (1, .long dd), (3, .int (nI i))]) hx hb dX4_digest_51 hl (by decide) rfl (fun ls hl => ?_)
        refine lv_iload hx hb dX4_digest_53 (lv_at hl 0 rfl) ?_
        refine lv_bipush (v := 10) hx hb dX4_digest_55 (by decide) ?_
        refine lv_icmp_ge (tgt := 87) hx hb dX4_digest_57 (by decide) (fun q => absurd q (by decide)) (fun _ => ?_)
        refine lv_lload_n hx hb dX4_digest_60 rfl (lv_at hl 2 rfl) ?_
        refine lv_ldc2 (v := 31) hx hb hown (hts (.constantLong RX4 175 31) (List.mem_of_getElem? (i := 2) rfl)) dX4_digest_61 ?_
        refine lv_lmul hx hb dX4_digest_64 ?_
        refine lv_aload_n hx hb dX4_digest_65 rfl (lv_at hl 1 rfl) ?_
        refine va_get (D := D) (ci := 4) (v := .ref (a 0)) (C := RX4) (T := TX4) (N := 2) hx hb hts hwX4 hown hE.K hP 0 rfl rfl 0 (by decide) (hts (.fieldLink RX4 10 "SedgeBarges" "now" "LSedgeBarges$Waterway;") (List.mem_of_getElem? (i := 3) rfl)) (fun _ h9 => h9) rfl dX4_digest_66 ?_
        refine va_getN (D := D) (ci := 3) (v := .ref (a 1)) (C := RX3) (T := TX3) (N := 7) hx hb hts hwX3 hown hE.K hP 1 rfl rfl 4 (by decide) (nf_5 hE) (fun _ h9 => h9) rfl dX4_digest_69 ?_
        refine lv_iload_n hx hb dX4_digest_72 rfl (lv_at hl 3 rfl) ?_
        refine lv_iload hx hb dX4_digest_73 (lv_at hl 0 rfl) ?_
        refine goI ([oX ox a a2, oWay a dy co ti ro]) (wBars cA (a 2) v nb G ++ (wLand cA (a 3) w T ++ (wWay cA a2 dy2 co2 ti2 ro2 u2 n2 B2 ch2 v2 nb2 G2 w2 T2))) hP hD hS hA (rnV (rest := [.long (dd * 31)]) (c_Beds_tell sa tb D cA cL l (a 1) u n B ch i 0 (show i < 8 from by first | omega | assumption | decide) (show 0 < 10 from by first | omega | assumption | decide)) ([oX ox a a2, oWay a dy co ti ro]) (wBars cA (a 2) v nb G ++ (wLand cA (a 3) w T ++ (wWay cA a2 dy2 co2 ti2 ro2 u2 n2 B2 ch2 v2 nb2 G2 w2 T2))) hP hD hS hA hE ⟨hx, hb, hml, hown, hts⟩ (cwV 2 hts gX4_digest_X1_tell rfl rfl rfl (by decide +kernel) ⟨(Nat.le_of_ble_eq_true rfl), (Nat.le_of_ble_eq_true rfl)⟩) 1 0 rfl rfl rfl rfl hl.1 rfl (Nat.le_of_ble_eq_true rfl) dX4_digest_75 ⟨(Nat.le_of_ble_eq_true rfl), (Nat.le_of_ble_eq_true rfl)⟩) (fun _ => rfl) (fun r_75 u_75 H locs hw_75 hP hD hS => ?_)
        have hP : va_P D vwCl (wX cA ox a dy co ti ro u n B ch v nb G w T a2 dy2 co2 ti2 ro2 u2 n2 B2 ch2 v2 nb2 G2 w2 T2) H := hP
        have hD : va_D A (wX cA ox a dy co ti ro u n B ch v nb G w T a2 dy2 co2 ti2 ro2 u2 n2 B2 ch2 v2 nb2 G2 w2 T2) := hD
        refine w_eqi (show r_75 = tellB B i 0 from hw_75) ?_
        refine lv_i2l (v := (tellB B i 0 : Int32).toInt64) hx hb dX4_digest_78 rfl ?_
        refine lv_ladd hx hb dX4_digest_79 ?_
        refine lv_lstore_n (lv' := [(1, .long ((dd * 31) + (Int32.toInt64 (tellB B i 0)))), (4, .int 0), (0, .ref ox), (3, .int (nI i))]) hx hb dX4_digest_80 rfl hl (by decide) rfl (fun ls hl => ?_)
        refine lv_iinc (v := 1) (lv' := [(4, .int 1), (1, .long ((dd * 31) + (Int32.toInt64 (tellB B i 0)))), (0, .ref ox), (3, .int (nI i))]) (k := 1) hx hb dX4_digest_81 hl rfl (by decide) (by decide) rfl (fun ls hl => ?_)
        refine lv_goto (tgt := 53) hx hb dX4_digest_84 (by decide) ?_
        refine lv_iload hx hb dX4_digest_53 (lv_at hl 0 rfl) ?_
        refine lv_bipush (v := 10) hx hb dX4_digest_55 (by decide) ?_
        refine lv_icmp_ge (tgt := 87) hx hb dX4_digest_57 (by decide) (fun q => absurd q (by decide)) (fun _ => ?_)
        refine lv_lload_n hx hb dX4_digest_60 rfl (lv_at hl 1 rfl) ?_
        refine lv_ldc2 (v := 31) hx hb hown (hts (.constantLong RX4 175 31) (List.mem_of_getElem? (i := 2) rfl)) dX4_digest_61 ?_
        refine lv_lmul hx hb dX4_digest_64 ?_
        refine lv_aload_n hx hb dX4_digest_65 rfl (lv_at hl 2 rfl) ?_
        refine va_get (D := D) (ci := 4) (v := .ref (a 0)) (C := RX4) (T := TX4) (N := 2) hx hb hts hwX4 hown hE.K hP 0 rfl rfl 0 (by decide) (hts (.fieldLink RX4 10 "SedgeBarges" "now" "LSedgeBarges$Waterway;") (List.mem_of_getElem? (i := 3) rfl)) (fun _ h9 => h9) rfl dX4_digest_66 ?_
        refine va_getN (D := D) (ci := 3) (v := .ref (a 1)) (C := RX3) (T := TX3) (N := 7) hx hb hts hwX3 hown hE.K hP 1 rfl rfl 4 (by decide) (nf_5 hE) (fun _ h9 => h9) rfl dX4_digest_69 ?_
        refine lv_iload_n hx hb dX4_digest_72 rfl (lv_at hl 3 rfl) ?_
        refine lv_iload hx hb dX4_digest_73 (lv_at hl 0 rfl) ?_
        refine goI ([oX ox a a2, oWay a dy co ti ro]) (wBars cA (a 2) v nb G ++ (wLand cA (a 3) w T ++ (wWay cA a2 dy2 co2 ti2 ro2 u2 n2 B2 ch2 v2 nb2 G2 w2 T2))) hP hD hS hA (rnV (rest := [.long (((dd * 31) + (Int32.toInt64 (tellB B i 0))) * 31)]) (c_Beds_tell sa tb D cA cL l (a 1) u n B ch i 1 (show i < 8 from by first | omega | assumption | decide) (show 1 < 10 from by first | omega | assumption | decide)) ([oX ox a a2, oWay a dy co ti ro]) (wBars cA (a 2) v nb G ++ (wLand cA (a 3) w T ++ (wWay cA a2 dy2 co2 ti2 ro2 u2 n2 B2 ch2 v2 nb2 G2 w2 T2))) hP hD hS hA hE ⟨hx, hb, hml, hown, hts⟩ (cwV 2 hts gX4_digest_X1_tell rfl rfl rfl (by decide +kernel) ⟨(Nat.le_of_ble_eq_true rfl), (Nat.le_of_ble_eq_true rfl)⟩) 1 0 rfl rfl rfl rfl hl.1 rfl (Nat.le_of_ble_eq_true rfl) dX4_digest_75 ⟨(Nat.le_of_ble_eq_true rfl), (Nat.le_of_ble_eq_true rfl)⟩) (fun _ => rfl) (fun r_75 u_75 H locs hw_75 hP hD hS => ?_)
        have hP : va_P D vwCl (wX cA ox a dy co ti ro u n B ch v nb G w T a2 dy2 co2 ti2 ro2 u2 n2 B2 ch2 v2 nb2 G2 w2 T2) H := hP
        have hD : va_D A (wX cA ox a dy co ti ro u n B ch v nb G w T a2 dy2 co2 ti2 ro2 u2 n2 B2 ch2 v2 nb2 G2 w2 T2) := hD
        refine w_eqi (show r_75 = tellB B i 1 from hw_75) ?_
        refine lv_i2l (v := (tellB B i 1 : Int32).toInt64) hx hb dX4_digest_78 rfl ?_
        refine lv_ladd hx hb dX4_digest_79 ?_
        refine lv_lstore_n (lv' := [(1, .long ((((dd * 31) + (Int32.toInt64 (tellB B i 0))) * 31) + (Int32.toInt64 (tellB B i 1)))), (4, .int 1), (0, .ref ox), (3, .int (nI i))]) hx hb dX4_digest_80 rfl hl (by decide) rfl (fun ls hl => ?_)
        refine lv_iinc (v := 2) (lv' := [(4, .int 2), (1, .long ((((dd * 31) + (Int32.toInt64 (tellB B i 0))) * 31) + (Int32.toInt64 (tellB B i 1)))), (0, .ref ox), (3, .int (nI i))]) (k := 1) hx hb dX4_digest_81 hl rfl (by decide) (by decide) rfl (fun ls hl => ?_)
        refine lv_goto (tgt := 53) hx hb dX4_digest_84 (by decide) ?_
        refine lv_iload hx hb dX4_digest_53 (lv_at hl 0 rfl) ?_
        refine lv_bipush (v := 10) hx hb dX4_digest_55 (by decide) ?_
        refine lv_icmp_ge (tgt := 87) hx hb dX4_digest_57 (by decide) (fun q => absurd q (by decide)) (fun _ => ?_)
        refine lv_lload_n hx hb dX4_digest_60 rfl (lv_at hl 1 rfl) ?_
        refine lv_ldc2 (v := 31) hx hb hown (hts (.constantLong RX4 175 31) (List.mem_of_getElem? (i := 2) rfl)) dX4_digest_61 ?_
        refine lv_lmul hx hb dX4_digest_64 ?_
        refine lv_aload_n hx hb dX4_digest_65 rfl (lv_at hl 2 rfl) ?_
        refine va_get (D := D) (ci := 4) (v := .ref (a 0)) (C := RX4) (T := TX4) (N := 2) hx hb hts hwX4 hown hE.K hP 0 rfl rfl 0 (by decide) (hts (.fieldLink RX4 10 "SedgeBarges" "now" "LSedgeBarges$Waterway;") (List.mem_of_getElem? (i := 3) rfl)) (fun _ h9 => h9) rfl dX4_digest_66 ?_
        refine va_getN (D := D) (ci := 3) (v := .ref (a 1)) (C := RX3) (T := TX3) (N := 7) hx hb hts hwX3 hown hE.K hP 1 rfl rfl 4 (by decide) (nf_5 hE) (fun _ h9 => h9) rfl dX4_digest_69 ?_
        refine lv_iload_n hx hb dX4_digest_72 rfl (lv_at hl 3 rfl) ?_
        refine lv_iload hx hb dX4_digest_73 (lv_at hl 0 rfl) ?_
        refine goI ([oX ox a a2, oWay a dy co ti ro]) (wBars cA (a 2) v nb G ++ (wLand cA (a 3) w T ++ (wWay cA a2 dy2 co2 ti2 ro2 u2 n2 B2 ch2 v2 nb2 G2 w2 T2))) hP hD hS hA (rnV (rest := [.long (((((dd * 31) + (Int32.toInt64 (tellB B i 0))) * 31) + (Int32.toInt64 (tellB B i 1))) * 31)]) (c_Beds_tell sa tb D cA cL l (a 1) u n B ch i 2 (show i < 8 from by first | omega | assumption | decide) (show 2 < 10 from by first | omega | assumption | decide)) ([oX ox a a2, oWay a dy co ti ro]) (wBars cA (a 2) v nb G ++ (wLand cA (a 3) w T ++ (wWay cA a2 dy2 co2 ti2 ro2 u2 n2 B2 ch2 v2 nb2 G2 w2 T2))) hP hD hS hA hE ⟨hx, hb, hml, hown, hts⟩ (cwV 2 hts gX4_digest_X1_tell rfl rfl rfl (by decide +kernel) ⟨(Nat.le_of_ble_eq_true rfl), (Nat.le_of_ble_eq_true rfl)⟩) 1 0 rfl rfl rfl rfl hl.1 rfl (Nat.le_of_ble_eq_true rfl) dX4_digest_75 ⟨(Nat.le_of_ble_eq_true rfl), (Nat.le_of_ble_eq_true rfl)⟩) (fun _ => rfl) (fun r_75 u_75 H locs hw_75 hP hD hS => ?_)
        have hP : va_P D vwCl (wX cA ox a dy co ti ro u n B ch v nb G w T a2 dy2 co2 ti2 ro2 u2 n2 B2 ch2 v2 nb2 G2 w2 T2) H := hP
        have hD : va_D A (wX cA ox a dy co ti ro u n B ch v nb G w T a2 dy2 co2 ti2 ro2 u2 n2 B2 ch2 v2 nb2 G2 w2 T2) := hD
        refine w_eqi (show r_75 = tellB B i 2 from hw_75) ?_
        refine lv_i2l (v := (tellB B i 2 : Int32).toInt64) hx hb dX4_digest_78 rfl ?_
        refine lv_ladd hx hb dX4_digest_79 ?_
        refine lv_lstore_n (lv' := [(1, .long ((((((dd * 31) + (Int32.toInt64 (tellB B i 0))) * 31) + (Int32.toInt64 (tellB B i 1))) * 31) + (Int32.toInt64 (tellB B i 2)))), (4, .int 2), (0, .ref ox), (3, .int (nI i))]) hx hb dX4_digest_80 rfl hl (by decide) rfl (fun ls hl => ?_)
        refine lv_iinc (v := 3) (lv' := [(4, .int 3), (1, .long ((((((dd * 31) + (Int32.toInt64 (tellB B i 0))) * 31) + (Int32.toInt64 (tellB B i 1))) * 31) + (Int32.toInt64 (tellB B i 2)))), (0, .ref ox), (3, .int (nI i))]) (k := 1) hx hb dX4_digest_81 hl rfl (by decide) (by decide) rfl (fun ls hl => ?_)
        refine lv_goto (tgt := 53) hx hb dX4_digest_84 (by decide) ?_
        refine lv_iload hx hb dX4_digest_53 (lv_at hl 0 rfl) ?_
        refine lv_bipush (v := 10) hx hb dX4_digest_55 (by decide) ?_
        refine lv_icmp_ge (tgt := 87) hx hb dX4_digest_57 (by decide) (fun q => absurd q (by decide)) (fun _ => ?_)
        refine lv_lload_n hx hb dX4_digest_60 rfl (lv_at hl 1 rfl) ?_
        refine lv_ldc2 (v := 31) hx hb hown (hts (.constantLong RX4 175 31) (List.mem_of_getElem? (i := 2) rfl)) dX4_digest_61 ?_
        refine lv_lmul hx hb dX4_digest_64 ?_
        refine lv_aload_n hx hb dX4_digest_65 rfl (lv_at hl 2 rfl) ?_
        refine va_get (D := D) (ci := 4) (v := .ref (a 0)) (C := RX4) (T := TX4) (N := 2) hx hb hts hwX4 hown hE.K hP 0 rfl rfl 0 (by decide) (hts (.fieldLink RX4 10 "SedgeBarges" "now" "LSedgeBarges$Waterway;") (List.mem_of_getElem? (i := 3) rfl)) (fun _ h9 => h9) rfl dX4_digest_66 ?_
        refine va_getN (D := D) (ci := 3) (v := .ref (a 1)) (C := RX3) (T := TX3) (N := 7) hx hb hts hwX3 hown hE.K hP 1 rfl rfl 4 (by decide) (nf_5 hE) (fun _ h9 => h9) rfl dX4_digest_69 ?_
        refine lv_iload_n hx hb dX4_digest_72 rfl (lv_at hl 3 rfl) ?_
        refine lv_iload hx hb dX4_digest_73 (lv_at hl 0 rfl) ?_
        refine goI ([oX ox a a2, oWay a dy co ti ro]) (wBars cA (a 2) v nb G ++ (wLand cA (a 3) w T ++ (wWay cA a2 dy2 co2 ti2 ro2 u2 n2 B2 ch2 v2 nb2 G2 w2 T2))) hP hD hS hA (rnV (rest := [.long (((((((dd * 31) + (Int32.toInt64 (tellB B i 0))) * 31) + (Int32.toInt64 (tellB B i 1))) * 31) + (Int32.toInt64 (tellB B i 2))) * 31)]) (c_Beds_tell sa tb D cA cL l (a 1) u n B ch i 3 (show i < 8 from by first | omega | assumption | decide) (show 3 < 10 from by first | omega | assumption | decide)) ([oX ox a a2, oWay a dy co ti ro]) (wBars cA (a 2) v nb G ++ (wLand cA (a 3) w T ++ (wWay cA a2 dy2 co2 ti2 ro2 u2 n2 B2 ch2 v2 nb2 G2 w2 T2))) hP hD hS hA hE ⟨hx, hb, hml, hown, hts⟩ (cwV 2 hts gX4_digest_X1_tell rfl rfl rfl (by decide +kernel) ⟨(Nat.le_of_ble_eq_true rfl), (Nat.le_of_ble_eq_true rfl)⟩) 1 0 rfl rfl rfl rfl hl.1 rfl (Nat.le_of_ble_eq_true rfl) dX4_digest_75 ⟨(Nat.le_of_ble_eq_true rfl), (Nat.le_of_ble_eq_true rfl)⟩) (fun _ => rfl) (fun r_75 u_75 H locs hw_75 hP hD hS => ?_)
        have hP : va_P D vwCl (wX cA ox a dy co ti ro u n B ch v nb G w T a2 dy2 co2 ti2 ro2 u2 n2 B2 ch2 v2 nb2 G2 w2 T2) H := hP
        have hD : va_D A (wX cA ox a dy co ti ro u n B ch v nb G w T a2 dy2 co2 ti2 ro2 u2 n2 B2 ch2 v2 nb2 G2 w2 T2) := hD
        refine w_eqi (show r_75 = tellB B i 3 from hw_75) ?_
        refine lv_i2l (v := (tellB B i 3 : Int32).toInt64) hx hb dX4_digest_78 rfl ?_
        refine lv_ladd hx hb dX4_digest_79 ?_
        refine lv_lstore_n (lv' := [(1, .long ((((((((dd * 31) + (Int32.toInt64 (tellB B i 0))) * 31) + (Int32.toInt64 (tellB B i 1))) * 31) + (Int32.toInt64 (tellB B i 2))) * 31) + (Int32.toInt64 (tellB B i 3)))), (4, .int 3), (0, .ref ox), (3, .int (nI i))]) hx hb dX4_digest_80 rfl hl (by decide) rfl (fun ls hl => ?_)
        refine lv_iinc (v := 4) (lv' := [(4, .int 4), (1, .long ((((((((dd * 31) + (Int32.toInt64 (tellB B i 0))) * 31) + (Int32.toInt64 (tellB B i 1))) * 31) + (Int32.toInt64 (tellB B i 2))) * 31) + (Int32.toInt64 (tellB B i 3)))), (0, .ref ox), (3, .int (nI i))]) (k := 1) hx hb dX4_digest_81 hl rfl (by decide) (by decide) rfl (fun ls hl => ?_)
        refine lv_goto (tgt := 53) hx hb dX4_digest_84 (by decide) ?_
        refine lv_iload hx hb dX4_digest_53 (lv_at hl 0 rfl) ?_
        refine lv_bipush (v := 10) hx hb dX4_digest_55 (by decide) ?_
        refine lv_icmp_ge (tgt := 87) hx hb dX4_digest_57 (by decide) (fun q => absurd q (by decide)) (fun _ => ?_)
        refine lv_lload_n hx hb dX4_digest_60 rfl (lv_at hl 1 rfl) ?_
        refine lv_ldc2 (v := 31) hx hb hown (hts (.constantLong RX4 175 31) (List.mem_of_getElem? (i := 2) rfl)) dX4_digest_61 ?_
        refine lv_lmul hx hb dX4_digest_64 ?_
        refine lv_aload_n hx hb dX4_digest_65 rfl (lv_at hl 2 rfl) ?_
        refine va_get (D := D) (ci := 4) (v := .ref (a 0)) (C := RX4) (T := TX4) (N := 2) hx hb hts hwX4 hown hE.K hP 0 rfl rfl 0 (by decide) (hts (.fieldLink RX4 10 "SedgeBarges" "now" "LSedgeBarges$Waterway;") (List.mem_of_getElem? (i := 3) rfl)) (fun _ h9 => h9) rfl dX4_digest_66 ?_
        refine va_getN (D := D) (ci := 3) (v := .ref (a 1)) (C := RX3) (T := TX3) (N := 7) hx hb hts hwX3 hown hE.K hP 1 rfl rfl 4 (by decide) (nf_5 hE) (fun _ h9 => h9) rfl dX4_digest_69 ?_
        refine lv_iload_n hx hb dX4_digest_72 rfl (lv_at hl 3 rfl) ?_
        refine lv_iload hx hb dX4_digest_73 (lv_at hl 0 rfl) ?_
        refine goI ([oX ox a a2, oWay a dy co ti ro]) (wBars cA (a 2) v nb G ++ (wLand cA (a 3) w T ++ (wWay cA a2 dy2 co2 ti2 ro2 u2 n2 B2 ch2 v2 nb2 G2 w2 T2))) hP hD hS hA (rnV (rest := [.long (((((((((dd * 31) + (Int32.toInt64 (tellB B i 0))) * 31) + (Int32.toInt64 (tellB B i 1))) * 31) + (Int32.toInt64 (tellB B i 2))) * 31) + (Int32.toInt64 (tellB B i 3))) * 31)]) (c_Beds_tell sa tb D cA cL l (a 1) u n B ch i 4 (show i < 8 from by first | omega | assumption | decide) (show 4 < 10 from by first | omega | assumption | decide)) ([oX ox a a2, oWay a dy co ti ro]) (wBars cA (a 2) v nb G ++ (wLand cA (a 3) w T ++ (wWay cA a2 dy2 co2 ti2 ro2 u2 n2 B2 ch2 v2 nb2 G2 w2 T2))) hP hD hS hA hE ⟨hx, hb, hml, hown, hts⟩ (cwV 2 hts gX4_digest_X1_tell rfl rfl rfl (by decide +kernel) ⟨(Nat.le_of_ble_eq_true rfl), (Nat.le_of_ble_eq_true rfl)⟩) 1 0 rfl rfl rfl rfl hl.1 rfl (Nat.le_of_ble_eq_true rfl) dX4_digest_75 ⟨(Nat.le_of_ble_eq_true rfl), (Nat.le_of_ble_eq_true rfl)⟩) (fun _ => rfl) (fun r_75 u_75 H locs hw_75 hP hD hS => ?_)
        have hP : va_P D vwCl (wX cA ox a dy co ti ro u n B ch v nb G w T a2 dy2 co2 ti2 ro2 u2 n2 B2 ch2 v2 nb2 G2 w2 T2) H := hP
        have hD : va_D A (wX cA ox a dy co ti ro u n B ch v nb G w T a2 dy2 co2 ti2 ro2 u2 n2 B2 ch2 v2 nb2 G2 w2 T2) := hD
        refine w_eqi (show r_75 = tellB B i 4 from hw_75) ?_
        refine lv_i2l (v := (tellB B i 4 : Int32).toInt64) hx hb dX4_digest_78 rfl ?_
        refine lv_ladd hx hb dX4_digest_79 ?_
        refine lv_lstore_n (lv' := [(1, .long ((((((((((dd * 31) + (Int32.toInt64 (tellB B i 0))) * 31) + (Int32.toInt64 (tellB B i 1))) * 31) + (Int32.toInt64 (tellB B i 2))) * 31) + (Int32.toInt64 (tellB B i 3))) * 31) + (Int32.toInt64 (tellB B i 4)))), (4, .int 4), (0, .ref ox), (3, .int (nI i))]) hx hb dX4_digest_80 rfl hl (by decide) rfl (fun ls hl => ?_)
        refine lv_iinc (v := 5) (lv' := [(4, .int 5), (1, .long ((((((((((dd * 31) + (Int32.toInt64 (tellB B i 0))) * 31) + (Int32.toInt64 (tellB B i 1))) * 31) + (Int32.toInt64 (tellB B i 2))) * 31) + (Int32.toInt64 (tellB B i 3))) * 31) + (Int32.toInt64 (tellB B i 4)))), (0, .ref ox), (3, .int (nI i))]) (k := 1) hx hb dX4_digest_81 hl rfl (by decide) (by decide) rfl (fun ls hl => ?_)
        refine lv_goto (tgt := 53) hx hb dX4_digest_84 (by decide) ?_
        refine lv_iload hx hb dX4_digest_53 (lv_at hl 0 rfl) ?_
        refine lv_bipush (v := 10) hx hb dX4_digest_55 (by decide) ?_
        refine lv_icmp_ge (tgt := 87) hx hb dX4_digest_57 (by decide) (fun q => absurd q (by decide)) (fun _ => ?_)
        refine lv_lload_n hx hb dX4_digest_60 rfl (lv_at hl 1 rfl) ?_
        refine lv_ldc2 (v := 31) hx hb hown (hts (.constantLong RX4 175 31) (List.mem_of_getElem? (i := 2) rfl)) dX4_digest_61 ?_
        refine lv_lmul hx hb dX4_digest_64 ?_
        refine lv_aload_n hx hb dX4_digest_65 rfl (lv_at hl 2 rfl) ?_
        refine va_get (D := D) (ci := 4) (v := .ref (a 0)) (C := RX4) (T := TX4) (N := 2) hx hb hts hwX4 hown hE.K hP 0 rfl rfl 0 (by decide) (hts (.fieldLink RX4 10 "SedgeBarges" "now" "LSedgeBarges$Waterway;") (List.mem_of_getElem? (i := 3) rfl)) (fun _ h9 => h9) rfl dX4_digest_66 ?_
        refine va_getN (D := D) (ci := 3) (v := .ref (a 1)) (C := RX3) (T := TX3) (N := 7) hx hb hts hwX3 hown hE.K hP 1 rfl rfl 4 (by decide) (nf_5 hE) (fun _ h9 => h9) rfl dX4_digest_69 ?_
        refine lv_iload_n hx hb dX4_digest_72 rfl (lv_at hl 3 rfl) ?_
        refine lv_iload hx hb dX4_digest_73 (lv_at hl 0 rfl) ?_
        refine goI ([oX ox a a2, oWay a dy co ti ro]) (wBars cA (a 2) v nb G ++ (wLand cA (a 3) w T ++ (wWay cA a2 dy2 co2 ti2 ro2 u2 n2 B2 ch2 v2 nb2 G2 w2 T2))) hP hD hS hA (rnV (rest := [.long (((((((((((dd * 31) + (Int32.toInt64 (tellB B i 0))) * 31) + (Int32.toInt64 (tellB B i 1))) * 31) + (Int32.toInt64 (tellB B i 2))) * 31) + (Int32.toInt64 (tellB B i 3))) * 31) + (Int32.toInt64 (tellB B i 4))) * 31)]) (c_Beds_tell sa tb D cA cL l (a 1) u n B ch i 5 (show i < 8 from by first | omega | assumption | decide) (show 5 < 10 from by first | omega | assumption | decide)) ([oX ox a a2, oWay a dy co ti ro]) (wBars cA (a 2) v nb G ++ (wLand cA (a 3) w T ++ (wWay cA a2 dy2 co2 ti2 ro2 u2 n2 B2 ch2 v2 nb2 G2 w2 T2))) hP hD hS hA hE ⟨hx, hb, hml, hown, hts⟩ (cwV 2 hts gX4_digest_X1_tell rfl rfl rfl (by decide +kernel) ⟨(Nat.le_of_ble_eq_true rfl), (Nat.le_of_ble_eq_true rfl)⟩) 1 0 rfl rfl rfl rfl hl.1 rfl (Nat.le_of_ble_eq_true rfl) dX4_digest_75 ⟨(Nat.le_of_ble_eq_true rfl), (Nat.le_of_ble_eq_true rfl)⟩) (fun _ => rfl) (fun r_75 u_75 H locs hw_75 hP hD hS => ?_)
        have hP : va_P D vwCl (wX cA ox a dy co ti ro u n B ch v nb G w T a2 dy2 co2 ti2 ro2 u2 n2 B2 ch2 v2 nb2 G2 w2 T2) H := hP
        have hD : va_D A (wX cA ox a dy co ti ro u n B ch v nb G w T a2 dy2 co2 ti2 ro2 u2 n2 B2 ch2 v2 nb2 G2 w2 T2) := hD
        refine w_eqi (show r_75 = tellB B i 5 from hw_75) ?_
        refine lv_i2l (v := (tellB B i 5 : Int32).toInt64) hx hb dX4_digest_78 rfl ?_
        refine lv_ladd hx hb dX4_digest_79 ?_
        refine lv_lstore_n (lv' := [(1, .long ((((((((((((dd * 31) + (Int32.toInt64 (tellB B i 0))) * 31) + (Int32.toInt64 (tellB B i 1))) * 31) + (Int32.toInt64 (tellB B i 2))) * 31) + (Int32.toInt64 (tellB B i 3))) * 31) + (Int32.toInt64 (tellB B i 4))) * 31) + (Int32.toInt64 (tellB B i 5)))), (4, .int 5), (0, .ref ox), (3, .int (nI i))]) hx hb dX4_digest_80 rfl hl (by decide) rfl (fun ls hl => ?_)
        refine lv_iinc (v := 6) (lv' := [(4, .int 6), (1, .long ((((((((((((dd * 31) + (Int32.toInt64 (tellB B i 0))) * 31) + (Int32.toInt64 (tellB B i 1))) * 31) + (Int32.toInt64 (tellB B i 2))) * 31) + (Int32.toInt64 (tellB B i 3))) * 31) + (Int32.toInt64 (tellB B i 4))) * 31) + (Int32.toInt64 (tellB B i 5)))), (0, .ref ox), (3, .int (nI i))]) (k := 1) hx hb dX4_digest_81 hl rfl (by decide) (by decide) rfl (fun ls hl => ?_)
        refine lv_goto (tgt := 53) hx hb dX4_digest_84 (by decide) ?_
        refine lv_iload hx hb dX4_digest_53 (lv_at hl 0 rfl) ?_
        refine lv_bipush (v := 10) hx hb dX4_digest_55 (by decide) ?_
        refine lv_icmp_ge (tgt := 87) hx hb dX4_digest_57 (by decide) (fun q => absurd q (by decide)) (fun _ => ?_)
        refine lv_lload_n hx hb dX4_digest_60 rfl (lv_at hl 1 rfl) ?_
        refine lv_ldc2 (v := 31) hx hb hown (hts (.constantLong RX4 175 31) (List.mem_of_getElem? (i := 2) rfl)) dX4_digest_61 ?_
        refine lv_lmul hx hb dX4_digest_64 ?_
        refine lv_aload_n hx hb dX4_digest_65 rfl (lv_at hl 2 rfl) ?_
        refine va_get (D := D) (ci := 4) (v := .ref (a 0)) (C := RX4) (T := TX4) (N := 2) hx hb hts hwX4 hown hE.K hP 0 rfl rfl 0 (by decide) (hts (.fieldLink RX4 10 "SedgeBarges" "now" "LSedgeBarges$Waterway;") (List.mem_of_getElem? (i := 3) rfl)) (fun _ h9 => h9) rfl dX4_digest_66 ?_
        refine va_getN (D := D) (ci := 3) (v := .ref (a 1)) (C := RX3) (T := TX3) (N := 7) hx hb hts hwX3 hown hE.K hP 1 rfl rfl 4 (by decide) (nf_5 hE) (fun _ h9 => h9) rfl dX4_digest_69 ?_
        refine lv_iload_n hx hb dX4_digest_72 rfl (lv_at hl 3 rfl) ?_
        refine lv_iload hx hb dX4_digest_73 (lv_at hl 0 rfl) ?_
        refine goI ([oX ox a a2, oWay a dy co ti ro]) (wBars cA (a 2) v nb G ++ (wLand cA (a 3) w T ++ (wWay cA a2 dy2 co2 ti2 ro2 u2 n2 B2 ch2 v2 nb2 G2 w2 T2))) hP hD hS hA (rnV (rest := [.long (((((((((((((dd * 31) + (Int32.toInt64 (tellB B i 0))) * 31) + (Int32.toInt64 (tellB B i 1))) * 31) + (Int32.toInt64 (tellB B i 2))) * 31) + (Int32.toInt64 (tellB B i 3))) * 31) + (Int32.toInt64 (tellB B i 4))) * 31) + (Int32.toInt64 (tellB B i 5))) * 31)]) (c_Beds_tell sa tb D cA cL l (a 1) u n B ch i 6 (show i < 8 from by first | omega | assumption | decide) (show 6 < 10 from by first | omega | assumption | decide)) ([oX ox a a2, oWay a dy co ti ro]) (wBars cA (a 2) v nb G ++ (wLand cA (a 3) w T ++ (wWay cA a2 dy2 co2 ti2 ro2 u2 n2 B2 ch2 v2 nb2 G2 w2 T2))) hP hD hS hA hE ⟨hx, hb, hml, hown, hts⟩ (cwV 2 hts gX4_digest_X1_tell rfl rfl rfl (by decide +kernel) ⟨(Nat.le_of_ble_eq_true rfl), (Nat.le_of_ble_eq_true rfl)⟩) 1 0 rfl rfl rfl rfl hl.1 rfl (Nat.le_of_ble_eq_true rfl) dX4_digest_75 ⟨(Nat.le_of_ble_eq_true rfl), (Nat.le_of_ble_eq_true rfl)⟩) (fun _ => rfl) (fun r_75 u_75 H locs hw_75 hP hD hS => ?_)
        have hP : va_P D vwCl (wX cA ox a dy co ti ro u n B ch v nb G w T a2 dy2 co2 ti2 ro2 u2 n2 B2 ch2 v2 nb2 G2 w2 T2) H := hP
        have hD : va_D A (wX cA ox a dy co ti ro u n B ch v nb G w T a2 dy2 co2 ti2 ro2 u2 n2 B2 ch2 v2 nb2 G2 w2 T2) := hD
        refine w_eqi (show r_75 = tellB B i 6 from hw_75) ?_
        refine lv_i2l (v := (tellB B i 6 : Int32).toInt64) hx hb dX4_digest_78 rfl ?_
        refine lv_ladd hx hb dX4_digest_79 ?_
        refine lv_lstore_n (lv' := [(1, .long ((((((((((((((dd * 31) + (Int32.toInt64 (tellB B i 0))) * 31) + (Int32.toInt64 (tellB B i 1))) * 31) + (Int32.toInt64 (tellB B i 2))) * 31) + (Int32.toInt64 (tellB B i 3))) * 31) + (Int32.toInt64 (tellB B i 4))) * 31) + (Int32.toInt64 (tellB B i 5))) * 31) + (Int32.toInt64 (tellB B i 6)))), (4, .int 6), (0, .ref ox), (3, .int (nI i))]) hx hb dX4_digest_80 rfl hl (by decide) rfl (fun ls hl => ?_)
        refine lv_iinc (v := 7) (lv' := [(4, .int 7), (1, .long ((((((((((((((dd * 31) + (Int32.toInt64 (tellB B i 0))) * 31) + (Int32.toInt64 (tellB B i 1))) * 31) + (Int32.toInt64 (tellB B i 2))) * 31) + (Int32.toInt64 (tellB B i 3))) * 31) + (Int32.toInt64 (tellB B i 4))) * 31) + (Int32.toInt64 (tellB B i 5))) * 31) + (Int32.toInt64 (tellB B i 6)))), (0, .ref ox), (3, .int (nI i))]) (k := 1) hx hb dX4_digest_81 hl rfl (by decide) (by decide) rfl (fun ls hl => ?_)
        refine lv_goto (tgt := 53) hx hb dX4_digest_84 (by decide) ?_
        refine lv_iload hx hb dX4_digest_53 (lv_at hl 0 rfl) ?_
        refine lv_bipush (v := 10) hx hb dX4_digest_55 (by decide) ?_
        refine lv_icmp_ge (tgt := 87) hx hb dX4_digest_57 (by decide) (fun q => absurd q (by decide)) (fun _ => ?_)
        refine lv_lload_n hx hb dX4_digest_60 rfl (lv_at hl 1 rfl) ?_
        refine lv_ldc2 (v := 31) hx hb hown (hts (.constantLong RX4 175 31) (List.mem_of_getElem? (i := 2) rfl)) dX4_digest_61 ?_
        refine lv_lmul hx hb dX4_digest_64 ?_
        refine lv_aload_n hx hb dX4_digest_65 rfl (lv_at hl 2 rfl) ?_
        refine va_get (D := D) (ci := 4) (v := .ref (a 0)) (C := RX4) (T := TX4) (N := 2) hx hb hts hwX4 hown hE.K hP 0 rfl rfl 0 (by decide) (hts (.fieldLink RX4 10 "SedgeBarges" "now" "LSedgeBarges$Waterway;") (List.mem_of_getElem? (i := 3) rfl)) (fun _ h9 => h9) rfl dX4_digest_66 ?_
        refine va_getN (D := D) (ci := 3) (v := .ref (a 1)) (C := RX3) (T := TX3) (N := 7) hx hb hts hwX3 hown hE.K hP 1 rfl rfl 4 (by decide) (nf_5 hE) (fun _ h9 => h9) rfl dX4_digest_69 ?_
        refine lv_iload_n hx hb dX4_digest_72 rfl (lv_at hl 3 rfl) ?_
        refine lv_iload hx hb dX4_digest_73 (lv_at hl 0 rfl) ?_
        refine goI ([oX ox a a2, oWay a dy co ti ro]) (wBars cA (a 2) v nb G ++ (wLand cA (a 3) w T ++ (wWay cA a2 dy2 co2 ti2 ro2 u2 n2 B2 ch2 v2 nb2 G2 w2 T2))) hP hD hS hA (rnV (rest := [.long (((((((((((((((dd * 31) + (Int32.toInt64 (tellB B i 0))) * 31) + (Int32.toInt64 (tellB B i 1))) * 31) + (Int32.toInt64 (tellB B i 2))) * 31) + (Int32.toInt64 (tellB B i 3))) * 31) + (Int32.toInt64 (tellB B i 4))) * 31) + (Int32.toInt64 (tellB B i 5))) * 31) + (Int32.toInt64 (tellB B i 6))) * 31)]) (c_Beds_tell sa tb D cA cL l (a 1) u n B ch i 7 (show i < 8 from by first | omega | assumption | decide) (show 7 < 10 from by first | omega | assumption | decide)) ([oX ox a a2, oWay a dy co ti ro]) (wBars cA (a 2) v nb G ++ (wLand cA (a 3) w T ++ (wWay cA a2 dy2 co2 ti2 ro2 u2 n2 B2 ch2 v2 nb2 G2 w2 T2))) hP hD hS hA hE ⟨hx, hb, hml, hown, hts⟩ (cwV 2 hts gX4_digest_X1_tell rfl rfl rfl (by decide +kernel) ⟨(Nat.le_of_ble_eq_true rfl), (Nat.le_of_ble_eq_true rfl)⟩) 1 0 rfl rfl rfl rfl hl.1 rfl (Nat.le_of_ble_eq_true rfl) dX4_digest_75 ⟨(Nat.le_of_ble_eq_true rfl), (Nat.le_of_ble_eq_true rfl)⟩) (fun _ => rfl) (fun r_75 u_75 H locs hw_75 hP hD hS => ?_)
        have hP : va_P D vwCl (wX cA ox a dy co ti ro u n B ch v nb G w T a2 dy2 co2 ti2 ro2 u2 n2 B2 ch2 v2 nb2 G2 w2 T2) H := hP
        have hD : va_D A (wX cA ox a dy co ti ro u n B ch v nb G w T a2 dy2 co2 ti2 ro2 u2 n2 B2 ch2 v2 nb2 G2 w2 T2) := hD
        refine w_eqi (show r_75 = tellB B i 7 from hw_75) ?_
        refine lv_i2l (v := (tellB B i 7 : Int32).toInt64) hx hb dX4_digest_78 rfl ?_
        refine lv_ladd hx hb dX4_digest_79 ?_
        refine lv_lstore_n (lv' := [(1, .long ((((((((((((((((dd * 31) + (Int32.toInt64 (tellB B i 0))) * 31) + (Int32.toInt64 (tellB B i 1))) * 31) + (Int32.toInt64 (tellB B i 2))) * 31) + (Int32.toInt64 (tellB B i 3))) * 31) + (Int32.toInt64 (tellB B i 4))) * 31) + (Int32.toInt64 (tellB B i 5))) * 31) + (Int32.toInt64 (tellB B i 6))) * 31) + (Int32.toInt64 (tellB B i 7)))), (4, .int 7), (0, .ref ox), (3, .int (nI i))]) hx hb dX4_digest_80 rfl hl (by decide) rfl (fun ls hl => ?_)
        refine lv_iinc (v := 8) (lv' := [(4, .int 8), (1, .long ((((((((((((((((dd * 31) + (Int32.toInt64 (tellB B i 0))) * 31) + (Int32.toInt64 (tellB B i 1))) * 31) + (Int32.toInt64 (tellB B i 2))) * 31) + (Int32.toInt64 (tellB B i 3))) * 31) + (Int32.toInt64 (tellB B i 4))) * 31) + (Int32.toInt64 (tellB B i 5))) * 31) + (Int32.toInt64 (tellB B i 6))) * 31) + (Int32.toInt64 (tellB B i 7)))), (0, .ref ox), (3, .int (nI i))]) (k := 1) hx hb dX4_digest_81 hl rfl (by decide) (by decide) rfl (fun ls hl => ?_)
        refine lv_goto (tgt := 53) hx hb dX4_digest_84 (by decide) ?_
        refine lv_iload hx hb dX4_digest_53 (lv_at hl 0 rfl) ?_
        refine lv_bipush (v := 10) hx hb dX4_digest_55 (by decide) ?_
        refine lv_icmp_ge (tgt := 87) hx hb dX4_digest_57 (by decide) (fun q => absurd q (by decide)) (fun _ => ?_)
        refine lv_lload_n hx hb dX4_digest_60 rfl (lv_at hl 1 rfl) ?_
        refine lv_ldc2 (v := 31) hx hb hown (hts (.constantLong RX4 175 31) (List.mem_of_getElem? (i := 2) rfl)) dX4_digest_61 ?_
        refine lv_lmul hx hb dX4_digest_64 ?_
        refine lv_aload_n hx hb dX4_digest_65 rfl (lv_at hl 2 rfl) ?_
        refine va_get (D := D) (ci := 4) (v := .ref (a 0)) (C := RX4) (T := TX4) (N := 2) hx hb hts hwX4 hown hE.K hP 0 rfl rfl 0 (by decide) (hts (.fieldLink RX4 10 "SedgeBarges" "now" "LSedgeBarges$Waterway;") (List.mem_of_getElem? (i := 3) rfl)) (fun _ h9 => h9) rfl dX4_digest_66 ?_
        refine va_getN (D := D) (ci := 3) (v := .ref (a 1)) (C := RX3) (T := TX3) (N := 7) hx hb hts hwX3 hown hE.K hP 1 rfl rfl 4 (by decide) (nf_5 hE) (fun _ h9 => h9) rfl dX4_digest_69 ?_
        refine lv_iload_n hx hb dX4_digest_72 rfl (lv_at hl 3 rfl) ?_
        refine lv_iload hx hb dX4_digest_73 (lv_at hl 0 rfl) ?_
        refine goI ([oX ox a a2, oWay a dy co ti ro]) (wBars cA (a 2) v nb G ++ (wLand cA (a 3) w T ++ (wWay cA a2 dy2 co2 ti2 ro2 u2 n2 B2 ch2 v2 nb2 G2 w2 T2))) hP hD hS hA (rnV (rest := [.long (((((((((((((((((dd * 31) + (Int32.toInt64 (tellB B i 0))) * 31) + (Int32.toInt64 (tellB B i 1))) * 31) + (Int32.toInt64 (tellB B i 2))) * 31) + (Int32.toInt64 (tellB B i 3))) * 31) + (Int32.toInt64 (tellB B i 4))) * 31) + (Int32.toInt64 (tellB B i 5))) * 31) + (Int32.toInt64 (tellB B i 6))) * 31) + (Int32.toInt64 (tellB B i 7))) * 31)]) (c_Beds_tell sa tb D cA cL l (a 1) u n B ch i 8 (show i < 8 from by first | omega | assumption | decide) (show 8 < 10 from by first | omega | assumption | decide)) ([oX ox a a2, oWay a dy co ti ro]) (wBars cA (a 2) v nb G ++ (wLand cA (a 3) w T ++ (wWay cA a2 dy2 co2 ti2 ro2 u2 n2 B2 ch2 v2 nb2 G2 w2 T2))) hP hD hS hA hE ⟨hx, hb, hml, hown, hts⟩ (cwV 2 hts gX4_digest_X1_tell rfl rfl rfl (by decide +kernel) ⟨(Nat.le_of_ble_eq_true rfl), (Nat.le_of_ble_eq_true rfl)⟩) 1 0 rfl rfl rfl rfl hl.1 rfl (Nat.le_of_ble_eq_true rfl) dX4_digest_75 ⟨(Nat.le_of_ble_eq_true rfl), (Nat.le_of_ble_eq_true rfl)⟩) (fun _ => rfl) (fun r_75 u_75 H locs hw_75 hP hD hS => ?_)
        have hP : va_P D vwCl (wX cA ox a dy co ti ro u n B ch v nb G w T a2 dy2 co2 ti2 ro2 u2 n2 B2 ch2 v2 nb2 G2 w2 T2) H := hP
        have hD : va_D A (wX cA ox a dy co ti ro u n B ch v nb G w T a2 dy2 co2 ti2 ro2 u2 n2 B2 ch2 v2 nb2 G2 w2 T2) := hD
        refine w_eqi (show r_75 = tellB B i 8 from hw_75) ?_
        refine lv_i2l (v := (tellB B i 8 : Int32).toInt64) hx hb dX4_digest_78 rfl ?_
        refine lv_ladd hx hb dX4_digest_79 ?_
        refine lv_lstore_n (lv' := [(1, .long ((((((((((((((((((dd * 31) + (Int32.toInt64 (tellB B i 0))) * 31) + (Int32.toInt64 (tellB B i 1))) * 31) + (Int32.toInt64 (tellB B i 2))) * 31) + (Int32.toInt64 (tellB B i 3))) * 31) + (Int32.toInt64 (tellB B i 4))) * 31) + (Int32.toInt64 (tellB B i 5))) * 31) + (Int32.toInt64 (tellB B i 6))) * 31) + (Int32.toInt64 (tellB B i 7))) * 31) + (Int32.toInt64 (tellB B i 8)))), (4, .int 8), (0, .ref ox), (3, .int (nI i))]) hx hb dX4_digest_80 rfl hl (by decide) rfl (fun ls hl => ?_)
        refine lv_iinc (v := 9) (lv' := [(4, .int 9), (1, .long ((((((((((((((((((dd * 31) + (Int32.toInt64 (tellB B i 0))) * 31) + (Int32.toInt64 (tellB B i 1))) * 31) + (Int32.toInt64 (tellB B i 2))) * 31) + (Int32.toInt64 (tellB B i 3))) * 31) + (Int32.toInt64 (tellB B i 4))) * 31) + (Int32.toInt64 (tellB B i 5))) * 31) + (Int32.toInt64 (tellB B i 6))) * 31) + (Int32.toInt64 (tellB B i 7))) * 31) + (Int32.toInt64 (tellB B i 8)))), (0, .ref ox), (3, .int (nI i))]) (k := 1) hx hb dX4_digest_81 hl rfl (by decide) (by decide) rfl (fun ls hl => ?_)
        refine lv_goto (tgt := 53) hx hb dX4_digest_84 (by decide) ?_
        refine lv_iload hx hb dX4_digest_53 (lv_at hl 0 rfl) ?_
        refine lv_bipush (v := 10) hx hb dX4_digest_55 (by decide) ?_
        refine lv_icmp_ge (tgt := 87) hx hb dX4_digest_57 (by decide) (fun q => absurd q (by decide)) (fun _ => ?_)
        refine lv_lload_n hx hb dX4_digest_60 rfl (lv_at hl 1 rfl) ?_
        refine lv_ldc2 (v := 31) hx hb hown (hts (.constantLong RX4 175 31) (List.mem_of_getElem? (i := 2) rfl)) dX4_digest_61 ?_
        refine lv_lmul hx hb dX4_digest_64 ?_
        refine lv_aload_n hx hb dX4_digest_65 rfl (lv_at hl 2 rfl) ?_
        refine va_get (D := D) (ci := 4) (v := .ref (a 0)) (C := RX4) (T := TX4) (N := 2) hx hb hts hwX4 hown hE.K hP 0 rfl rfl 0 (by decide) (hts (.fieldLink RX4 10 "SedgeBarges" "now" "LSedgeBarges$Waterway;") (List.mem_of_getElem? (i := 3) rfl)) (fun _ h9 => h9) rfl dX4_digest_66 ?_
        refine va_getN (D := D) (ci := 3) (v := .ref (a 1)) (C := RX3) (T := TX3) (N := 7) hx hb hts hwX3 hown hE.K hP 1 rfl rfl 4 (by decide) (nf_5 hE) (fun _ h9 => h9) rfl dX4_digest_69 ?_
        refine lv_iload_n hx hb dX4_digest_72 rfl (lv_at hl 3 rfl) ?_
        refine lv_iload hx hb dX4_digest_73 (lv_at hl 0 rfl) ?_
        refine goI ([oX ox a a2, oWay a dy co ti ro]) (wBars cA (a 2) v nb G ++ (wLand cA (a 3) w T ++ (wWay cA a2 dy2 co2 ti2 ro2 u2 n2 B2 ch2 v2 nb2 G2 w2 T2))) hP hD hS hA (rnV (rest := [.long (((((((((((((((((((dd * 31) + (Int32.toInt64 (tellB B i 0))) * 31) + (Int32.toInt64 (tellB B i 1))) * 31) + (Int32.toInt64 (tellB B i 2))) * 31) + (Int32.toInt64 (tellB B i 3))) * 31) + (Int32.toInt64 (tellB B i 4))) * 31) + (Int32.toInt64 (tellB B i 5))) * 31) + (Int32.toInt64 (tellB B i 6))) * 31) + (Int32.toInt64 (tellB B i 7))) * 31) + (Int32.toInt64 (tellB B i 8))) * 31)]) (c_Beds_tell sa tb D cA cL l (a 1) u n B ch i 9 (show i < 8 from by first | omega | assumption | decide) (show 9 < 10 from by first | omega | assumption | decide)) ([oX ox a a2, oWay a dy co ti ro]) (wBars cA (a 2) v nb G ++ (wLand cA (a 3) w T ++ (wWay cA a2 dy2 co2 ti2 ro2 u2 n2 B2 ch2 v2 nb2 G2 w2 T2))) hP hD hS hA hE ⟨hx, hb, hml, hown, hts⟩ (cwV 2 hts gX4_digest_X1_tell rfl rfl rfl (by decide +kernel) ⟨(Nat.le_of_ble_eq_true rfl), (Nat.le_of_ble_eq_true rfl)⟩) 1 0 rfl rfl rfl rfl hl.1 rfl (Nat.le_of_ble_eq_true rfl) dX4_digest_75 ⟨(Nat.le_of_ble_eq_true rfl), (Nat.le_of_ble_eq_true rfl)⟩) (fun _ => rfl) (fun r_75 u_75 H locs hw_75 hP hD hS => ?_)
        have hP : va_P D vwCl (wX cA ox a dy co ti ro u n B ch v nb G w T a2 dy2 co2 ti2 ro2 u2 n2 B2 ch2 v2 nb2 G2 w2 T2) H := hP
        have hD : va_D A (wX cA ox a dy co ti ro u n B ch v nb G w T a2 dy2 co2 ti2 ro2 u2 n2 B2 ch2 v2 nb2 G2 w2 T2) := hD
        refine w_eqi (show r_75 = tellB B i 9 from hw_75) ?_
        refine lv_i2l (v := (tellB B i 9 : Int32).toInt64) hx hb dX4_digest_78 rfl ?_
        refine lv_ladd hx hb dX4_digest_79 ?_
        refine lv_lstore_n (lv' := [(1, .long ((((((((((((((((((((dd * 31) + (Int32.toInt64 (tellB B i 0))) * 31) + (Int32.toInt64 (tellB B i 1))) * 31) + (Int32.toInt64 (tellB B i 2))) * 31) + (Int32.toInt64 (tellB B i 3))) * 31) + (Int32.toInt64 (tellB B i 4))) * 31) + (Int32.toInt64 (tellB B i 5))) * 31) + (Int32.toInt64 (tellB B i 6))) * 31) + (Int32.toInt64 (tellB B i 7))) * 31) + (Int32.toInt64 (tellB B i 8))) * 31) + (Int32.toInt64 (tellB B i 9)))), (4, .int 9), (0, .ref ox), (3, .int (nI i))]) hx hb dX4_digest_80 rfl hl (by decide) rfl (fun ls hl => ?_)
        refine lv_iinc (v := 10) (lv' := [(4, .int 10), (1, .long ((((((((((((((((((((dd * 31) + (Int32.toInt64 (tellB B i 0))) * 31) + (Int32.toInt64 (tellB B i 1))) * 31) + (Int32.toInt64 (tellB B i 2))) * 31) + (Int32.toInt64 (tellB B i 3))) * 31) + (Int32.toInt64 (tellB B i 4))) * 31) + (Int32.toInt64 (tellB B i 5))) * 31) + (Int32.toInt64 (tellB B i 6))) * 31) + (Int32.toInt64 (tellB B i 7))) * 31) + (Int32.toInt64 (tellB B i 8))) * 31) + (Int32.toInt64 (tellB B i 9)))), (0, .ref ox), (3, .int (nI i))]) (k := 1) hx hb dX4_digest_81 hl rfl (by decide) (by decide) rfl (fun ls hl => ?_)
        refine lv_goto (tgt := 53) hx hb dX4_digest_84 (by decide) ?_
        refine lv_iload hx hb dX4_digest_53 (lv_at hl 0 rfl) ?_
        refine lv_bipush (v := 10) hx hb dX4_digest_55 (by decide) ?_
        refine lv_icmp_ge (tgt := 87) hx hb dX4_digest_57 (by decide) (fun _ => ?_) (fun q => absurd (by decide) q)
        refine lv_iinc (v := (nI (i + 1))) (lv' := [(3, .int (nI (i + 1))), (4, .int 10), (1, .long ((((((((((((((((((((dd * 31) + (Int32.toInt64 (tellB B i 0))) * 31) + (Int32.toInt64 (tellB B i 1))) * 31) + (Int32.toInt64 (tellB B i 2))) * 31) + (Int32.toInt64 (tellB B i 3))) * 31) + (Int32.toInt64 (tellB B i 4))) * 31) + (Int32.toInt64 (tellB B i 5))) * 31) + (Int32.toInt64 (tellB B i 6))) * 31) + (Int32.toInt64 (tellB B i 7))) * 31) + (Int32.toInt64 (tellB B i 8))) * 31) + (Int32.toInt64 (tellB B i 9)))), (0, .ref ox)]) (k := 3) hx hb dX4_digest_87 hl rfl (iinc1 _) (by decide) rfl (fun ls hl => ?_)
        refine lv_goto (tgt := 36) hx hb dX4_digest_90 (by decide) ?_
        exact ih_36  (i + 1) ((((((((((((((((((((dd * 31) + (Int32.toInt64 (tellB B i 0))) * 31) + (Int32.toInt64 (tellB B i 1))) * 31) + (Int32.toInt64 (tellB B i 2))) * 31) + (Int32.toInt64 (tellB B i 3))) * 31) + (Int32.toInt64 (tellB B i 4))) * 31) + (Int32.toInt64 (tellB B i 5))) * 31) + (Int32.toInt64 (tellB B i 6))) * 31) + (Int32.toInt64 (tellB B i 7))) * 31) + (Int32.toInt64 (tellB B i 8))) * 31) + (Int32.toInt64 (tellB B i 9))) (show n - (i + 1) < f_36 from by omega) (show (i + 1) ≤ n from by omega) (show ((((((((((((((((((((dd * 31) + (Int32.toInt64 (tellB B i 0))) * 31) + (Int32.toInt64 (tellB B i 1))) * 31) + (Int32.toInt64 (tellB B i 2))) * 31) + (Int32.toInt64 (tellB B i 3))) * 31) + (Int32.toInt64 (tellB B i 4))) * 31) + (Int32.toInt64 (tellB B i 5))) * 31) + (Int32.toInt64 (tellB B i 6))) * 31) + (Int32.toInt64 (tellB B i 7))) * 31) + (Int32.toInt64 (tellB B i 8))) * 31) + (Int32.toInt64 (tellB B i 9))) = dgB B (i + 1) (dg (tellW dy co ti ro n B nb G T) 11 1277) from by rw [hdd]; rfl) _ _ hP hD hS ls (lv_sub hl [3, 2, 0] rfl)
  exact loop_36 ((n - 0) + 1) 0 ((((((((((((((((((((((1277 * 31) + (Int32.toInt64 (tellW dy co ti ro n B nb G T 0))) * 31) + (Int32.toInt64 (tellW dy co ti ro n B nb G T 1))) * 31) + (Int32.toInt64 (tellW dy co ti ro n B nb G T 2))) * 31) + (Int32.toInt64 (tellW dy co ti ro n B nb G T 3))) * 31) + (Int32.toInt64 (tellW dy co ti ro n B nb G T 4))) * 31) + (Int32.toInt64 (tellW dy co ti ro n B nb G T 5))) * 31) + (Int32.toInt64 (tellW dy co ti ro n B nb G T 6))) * 31) + (Int32.toInt64 (tellW dy co ti ro n B nb G T 7))) * 31) + (Int32.toInt64 (tellW dy co ti ro n B nb G T 8))) * 31) + (Int32.toInt64 (tellW dy co ti ro n B nb G T 9))) * 31) + (Int32.toInt64 (tellW dy co ti ro n B nb G T 10))) (Nat.lt_succ_self _) (show 0 ≤ n from by omega) (show ((((((((((((((((((((((1277 * 31) + (Int32.toInt64 (tellW dy co ti ro n B nb G T 0))) * 31) + (Int32.toInt64 (tellW dy co ti ro n B nb G T 1))) * 31) + (Int32.toInt64 (tellW dy co ti ro n B nb G T 2))) * 31) + (Int32.toInt64 (tellW dy co ti ro n B nb G T 3))) * 31) + (Int32.toInt64 (tellW dy co ti ro n B nb G T 4))) * 31) + (Int32.toInt64 (tellW dy co ti ro n B nb G T 5))) * 31) + (Int32.toInt64 (tellW dy co ti ro n B nb G T 6))) * 31) + (Int32.toInt64 (tellW dy co ti ro n B nb G T 7))) * 31) + (Int32.toInt64 (tellW dy co ti ro n B nb G T 8))) * 31) + (Int32.toInt64 (tellW dy co ti ro n B nb G T 9))) * 31) + (Int32.toInt64 (tellW dy co ti ro n B nb G T 10))) = dgB B 0 (dg (tellW dy co ti ro n B nb G T) 11 1277) from rfl) _ _ hP hD hS ls (lv_sub hl [2, 1, 0] rfl)
