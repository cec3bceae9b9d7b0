set_option maxRecDepth 100000 in
set_option maxHeartbeats 4000000 in
theorem c_Beds_givenByAll (sa : Nat × Nat × (Nat → Int32)) (tb : Nat → Nat) (D : va_G) (cA cL : ClassId) (l : Launch) (h : Nat) (u : Nat → Nat) (n : Nat) (B : Nat → Nat → Int32) (ch : Nat → Int32) (hn : n ≤ 8) : KM sa tb D cA cL l yX1_givenByAll wsX1_givenByAll ({ frames := 1, cells := 0, slots := 0, locals := 23 }) [.ref h] (wBeds cA h u n B ch) (qI D (fun (r : Int32) (_ : Unit) => r = sumF (given B) n) (fun _ => wBeds cA h u n B ch)) := by
  refine KM.of (cc := cX1_givenByAll) (maxL := 3) (ret := some .int) (by decide) rfl (Nat.le_of_ble_eq_true rfl) ?_
  intro pg e s m args below meth c A hx hb hr hml hlocks hts hown hS hA hE hP hD ls hl
  have hown : s.vm.findClass RX1 = some m.cls := hown
  have hl : lv_has ls 3 [(0, .ref h)] := hl
  have hwX1 : ∀ w ∈ wsX10, w ∈ wsX1_givenByAll := (fun _ h => List.mem_cons_of_mem _ (List.mem_append_right _ h))
  refine lv_iconst (v := 0) hx hb dX1_givenByAll_0 (by decide) ?_
  refine lv_istore_n (lv' := [(1, .int 0), (0, .ref h)]) hx hb dX1_givenByAll_1 rfl hl (by decide) rfl (fun ls hl => ?_)
  refine lv_iconst (v := 0) hx hb dX1_givenByAll_2 (by decide) ?_
  refine lv_istore_n (lv' := [(2, .int 0), (1, .int 0), (0, .ref h)]) hx hb dX1_givenByAll_3 rfl hl (by decide) rfl (fun ls hl => ?_)
  have loop_4 : ∀ (f_4 : Nat) (i : Nat) (acc : Int32), (n - i) < f_4 → (i ≤ n) → (acc = sumF (given B) i) → ∀ (H : Heap) (locs : List Loc), va_P D vwCl (wBeds cA h u n B ch) H → va_D A (wBeds cA h u n B ch) → va_S A s.heap H locs → ∀ ls : Array Slot, lv_has ls 3 [(0, .ref h), (1, .int acc), (2, .int (nI i))] → W pg l e ({ frames := 1, cells := 0, slots := 0, locals := 23 }) s m args below meth c H locs 0 0 (MQ below (qI D (fun (r : Int32) (_ : Unit) => r = sumF (given B) n) (fun _ => wBeds cA h u n B ch) A) args s 0 0 A) (F0 m 4 ls []) := by
    intro f_4
    induction f_4 with
    | zero => intro i acc h_f; exact absurd h_f (Nat.not_lt_zero _)
    | succ f_4 ih_4 =>
      intro i acc h_f4 hi hacc H locs hP hD hS ls hl
      refine lv_iload_n hx hb dX1_givenByAll_4 rfl (lv_at hl 2 rfl) ?_
      refine lv_aload_n hx hb dX1_givenByAll_5 rfl (lv_at hl 0 rfl) ?_
      refine va_get (D := D) (ci := 1) (v := .int (nI n)) (C := RX1) (T := TX1) (N := 10) hx hb hts hwX1 hown hE.K hP 0 rfl rfl 0 (by decide) (hts (.fieldLink RX1 39 "SedgeBarges$Beds" "number" "I") (List.mem_of_getElem? (i := 1) rfl)) (fun _ h9 => h9) rfl dX1_givenByAll_6 ?_
      refine rc_ge (tgt := 26) (a := i) (b := n) hx hb (by omega) (by omega) dX1_givenByAll_9 (by decide) (fun c_9 => ?_) (fun c_9 => ?_)
      · refine lv_iload_n hx hb dX1_givenByAll_26 rfl (lv_at hl 1 rfl) ?_
        rw [show i = n from by omega] at hacc
        exact enI () hx hb hr hlocks hS hP (hacc) dX1_givenByAll_27
      · refine lv_iload_n hx hb dX1_givenByAll_12 rfl (lv_at hl 1 rfl) ?_
        refine lv_aload_n hx hb dX1_givenByAll_13 rfl (lv_at hl 0 rfl) ?_
        refine lv_iload_n hx hb dX1_givenByAll_14 rfl (lv_at hl 2 rfl) ?_
        refine goI ([]) ([]) hP hD hS hA (rnV (rest := [.int acc]) (c_Beds_given sa tb D cA cL l h u n B ch i (show i < 8 from by first | omega | assumption | decide)) ([]) ([]) hP hD hS hA hE ⟨hx, hb, hml, hown, hts⟩ (cwV 1 hts gX1_givenByAll_X1_given rfl rfl rfl (by decide +kernel) ⟨(Nat.le_of_ble_eq_true rfl), (Nat.le_of_ble_eq_true rfl)⟩) 1 0 rfl rfl rfl rfl hl.1 rfl (Nat.le_of_ble_eq_true rfl) dX1_givenByAll_15 ⟨(Nat.le_of_ble_eq_true rfl), (Nat.le_of_ble_eq_true rfl)⟩) (fun _ => rfl) (fun r_15 u_15 H locs hw_15 hP hD hS => ?_)
        have hP : va_P D vwCl (wBeds cA h u n B ch) H := hP
        have hD : va_D A (wBeds cA h u n B ch) := hD
        obtain rfl : r_15 = given B i := hw_15
        refine lv_iadd hx hb dX1_givenByAll_18 ?_
        refine lv_topi (fun z_1 hz_1 => ?_)
        refine lv_istore_n (lv' := [(1, .int z_1), (0, .ref h), (2, .int (nI i))]) hx hb dX1_givenByAll_19 rfl hl (by decide) rfl (fun ls hl => ?_)
        refine lv_iinc (v := (nI (i + 1))) (lv' := [(2, .int (nI (i + 1))), (1, .int z_1), (0, .ref h)]) (k := 2) hx hb dX1_givenByAll_20 hl rfl (iinc1 _) (by decide) rfl (fun ls hl => ?_)
        refine lv_goto (tgt := 4) hx hb dX1_givenByAll_23 (by decide) ?_
        subst hz_1
        exact ih_4  (i + 1) (acc + (given B i)) (show n - (i + 1) < f_4 from by omega) (show (i + 1) ≤ n from by omega) (show (acc + (given B i)) = sumF (given B) (i + 1) from by rw [hacc]; rfl) _ _ hP hD hS ls (lv_sub hl [2, 1, 0] rfl)
  exact loop_4 ((n - 0) + 1) 0 0 (Nat.lt_succ_self _) (show 0 ≤ n from by omega) (show 0 = sumF (given B) 0 from rfl) _ _ hP hD hS ls (lv_sub hl [2, 1, 0] rfl)
set_option maxRecDepth 100000 in
set_option maxHeartbeats 4000000 in
theorem c_Beds_untiedOfAll (sa : Nat × Nat × (Nat → Int32)) (tb : Nat → Nat) (D : va_G) (cA cL : ClassId) (l : Launch) (h : Nat) (u : Nat → Nat) (n : Nat) (B : Nat → Nat → Int32) (ch : Nat → Int32) (hn : n ≤ 8) : KM sa tb D cA cL l yX1_untiedOfAll wsX1_untiedOfAll ({ frames := 0, cells := 0, slots := 0, locals := 0 }) [.ref h] (wBeds cA h u n B ch) (qI D (fun (r : Int32) (_ : Unit) => r = sumF (untF B) n) (fun _ => wBeds cA h u n B ch)) := by
  refine KM.of (cc := cX1_untiedOfAll) (maxL := 3) (ret := some .int) (by decide) rfl (Nat.le_of_ble_eq_true rfl) ?_
  intro pg e s m args below meth c A hx hb hr hml hlocks hts hown hS hA hE hP hD ls hl
  have hown : s.vm.findClass RX1 = some m.cls := hown
  have hl : lv_has ls 3 [(0, .ref h)] := hl
  have hwX1 : ∀ w ∈ wsX10, w ∈ wsX1_untiedOfAll := (fun _ h => List.mem_cons_of_mem _ (List.mem_append_right _ h))
  refine lv_iconst (v := 0) hx hb dX1_untiedOfAll_0 (by decide) ?_
  refine lv_istore_n (lv' := [(1, .int 0), (0, .ref h)]) hx hb dX1_untiedOfAll_1 rfl hl (by decide) rfl (fun ls hl => ?_)
  refine lv_iconst (v := 0) hx hb dX1_untiedOfAll_2 (by decide) ?_
  refine lv_istore_n (lv' := [(2, .int 0), (1, .int 0), (0, .ref h)]) hx hb dX1_untiedOfAll_3 rfl hl (by decide) rfl (fun ls hl => ?_)
  have loop_4 : ∀ (f_4 : Nat) (i : Nat) (acc : Int32), (n - i) < f_4 → (i ≤ n) → (acc = sumF (untF B) i) → ∀ (H : Heap) (locs : List Loc), va_P D vwCl (wBeds cA h u n B ch) H → va_D A (wBeds cA h u n B ch) → va_S A s.heap H locs → ∀ ls : Array Slot, lv_has ls 3 [(0, .ref h), (1, .int acc), (2, .int (nI i))] → W pg l e ({ frames := 0, cells := 0, slots := 0, locals := 0 }) s m args below meth c H locs 0 0 (MQ below (qI D (fun (r : Int32) (_ : Unit) => r = sumF (untF B) n) (fun _ => wBeds cA h u n B ch) A) args s 0 0 A) (F0 m 4 ls []) := by
    intro f_4
    induction f_4 with
    | zero => intro i acc h_f; exact absurd h_f (Nat.not_lt_zero _)
    | succ f_4 ih_4 =>
      intro i acc h_f4 hi hacc H locs hP hD hS ls hl
      refine lv_iload_n hx hb dX1_untiedOfAll_4 rfl (lv_at hl 2 rfl) ?_
      refine lv_aload_n hx hb dX1_untiedOfAll_5 rfl (lv_at hl 0 rfl) ?_
      refine va_get (D := D) (ci := 1) (v := .int (nI n)) (C := RX1) (T := TX1) (N := 10) hx hb hts hwX1 hown hE.K hP 0 rfl rfl 0 (by decide) (hts (.fieldLink RX1 39 "SedgeBarges$Beds" "number" "I") (List.mem_of_getElem? (i := 1) rfl)) (fun _ h9 => h9) rfl dX1_untiedOfAll_6 ?_
      refine rc_ge (tgt := 34) (a := i) (b := n) hx hb (by omega) (by omega) dX1_untiedOfAll_9 (by decide) (fun c_9 => ?_) (fun c_9 => ?_)
      · refine lv_iload_n hx hb dX1_untiedOfAll_34 rfl (lv_at hl 1 rfl) ?_
        rw [show i = n from by omega] at hacc
        exact enI () hx hb hr hlocks hS hP (hacc) dX1_untiedOfAll_35
      · refine lv_iload_n hx hb dX1_untiedOfAll_12 rfl (lv_at hl 1 rfl) ?_
        refine lv_aload_n hx hb dX1_untiedOfAll_13 rfl (lv_at hl 0 rfl) ?_
        refine va_get (D := D) (ci := 1) (v := .ref (u 4)) (C := RX1) (T := TX1) (N := 10) hx hb hts hwX1 hown hE.K hP 0 rfl rfl 5 (by decide) (hts (.fieldLink RX1 24 "SedgeBarges$Beds" "untiedSedge" "[I") (List.mem_of_getElem? (i := 2) rfl)) (fun _ h9 => h9) rfl dX1_untiedOfAll_14 ?_
        refine lv_iload_n hx hb dX1_untiedOfAll_17 rfl (lv_at hl 2 rfl) ?_
        refine r_ald (f := B 4) (v := (B 4) i) hx hb hE hP 5 (i) rfl rfl (by omega) (by decide) rfl dX1_untiedOfAll_18 ?_
        refine lv_aload_n hx hb dX1_untiedOfAll_19 rfl (lv_at hl 0 rfl) ?_
        refine va_get (D := D) (ci := 1) (v := .ref (u 5)) (C := RX1) (T := TX1) (N := 10) hx hb hts hwX1 hown hE.K hP 0 rfl rfl 6 (by decide) (hts (.fieldLink RX1 27 "SedgeBarges$Beds" "untiedReed" "[I") (List.mem_of_getElem? (i := 3) rfl)) (fun _ h9 => h9) rfl dX1_untiedOfAll_20 ?_
        refine lv_iload_n hx hb dX1_untiedOfAll_23 rfl (lv_at hl 2 rfl) ?_
        refine r_ald (f := B 5) (v := (B 5) i) hx hb hE hP 6 (i) rfl rfl (by omega) (by decide) rfl dX1_untiedOfAll_24 ?_
        refine lv_iadd hx hb dX1_untiedOfAll_25 ?_
        refine lv_iadd hx hb dX1_untiedOfAll_26 ?_
        refine lv_topi (fun z_1 hz_1 => ?_)
        refine lv_istore_n (lv' := [(1, .int z_1), (0, .ref h), (2, .int (nI i))]) hx hb dX1_untiedOfAll_27 rfl hl (by decide) rfl (fun ls hl => ?_)
        refine lv_iinc (v := (nI (i + 1))) (lv' := [(2, .int (nI (i + 1))), (1, .int z_1), (0, .ref h)]) (k := 2) hx hb dX1_untiedOfAll_28 hl rfl (iinc1 _) (by decide) rfl (fun ls hl => ?_)
        refine lv_goto (tgt := 4) hx hb dX1_untiedOfAll_31 (by decide) ?_
        subst hz_1
        exact ih_4  (i + 1) (acc + (((B 4) i) + ((B 5) i))) (show n - (i + 1) < f_4 from by omega) (show (i + 1) ≤ n from by omega) (show (acc + (((B 4) i) + ((B 5) i))) = sumF (untF B) (i + 1) from by rw [hacc]; rfl) _ _ hP hD hS ls (lv_sub hl [2, 1, 0] rfl)
  exact loop_4 ((n - 0) + 1) 0 0 (Nat.lt_succ_self _) (show 0 ≤ n from by omega) (show 0 = sumF (untF B) 0 from rfl) _ _ hP hD hS ls (lv_sub hl [2, 1, 0] rfl)
set_option maxRecDepth 100000 in
set_option maxHeartbeats 4000000 in
theorem c_Beds_tiedOfAll (sa : Nat × Nat × (Nat → Int32)) (tb : Nat → Nat) (D : va_G) (cA cL : ClassId) (l : Launch) (h : Nat) (u : Nat → Nat) (n : Nat) (B : Nat → Nat → Int32) (ch : Nat → Int32) (hn : n ≤ 8) : KM sa tb D cA cL l yX1_tiedOfAll wsX1_tiedOfAll ({ frames := 0, cells := 0, slots := 0, locals := 0 }) [.ref h] (wBeds cA h u n B ch) (qI D (fun (r : Int32) (_ : Unit) => r = sumF (tiedF B) n) (fun _ => wBeds cA h u n B ch)) := by
  refine KM.of (cc := cX1_tiedOfAll) (maxL := 3) (ret := some .int) (by decide) rfl (Nat.le_of_ble_eq_true rfl) ?_
  intro pg e s m args below meth c A hx hb hr hml hlocks hts hown hS hA hE hP hD ls hl
  have hown : s.vm.findClass RX1 = some m.cls := hown
  have hl : lv_has ls 3 [(0, .ref h)] := hl
  have hwX1 : ∀ w ∈ wsX10, w ∈ wsX1_tiedOfAll := (fun _ h => List.mem_cons_of_mem _ (List.mem_append_right _ h))
  refine lv_iconst (v := 0) hx hb dX1_tiedOfAll_0 (by decide) ?_
  refine lv_istore_n (lv' := [(1, .int 0), (0, .ref h)]) hx hb dX1_tiedOfAll_1 rfl hl (by decide) rfl (fun ls hl => ?_)
  refine lv_iconst (v := 0) hx hb dX1_tiedOfAll_2 (by decide) ?_
  refine lv_istore_n (lv' := [(2, .int 0), (1, .int 0), (0, .ref h)]) hx hb dX1_tiedOfAll_3 rfl hl (by decide) rfl (fun ls hl => ?_)
  have loop_4 : ∀ (f_4 : Nat) (i : Nat) (acc : Int32), (n - i) < f_4 → (i ≤ n) → (acc = sumF (tiedF B) i) → ∀ (H : Heap) (locs : List Loc), va_P D vwCl (wBeds cA h u n B ch) H → va_D A (wBeds cA h u n B ch) → va_S A s.heap H locs → ∀ ls : Array Slot, lv_has ls 3 [(0, .ref h), (1, .int acc), (2, .int (nI i))] → W pg l e ({ frames := 0, cells := 0, slots := 0, locals := 0 }) s m args below meth c H locs 0 0 (MQ below (qI D (fun (r : Int32) (_ : Unit) => r = sumF (tiedF B) n) (fun _ => wBeds cA h u n B ch) A) args s 0 0 A) (F0 m 4 ls []) := by
    intro f_4
    induction f_4 with
    | zero => intro i acc h_f; exact absurd h_f (Nat.not_lt_zero _)
    | succ f_4 ih_4 =>
      intro i acc h_f4 hi hacc H locs hP hD hS ls hl
      refine lv_iload_n hx hb dX1_tiedOfAll_4 rfl (lv_at hl 2 rfl) ?_
      refine lv_aload_n hx hb dX1_tiedOfAll_5 rfl (lv_at hl 0 rfl) ?_
      refine va_get (D := D) (ci := 1) (v := .int (nI n)) (C := RX1) (T := TX1) (N := 10) hx hb hts hwX1 hown hE.K hP 0 rfl rfl 0 (by decide) (hts (.fieldLink RX1 39 "SedgeBarges$Beds" "number" "I") (List.mem_of_getElem? (i := 1) rfl)) (fun _ h9 => h9) rfl dX1_tiedOfAll_6 ?_
      refine rc_ge (tgt := 34) (a := i) (b := n) hx hb (by omega) (by omega) dX1_tiedOfAll_9 (by decide) (fun c_9 => ?_) (fun c_9 => ?_)
      · refine lv_iload_n hx hb dX1_tiedOfAll_34 rfl (lv_at hl 1 rfl) ?_
        rw [show i = n from by omega] at hacc
        exact enI () hx hb hr hlocks hS hP (hacc) dX1_tiedOfAll_35
      · refine lv_iload_n hx hb dX1_tiedOfAll_12 rfl (lv_at hl 1 rfl) ?_
        refine lv_aload_n hx hb dX1_tiedOfAll_13 rfl (lv_at hl 0 rfl) ?_
        refine va_get (D := D) (ci := 1) (v := .ref (u 6)) (C := RX1) (T := TX1) (N := 10) hx hb hts hwX1 hown hE.K hP 0 rfl rfl 7 (by decide) (hts (.fieldLink RX1 30 "SedgeBarges$Beds" "tiedSedge" "[I") (List.mem_of_getElem? (i := 2) rfl)) (fun _ h9 => h9) rfl dX1_tiedOfAll_14 ?_
        refine lv_iload_n hx hb dX1_tiedOfAll_17 rfl (lv_at hl 2 rfl) ?_
        refine r_ald (f := B 6) (v := (B 6) i) hx hb hE hP 7 (i) rfl rfl (by omega) (by decide) rfl dX1_tiedOfAll_18 ?_
        refine lv_aload_n hx hb dX1_tiedOfAll_19 rfl (lv_at hl 0 rfl) ?_
        refine va_get (D := D) (ci := 1) (v := .ref (u 7)) (C := RX1) (T := TX1) (N := 10) hx hb hts hwX1 hown hE.K hP 0 rfl rfl 8 (by decide) (hts (.fieldLink RX1 33 "SedgeBarges$Beds" "tiedReed" "[I") (List.mem_of_getElem? (i := 3) rfl)) (fun _ h9 => h9) rfl dX1_tiedOfAll_20 ?_
        refine lv_iload_n hx hb dX1_tiedOfAll_23 rfl (lv_at hl 2 rfl) ?_
        refine r_ald (f := B 7) (v := (B 7) i) hx hb hE hP 8 (i) rfl rfl (by omega) (by decide) rfl dX1_tiedOfAll_24 ?_
        refine lv_iadd hx hb dX1_tiedOfAll_25 ?_
        refine lv_iadd hx hb dX1_tiedOfAll_26 ?_
        refine lv_topi (fun z_1 hz_1 => ?_)
        refine lv_istore_n (lv' := [(1, .int z_1), (0, .ref h), (2, .int (nI i))]) hx hb dX1_tiedOfAll_27 rfl hl (by decide) rfl (fun ls hl => ?_)
        refine lv_iinc (v := (nI (i + 1))) (lv' := [(2, .int (nI (i + 1))), (1, .int z_1), (0, .ref h)]) (k := 2) hx hb dX1_tiedOfAll_28 hl rfl (iinc1 _) (by decide) rfl (fun ls hl => ?_)
        refine lv_goto (tgt := 4) hx hb dX1_tiedOfAll_31 (by decide) ?_
        subst hz_1
        exact ih_4  (i + 1) (acc + (((B 6) i) + ((B 7) i))) (show n - (i + 1) < f_4 from by omega) (show (i + 1) ≤ n from by omega) (show (acc + (((B 6) i) + ((B 7) i))) = sumF (tiedF B) (i + 1) from by rw [hacc]; rfl) _ _ hP hD hS ls (lv_sub hl [2, 1, 0] rfl)
  exact loop_4 ((n - 0) + 1) 0 0 (Nat.lt_succ_self _) (show 0 ≤ n from by omega) (show 0 = sumF (tiedF B) 0 from rfl) _ _ hP hD hS ls (lv_sub hl [2, 1, 0] rfl)
set_option maxRecDepth 100000 in
set_option maxHeartbeats 4000000 in
theorem c_Beds_tell (sa : Nat × Nat × (Nat → Int32)) (tb : Nat → Nat) (D : va_G) (cA cL : ClassId) (l : Launch) (h : Nat) (u : Nat → Nat) (n : Nat) (B : Nat → Nat → Int32) (ch : Nat → Int32) (k : Nat) (qw : Nat) (hk : k < 8) (hw : qw < 10) : KM sa tb D cA cL l yX1_tell wsX1_tell ({ frames := 2, cells := 0, slots := 0, locals := 44 }) [.ref h, .int (nI k), .int (nI qw)] (wBeds cA h u n B ch) (qI D (fun (r : Int32) (_ : Unit) => r = tellB B k qw) (fun _ => wBeds cA h u n B ch)) := by
  refine KM.of (cc := cX1_tell) (maxL := 3) (ret := some .int) (by decide) rfl (Nat.le_of_ble_eq_true rfl) ?_
  intro pg e s m args below meth c A hx hb hr hml hlocks hts hown hS hA hE hP hD ls hl
  have hown : s.vm.findClass RX1 = some m.cls := hown
  have hl : lv_has ls 3 [(0, .ref h), (1, .int (nI k)), (2, .int (nI qw))] := hl
  have hwX1 : ∀ w ∈ wsX10, w ∈ wsX1_tell := (fun _ h => List.mem_cons_of_mem _ (List.mem_append_right _ h))
  have hw9 : qw = 0 ∨ qw = 1 ∨ qw = 2 ∨ qw = 3 ∨ qw = 4 ∨ qw = 5 ∨ qw = 6 ∨ qw = 7 ∨ qw = 8 ∨ qw = 9 := by omega
  rcases hw9 with rfl | rfl | rfl | rfl | rfl | rfl | rfl | rfl | rfl | rfl
  · have hl : lv_has ls 3 [(0, .ref h), (1, .int (nI k)), (2, .int 0)] := hl
    refine lv_iload_n hx hb dX1_tell_0 rfl (lv_at hl 2 rfl) ?_
    refine lv_tableIn (tgt := 52) hx hb dX1_tell_1 (by decide) (by decide) (off := 51) (by decide) (by decide) ?_
    refine lv_aload_n hx hb dX1_tell_52 rfl (lv_at hl 0 rfl) ?_
    refine va_get (D := D) (ci := 1) (v := .ref (u 0)) (C := RX1) (T := TX1) (N := 10) hx hb hts hwX1 hown hE.K hP 0 rfl rfl 1 (by decide) (hts (.fieldLink RX1 9 "SedgeBarges$Beds" "place" "[I") (List.mem_of_getElem? (i := 1) rfl)) (fun _ h9 => h9) rfl dX1_tell_53 ?_
    refine lv_iload_n hx hb dX1_tell_56 rfl (lv_at hl 1 rfl) ?_
    refine r_ald (f := B 0) (v := (B 0) k) hx hb hE hP 1 (k) rfl rfl (by omega) (by decide) rfl dX1_tell_57 ?_
    exact enI () hx hb hr hlocks hS hP (rfl) dX1_tell_58
  · have hl : lv_has ls 3 [(0, .ref h), (1, .int (nI k)), (2, .int 1)] := hl
    refine lv_iload_n hx hb dX1_tell_0 rfl (lv_at hl 2 rfl) ?_
    refine lv_tableIn (tgt := 59) hx hb dX1_tell_1 (by decide) (by decide) (off := 58) (by decide) (by decide) ?_
    refine lv_aload_n hx hb dX1_tell_59 rfl (lv_at hl 0 rfl) ?_
    refine va_get (D := D) (ci := 1) (v := .ref (u 1)) (C := RX1) (T := TX1) (N := 10) hx hb hts hwX1 hown hE.K hP 0 rfl rfl 2 (by decide) (hts (.fieldLink RX1 15 "SedgeBarges$Beds" "size" "[I") (List.mem_of_getElem? (i := 2) rfl)) (fun _ h9 => h9) rfl dX1_tell_60 ?_
    refine lv_iload_n hx hb dX1_tell_63 rfl (lv_at hl 1 rfl) ?_
    refine r_ald (f := B 1) (v := (B 1) k) hx hb hE hP 2 (k) rfl rfl (by omega) (by decide) rfl dX1_tell_64 ?_
    exact enI () hx hb hr hlocks hS hP (rfl) dX1_tell_65
  · have hl : lv_has ls 3 [(0, .ref h), (1, .int (nI k)), (2, .int 2)] := hl
    refine lv_iload_n hx hb dX1_tell_0 rfl (lv_at hl 2 rfl) ?_
    refine lv_tableIn (tgt := 66) hx hb dX1_tell_1 (by decide) (by decide) (off := 65) (by decide) (by decide) ?_
    refine lv_aload_n hx hb dX1_tell_66 rfl (lv_at hl 0 rfl) ?_
    refine va_get (D := D) (ci := 1) (v := .ref (u 2)) (C := RX1) (T := TX1) (N := 10) hx hb hts hwX1 hown hE.K hP 0 rfl rfl 3 (by decide) (hts (.fieldLink RX1 18 "SedgeBarges$Beds" "age" "[I") (List.mem_of_getElem? (i := 3) rfl)) (fun _ h9 => h9) rfl dX1_tell_67 ?_
    refine lv_iload_n hx hb dX1_tell_70 rfl (lv_at hl 1 rfl) ?_
    refine r_ald (f := B 2) (v := (B 2) k) hx hb hE hP 3 (k) rfl rfl (by omega) (by decide) rfl dX1_tell_71 ?_
    exact enI () hx hb hr hlocks hS hP (rfl) dX1_tell_72
  · have hl : lv_has ls 3 [(0, .ref h), (1, .int (nI k)), (2, .int 3)] := hl
    refine lv_iload_n hx hb dX1_tell_0 rfl (lv_at hl 2 rfl) ?_
    refine lv_tableIn (tgt := 73) hx hb dX1_tell_1 (by decide) (by decide) (off := 72) (by decide) (by decide) ?_
    refine lv_aload_n hx hb dX1_tell_73 rfl (lv_at hl 0 rfl) ?_
    refine va_get (D := D) (ci := 1) (v := .ref (u 3)) (C := RX1) (T := TX1) (N := 10) hx hb hts hwX1 hown hE.K hP 0 rfl rfl 4 (by decide) (hts (.fieldLink RX1 21 "SedgeBarges$Beds" "sedge" "[I") (List.mem_of_getElem? (i := 4) rfl)) (fun _ h9 => h9) rfl dX1_tell_74 ?_
    refine lv_iload_n hx hb dX1_tell_77 rfl (lv_at hl 1 rfl) ?_
    refine r_ald (f := B 3) (v := (B 3) k) hx hb hE hP 4 (k) rfl rfl (by omega) (by decide) rfl dX1_tell_78 ?_
    exact enI () hx hb hr hlocks hS hP (rfl) dX1_tell_79
  · have hl : lv_has ls 3 [(0, .ref h), (1, .int (nI k)), (2, .int 4)] := hl
    refine lv_iload_n hx hb dX1_tell_0 rfl (lv_at hl 2 rfl) ?_
    refine lv_tableIn (tgt := 80) hx hb dX1_tell_1 (by decide) (by decide) (off := 79) (by decide) (by decide) ?_
    refine lv_aload_n hx hb dX1_tell_80 rfl (lv_at hl 0 rfl) ?_
    refine lv_iload_n hx hb dX1_tell_81 rfl (lv_at hl 1 rfl) ?_
    refine goI ([]) ([]) hP hD hS hA (rnV (rest := []) (c_Beds_given sa tb D cA cL l h u n B ch k (show k < 8 from by first | omega | assumption | decide)) ([]) ([]) hP hD hS hA hE ⟨hx, hb, hml, hown, hts⟩ (cwV 1 hts gX1_tell_X1_given rfl rfl rfl (by decide +kernel) ⟨(Nat.le_of_ble_eq_true rfl), (Nat.le_of_ble_eq_true rfl)⟩) 1 0 rfl rfl rfl rfl hl.1 rfl (Nat.le_of_ble_eq_true rfl) dX1_tell_82 ⟨(Nat.le_of_ble_eq_true rfl), (Nat.le_of_ble_eq_true rfl)⟩) (fun _ => rfl) (fun r_82 u_82 H locs hw_82 hP hD hS => ?_)
    have hP : va_P D vwCl (wBeds cA h u n B ch) H := hP
    have hD : va_D A (wBeds cA h u n B ch) := hD
    obtain rfl : r_82 = given B k := hw_82
    exact enI () hx hb hr hlocks hS hP (rfl) dX1_tell_85
  · have hl : lv_has ls 3 [(0, .ref h), (1, .int (nI k)), (2, .int 5)] := hl
    refine lv_iload_n hx hb dX1_tell_0 rfl (lv_at hl 2 rfl) ?_
    refine lv_tableIn (tgt := 86) hx hb dX1_tell_1 (by decide) (by decide) (off := 85) (by decide) (by decide) ?_
    refine lv_aload_n hx hb dX1_tell_86 rfl (lv_at hl 0 rfl) ?_
    refine lv_iload_n hx hb dX1_tell_87 rfl (lv_at hl 1 rfl) ?_
    refine goI ([]) ([]) hP hD hS hA (rnV (rest := []) (c_Beds_sedgeGiven sa tb D cA cL l h u n B ch k (show k < 8 from by first | omega | assumption | decide)) ([]) ([]) hP hD hS hA hE ⟨hx, hb, hml, hown, hts⟩ (cwV 1 hts gX1_tell_X1_sedgeGiven rfl rfl rfl (by decide +kernel) ⟨(Nat.le_of_ble_eq_true rfl), (Nat.le_of_ble_eq_true rfl)⟩) 1 0 rfl rfl rfl rfl hl.1 rfl (Nat.le_of_ble_eq_true rfl) dX1_tell_88 ⟨(Nat.le_of_ble_eq_true rfl), (Nat.le_of_ble_eq_true rfl)⟩) (fun _ => rfl) (fun r_88 u_88 H locs hw_88 hP hD hS => ?_)
    have hP : va_P D vwCl (wBeds cA h u n B ch) H := hP
    have hD : va_D A (wBeds cA h u n B ch) := hD
    obtain rfl : r_88 = sgiv B k := hw_88
    exact enI () hx hb hr hlocks hS hP (rfl) dX1_tell_91
  · have hl : lv_has ls 3 [(0, .ref h), (1, .int (nI k)), (2, .int 6)] := hl
    refine lv_iload_n hx hb dX1_tell_0 rfl (lv_at hl 2 rfl) ?_
    refine lv_tableIn (tgt := 92) hx hb dX1_tell_1 (by decide) (by decide) (off := 91) (by decide) (by decide) ?_
    refine lv_aload_n hx hb dX1_tell_92 rfl (lv_at hl 0 rfl) ?_
    refine va_get (D := D) (ci := 1) (v := .ref (u 4)) (C := RX1) (T := TX1) (N := 10) hx hb hts hwX1 hown hE.K hP 0 rfl rfl 5 (by decide) (hts (.fieldLink RX1 24 "SedgeBarges$Beds" "untiedSedge" "[I") (List.mem_of_getElem? (i := 5) rfl)) (fun _ h9 => h9) rfl dX1_tell_93 ?_
    refine lv_iload_n hx hb dX1_tell_96 rfl (lv_at hl 1 rfl) ?_
    refine r_ald (f := B 4) (v := (B 4) k) hx hb hE hP 5 (k) rfl rfl (by omega) (by decide) rfl dX1_tell_97 ?_
    exact enI () hx hb hr hlocks hS hP (rfl) dX1_tell_98
  · have hl : lv_has ls 3 [(0, .ref h), (1, .int (nI k)), (2, .int 7)] := hl
    refine lv_iload_n hx hb dX1_tell_0 rfl (lv_at hl 2 rfl) ?_
    refine lv_tableIn (tgt := 99) hx hb dX1_tell_1 (by decide) (by decide) (off := 98) (by decide) (by decide) ?_
    refine lv_aload_n hx hb dX1_tell_99 rfl (lv_at hl 0 rfl) ?_
    refine va_get (D := D) (ci := 1) (v := .ref (u 5)) (C := RX1) (T := TX1) (N := 10) hx hb hts hwX1 hown hE.K hP 0 rfl rfl 6 (by decide) (hts (.fieldLink RX1 27 "SedgeBarges$Beds" "untiedReed" "[I") (List.mem_of_getElem? (i := 6) rfl)) (fun _ h9 => h9) rfl dX1_tell_100 ?_
    refine lv_iload_n hx hb dX1_tell_103 rfl (lv_at hl 1 rfl) ?_
    refine r_ald (f := B 5) (v := (B 5) k) hx hb hE hP 6 (k) rfl rfl (by omega) (by decide) rfl dX1_tell_104 ?_
    exact enI () hx hb hr hlocks hS hP (rfl) dX1_tell_105
  · have hl : lv_has ls 3 [(0, .ref h), (1, .int (nI k)), (2, .int 8)] := hl
    refine lv_iload_n hx hb dX1_tell_0 rfl (lv_at hl 2 rfl) ?_
    refine lv_tableIn (tgt := 106) hx hb dX1_tell_1 (by decide) (by decide) (off := 105) (by decide) (by decide) ?_
    refine lv_aload_n hx hb dX1_tell_106 rfl (lv_at hl 0 rfl) ?_
    refine va_get (D := D) (ci := 1) (v := .ref (u 6)) (C := RX1) (T := TX1) (N := 10) hx hb hts hwX1 hown hE.K hP 0 rfl rfl 7 (by decide) (hts (.fieldLink RX1 30 "SedgeBarges$Beds" "tiedSedge" "[I") (List.mem_of_getElem? (i := 7) rfl)) (fun _ h9 => h9) rfl dX1_tell_107 ?_
    refine lv_iload_n hx hb dX1_tell_110 rfl (lv_at hl 1 rfl) ?_
    refine r_ald (f := B 6) (v := (B 6) k) hx hb hE hP 7 (k) rfl rfl (by omega) (by decide) rfl dX1_tell_111 ?_
    exact enI () hx hb hr hlocks hS hP (rfl) dX1_tell_112
  · have hl : lv_has ls 3 [(0, .ref h), (1, .int (nI k)), (2, .int 9)] := hl
    refine lv_iload_n hx hb dX1_tell_0 rfl (lv_at hl 2 rfl) ?_
    refine lv_tableOut (tgt := 113) hx hb dX1_tell_1 (by decide) (by decide) ?_
    refine lv_aload_n hx hb dX1_tell_113 rfl (lv_at hl 0 rfl) ?_
    refine va_get (D := D) (ci := 1) (v := .ref (u 7)) (C := RX1) (T := TX1) (N := 10) hx hb hts hwX1 hown hE.K hP 0 rfl rfl 8 (by decide) (hts (.fieldLink RX1 33 "SedgeBarges$Beds" "tiedReed" "[I") (List.mem_of_getElem? (i := 8) rfl)) (fun _ h9 => h9) rfl dX1_tell_114 ?_
    refine lv_iload_n hx hb dX1_tell_117 rfl (lv_at hl 1 rfl) ?_
    refine r_ald (f := B 7) (v := (B 7) k) hx hb hE hP 8 (k) rfl rfl (by omega) (by decide) rfl dX1_tell_118 ?_
    exact enI () hx hb hr hlocks hS hP (rfl) dX1_tell_119
set_option maxRecDepth 100000 in
set_option maxHeartbeats 4000000 in
theorem c_Beds_copyFrom (sa : Nat × Nat × (Nat → Int32)) (tb : Nat → Nat) (D : va_G) (cA cL : ClassId) (l : Launch) (h : Nat) (u : Nat → Nat) (n : Nat) (B : Nat → Nat → Int32) (ch : Nat → Int32) (h2 : Nat) (u2 : Nat → Nat) (n2 : Nat) (B2 : Nat → Nat → Int32) (ch2 : Nat → Int32) (hn : n2 ≤ 8) : KM sa tb D cA cL l yX1_copyFrom wsX1_copyFrom ({ frames := 0, cells := 0, slots := 0, locals := 0 }) [.ref h, .ref h2] (wBeds cA h u n B ch ++ wBeds cA h2 u2 n2 B2 ch2) (qV D (fun (_ : Unit) => True) (fun _ => wBeds cA h u n2 (cpB n2 B2 B) ch ++ wBeds cA h2 u2 n2 B2 ch2)) := by
  refine KM.of (cc := cX1_copyFrom) (maxL := 3) (ret := none) (by decide) rfl (Nat.le_of_ble_eq_true rfl) ?_
  intro pg e s m args below meth c A hx hb hr hml hlocks hts hown hS hA hE hP hD ls hl
  have hown : s.vm.findClass RX1 = some m.cls := hown
  have hl : lv_has ls 3 [(0, .ref h), (1, .ref h2)] := hl
  have hwX1 : ∀ w ∈ wsX10, w ∈ wsX1_copyFrom := (fun _ h => List.mem_cons_of_mem _ (List.mem_append_right _ h))
  refine lv_aload_n hx hb dX1_copyFrom_0 rfl (lv_at hl 0 rfl) ?_
  refine lv_aload_n hx hb dX1_copyFrom_1 rfl (lv_at hl 1 rfl) ?_
  refine va_get (D := D) (ci := 1) (v := .int (nI n2)) (C := RX1) (T := TX1) (N := 10) hx hb hts hwX1 hown hE.K hP 10 rfl rfl 0 (by decide) (hts (.fieldLink RX1 39 "SedgeBarges$Beds" "number" "I") (List.mem_of_getElem? (i := 1) rfl)) (fun _ h9 => h9) rfl dX1_copyFrom_2 ?_
  refine va_put (D := D) (ci := 1) (v := .int (nI n2)) (ty := .int) (C := RX1) (T := TX1) (N := 10) hx hb hts hwX1 tyX1 tyX1_ok nmX1 hown hE.K hP hD hS 0 rfl rfl 0 (by decide) (hts (.fieldLink RX1 39 "SedgeBarges$Beds" "number" "I") (List.mem_of_getElem? (i := 1) rfl)) (fun _ h9 => h9) rfl (by decide +kernel) rfl rfl (Nat.le_of_ble_eq_true rfl) dX1_copyFrom_5 (fun H locs hP hD hS => ?_)
  have hP : va_P D vwCl (wBeds cA h u n2 B ch ++ wBeds cA h2 u2 n2 B2 ch2) H := hP
  have hD : va_D A (wBeds cA h u n2 B ch ++ wBeds cA h2 u2 n2 B2 ch2) := hD
  refine lv_iconst (v := 0) hx hb dX1_copyFrom_8 (by decide) ?_
  refine lv_istore_n (lv' := [(2, .int 0), (0, .ref h), (1, .ref h2)]) hx hb dX1_copyFrom_9 rfl hl (by decide) rfl (fun ls hl => ?_)
  have loop_10 : ∀ (f_10 : Nat) (i : Nat) (Bx : Nat → Nat → Int32), (n2 - i) < f_10 → (i ≤ n2) → (Bx = mapC (cpC 8 B2) i B) → ∀ (H : Heap) (locs : List Loc), va_P D vwCl (wBeds cA h u n2 Bx ch ++ wBeds cA h2 u2 n2 B2 ch2) H → va_D A (wBeds cA h u n2 Bx ch ++ wBeds cA h2 u2 n2 B2 ch2) → va_S A s.heap H locs → ∀ ls : Array Slot, lv_has ls 3 [(0, .ref h), (1, .ref h2), (2, .int (nI i))] → W pg l e ({ frames := 0, cells := 0, slots := 0, locals := 0 }) s m args below meth c H locs 0 0 (MQ below (qV D (fun (_ : Unit) => True) (fun _ => wBeds cA h u n2 (cpB n2 B2 B) ch ++ wBeds cA h2 u2 n2 B2 ch2) A) args s 0 0 A) (F0 m 10 ls []) := by
    intro f_10
    induction f_10 with
    | zero => intro i Bx h_f; exact absurd h_f (Nat.not_lt_zero _)
    | succ f_10 ih_10 =>
      intro i Bx h_f10 hi hB H locs hP hD hS ls hl
      refine lv_iload_n hx hb dX1_copyFrom_10 rfl (lv_at hl 2 rfl) ?_
      refine lv_aload_n hx hb dX1_copyFrom_11 rfl (lv_at hl 0 rfl) ?_
      refine va_get (D := D) (ci := 1) (v := .int (nI n2)) (C := RX1) (T := TX1) (N := 10) hx hb hts hwX1 hown hE.K hP 0 rfl rfl 0 (by decide) (hts (.fieldLink RX1 39 "SedgeBarges$Beds" "number" "I") (List.mem_of_getElem? (i := 1) rfl)) (fun _ h9 => h9) rfl dX1_copyFrom_12 ?_
      refine rc_ge (tgt := 120) (a := i) (b := n2) hx hb (by omega) (by omega) dX1_copyFrom_15 (by decide) (fun c_15 => ?_) (fun c_15 => ?_)
      · rw [show i = n2 from by omega] at hB
        subst hB
        exact enV () hx hb hr hlocks hS hP (trivial) dX1_copyFrom_120
      · refine lv_aload_n hx hb dX1_copyFrom_18 rfl (lv_at hl 0 rfl) ?_
        refine va_get (D := D) (ci := 1) (v := .ref (u 0)) (C := RX1) (T := TX1) (N := 10) hx hb hts hwX1 hown hE.K hP 0 rfl rfl 1 (by decide) (hts (.fieldLink RX1 9 "SedgeBarges$Beds" "place" "[I") (List.mem_of_getElem? (i := 2) rfl)) (fun _ h9 => h9) rfl dX1_copyFrom_19 ?_
        refine lv_iload_n hx hb dX1_copyFrom_22 rfl (lv_at hl 2 rfl) ?_
        refine lv_aload_n hx hb dX1_copyFrom_23 rfl (lv_at hl 1 rfl) ?_
        refine va_get (D := D) (ci := 1) (v := .ref (u2 0)) (C := RX1) (T := TX1) (N := 10) hx hb hts hwX1 hown hE.K hP 10 rfl rfl 1 (by decide) (hts (.fieldLink RX1 9 "SedgeBarges$Beds" "place" "[I") (List.mem_of_getElem? (i := 2) rfl)) (fun _ h9 => h9) rfl dX1_copyFrom_24 ?_
        refine lv_iload_n hx hb dX1_copyFrom_27 rfl (lv_at hl 2 rfl) ?_
        refine r_ald (f := B2 0) (v := (B2 0) i) hx hb hE hP 11 (i) rfl rfl (by omega) (by decide) rfl dX1_copyFrom_28 ?_
        refine r_ast (f := Bx 0) (g := upd (Bx 0) i ((B2 0) i)) hx hb hE hP hD hS 1 (i) rfl rfl (by omega) (by decide) rfl dX1_copyFrom_29 (fun H locs hP hD hS => ?_)
        have hP : va_P D vwCl (wBeds cA h u n2 (st Bx 0 i ((B2 0) i)) ch ++ wBeds cA h2 u2 n2 B2 ch2) H := hP
        have hD : va_D A (wBeds cA h u n2 (st Bx 0 i ((B2 0) i)) ch ++ wBeds cA h2 u2 n2 B2 ch2) := hD
        generalize hB_1 : st Bx 0 i ((B2 0) i) = B_1 at hP hD
        refine lv_aload_n hx hb dX1_copyFrom_30 rfl (lv_at hl 0 rfl) ?_
        refine va_get (D := D) (ci := 1) (v := .ref (u 1)) (C := RX1) (T := TX1) (N := 10) hx hb hts hwX1 hown hE.K hP 0 rfl rfl 2 (by decide) (hts (.fieldLink RX1 15 "SedgeBarges$Beds" "size" "[I") (List.mem_of_getElem? (i := 3) rfl)) (fun _ h9 => h9) rfl dX1_copyFrom_31 ?_
        refine lv_iload_n hx hb dX1_copyFrom_34 rfl (lv_at hl 2 rfl) ?_
        refine lv_aload_n hx hb dX1_copyFrom_35 rfl (lv_at hl 1 rfl) ?_
        refine va_get (D := D) (ci := 1) (v := .ref (u2 1)) (C := RX1) (T := TX1) (N := 10) hx hb hts hwX1 hown hE.K hP 10 rfl rfl 2 (by decide) (hts (.fieldLink RX1 15 "SedgeBarges$Beds" "size" "[I") (List.mem_of_getElem? (i := 3) rfl)) (fun _ h9 => h9) rfl dX1_copyFrom_36 ?_
        refine lv_iload_n hx hb dX1_copyFrom_39 rfl (lv_at hl 2 rfl) ?_
        refine r_ald (f := B2 1) (v := (B2 1) i) hx hb hE hP 12 (i) rfl rfl (by omega) (by decide) rfl dX1_copyFrom_40 ?_
        refine r_ast (f := B_1 1) (g := upd (B_1 1) i ((B2 1) i)) hx hb hE hP hD hS 2 (i) rfl rfl (by omega) (by decide) rfl dX1_copyFrom_41 (fun H locs hP hD hS => ?_)
        have hP : va_P D vwCl (wBeds cA h u n2 (st B_1 1 i ((B2 1) i)) ch ++ wBeds cA h2 u2 n2 B2 ch2) H := hP
        have hD : va_D A (wBeds cA h u n2 (st B_1 1 i ((B2 1) i)) ch ++ wBeds cA h2 u2 n2 B2 ch2) := hD
        generalize hB_2 : st B_1 1 i ((B2 1) i) = B_2 at hP hD
        refine lv_aload_n hx hb dX1_copyFrom_42 rfl (lv_at hl 0 rfl) ?_
        refine va_get (D := D) (ci := 1) (v := .ref (u 2)) (C := RX1) (T := TX1) (N := 10) hx hb hts hwX1 hown hE.K hP 0 rfl rfl 3 (by decide) (hts (.fieldLink RX1 18 "SedgeBarges$Beds" "age" "[I") (List.mem_of_getElem? (i := 4) rfl)) (fun _ h9 => h9) rfl dX1_copyFrom_43 ?_
        refine lv_iload_n hx hb dX1_copyFrom_46 rfl (lv_at hl 2 rfl) ?_
        refine lv_aload_n hx hb dX1_copyFrom_47 rfl (lv_at hl 1 rfl) ?_
        refine va_get (D := D) (ci := 1) (v := .ref (u2 2)) (C := RX1) (T := TX1) (N := 10) hx hb hts hwX1 hown hE.K hP 10 rfl rfl 3 (by decide) (hts (.fieldLink RX1 18 "SedgeBarges$Beds" "age" "[I") (List.mem_of_getElem? (i := 4) rfl)) (fun _ h9 => h9) rfl dX1_copyFrom_48 ?_
        refine lv_iload_n hx hb dX1_copyFrom_51 rfl (lv_at hl 2 rfl) ?_
        refine r_ald (f := B2 2) (v := (B2 2) i) hx hb hE hP 13 (i) rfl rfl (by omega) (by decide) rfl dX1_copyFrom_52 ?_
        refine r_ast (f := B_2 2) (g := upd (B_2 2) i ((B2 2) i)) hx hb hE hP hD hS 3 (i) rfl rfl (by omega) (by decide) rfl dX1_copyFrom_53 (fun H locs hP hD hS => ?_)
        have hP : va_P D vwCl (wBeds cA h u n2 (st B_2 2 i ((B2 2) i)) ch ++ wBeds cA h2 u2 n2 B2 ch2) H := hP
        have hD : va_D A (wBeds cA h u n2 (st B_2 2 i ((B2 2) i)) ch ++ wBeds cA h2 u2 n2 B2 ch2) := hD
        generalize hB_3 : st B_2 2 i ((B2 2) i) = B_3 at hP hD
        refine lv_aload_n hx hb dX1_copyFrom_54 rfl (lv_at hl 0 rfl) ?_
        refine va_get (D := D) (ci := 1) (v := .ref (u 3)) (C := RX1) (T := TX1) (N := 10) hx hb hts hwX1 hown hE.K hP 0 rfl rfl 4 (by decide) (hts (.fieldLink RX1 21 "SedgeBarges$Beds" "sedge" "[I") (List.mem_of_getElem? (i := 5) rfl)) (fun _ h9 => h9) rfl dX1_copyFrom_55 ?_
        refine lv_iload_n hx hb dX1_copyFrom_58 rfl (lv_at hl 2 rfl) ?_
        refine lv_aload_n hx hb dX1_copyFrom_59 rfl (lv_at hl 1 rfl) ?_
        refine va_get (D := D) (ci := 1) (v := .ref (u2 3)) (C := RX1) (T := TX1) (N := 10) hx hb hts hwX1 hown hE.K hP 10 rfl rfl 4 (by decide) (hts (.fieldLink RX1 21 "SedgeBarges$Beds" "sedge" "[I") (List.mem_of_getElem? (i := 5) rfl)) (fun _ h9 => h9) rfl dX1_copyFrom_60 ?_
        refine lv_iload_n hx hb dX1_copyFrom_63 rfl (lv_at hl 2 rfl) ?_
        refine r_ald (f := B2 3) (v := (B2 3) i) hx hb hE hP 14 (i) rfl rfl (by omega) (by decide) rfl dX1_copyFrom_64 ?_
        refine r_ast (f := B_3 3) (g := upd (B_3 3) i ((B2 3) i)) hx hb hE hP hD hS 4 (i) rfl rfl (by omega) (by decide) rfl dX1_copyFrom_65 (fun H locs hP hD hS => ?_)
        have hP : va_P D vwCl (wBeds cA h u n2 (st B_3 3 i ((B2 3) i)) ch ++ wBeds cA h2 u2 n2 B2 ch2) H := hP
        have hD : va_D A (wBeds cA h u n2 (st B_3 3 i ((B2 3) i)) ch ++ wBeds cA h2 u2 n2 B2 ch2) := hD
        generalize hB_4 : st B_3 3 i ((B2 3) i) = B_4 at hP hD
        refine lv_aload_n hx hb dX1_copyFrom_66 rfl (lv_at hl 0 rfl) ?_
        refine va_get (D := D) (ci := 1) (v := .ref (u 4)) (C := RX1) (T := TX1) (N := 10) hx hb hts hwX1 hown hE.K hP 0 rfl rfl 5 (by decide) (hts (.fieldLink RX1 24 "SedgeBarges$Beds" "untiedSedge" "[I") (List.mem_of_getElem? (i := 6) rfl)) (fun _ h9 => h9) rfl dX1_copyFrom_67 ?_
        refine lv_iload_n hx hb dX1_copyFrom_70 rfl (lv_at hl 2 rfl) ?_
        refine lv_aload_n hx hb dX1_copyFrom_71 rfl (lv_at hl 1 rfl) ?_
        refine va_get (D := D) (ci := 1) (v := .ref (u2 4)) (C := RX1) (T := TX1) (N := 10) hx hb hts hwX1 hown hE.K hP 10 rfl rfl 5 (by decide) (hts (.fieldLink RX1 24 "SedgeBarges$Beds" "untiedSedge" "[I") (List.mem_of_getElem? (i := 6) rfl)) (fun _ h9 => h9) rfl dX1_copyFrom_72 ?_
        refine lv_iload_n hx hb dX1_copyFrom_75 rfl (lv_at hl 2 rfl) ?_
        refine r_ald (f := B2 4) (v := (B2 4) i) hx hb hE hP 15 (i) rfl rfl (by omega) (by decide) rfl dX1_copyFrom_76 ?_
        refine r_ast (f := B_4 4) (g := upd (B_4 4) i ((B2 4) i)) hx hb hE hP hD hS 5 (i) rfl rfl (by omega) (by decide) rfl dX1_copyFrom_77 (fun H locs hP hD hS => ?_)
        have hP : va_P D vwCl (wBeds cA h u n2 (st B_4 4 i ((B2 4) i)) ch ++ wBeds cA h2 u2 n2 B2 ch2) H := hP
        have hD : va_D A (wBeds cA h u n2 (st B_4 4 i ((B2 4) i)) ch ++ wBeds cA h2 u2 n2 B2 ch2) := hD
        generalize hB_5 : st B_4 4 i ((B2 4) i) = B_5 at hP hD
        refine lv_aload_n hx hb dX1_copyFrom_78 rfl (lv_at hl 0 rfl) ?_
        refine va_get (D := D) (ci := 1) (v := .ref (u 5)) (C := RX1) (T := TX1) (N := 10) hx hb hts hwX1 hown hE.K hP 0 rfl rfl 6 (by decide) (hts (.fieldLink RX1 27 "SedgeBarges$Beds" "untiedReed" "[I") (List.mem_of_getElem? (i := 7) rfl)) (fun _ h9 => h9) rfl dX1_copyFrom_79 ?_
        refine lv_iload_n hx hb dX1_copyFrom_82 rfl (lv_at hl 2 rfl) ?_
        refine lv_aload_n hx hb dX1_copyFrom_83 rfl (lv_at hl 1 rfl) ?_
        refine va_get (D := D) (ci := 1) (v := .ref (u2 5)) (C := RX1) (T := TX1) (N := 10) hx hb hts hwX1 hown hE.K hP 10 rfl rfl 6 (by decide) (hts (.fieldLink RX1 27 "SedgeBarges$Beds" "untiedReed" "[I") (List.mem_of_getElem? (i := 7) rfl)) (fun _ h9 => h9) rfl dX1_copyFrom_84 ?_
        refine lv_iload_n hx hb dX1_copyFrom_87 rfl (lv_at hl 2 rfl) ?_
        refine r_ald (f := B2 5) (v := (B2 5) i) hx hb hE hP 16 (i) rfl rfl (by omega) (by decide) rfl dX1_copyFrom_88 ?_
        refine r_ast (f := B_5 5) (g := upd (B_5 5) i ((B2 5) i)) hx hb hE hP hD hS 6 (i) rfl rfl (by omega) (by decide) rfl dX1_copyFrom_89 (fun H locs hP hD hS => ?_)
        have hP : va_P D vwCl (wBeds cA h u n2 (st B_5 5 i ((B2 5) i)) ch ++ wBeds cA h2 u2 n2 B2 ch2) H := hP
        have hD : va_D A (wBeds cA h u n2 (st B_5 5 i ((B2 5) i)) ch ++ wBeds cA h2 u2 n2 B2 ch2) := hD
        generalize hB_6 : st B_5 5 i ((B2 5) i) = B_6 at hP hD
        refine lv_aload_n hx hb dX1_copyFrom_90 rfl (lv_at hl 0 rfl) ?_
        refine va_get (D := D) (ci := 1) (v := .ref (u 6)) (C := RX1) (T := TX1) (N := 10) hx hb hts hwX1 hown hE.K hP 0 rfl rfl 7 (by decide) (hts (.fieldLink RX1 30 "SedgeBarges$Beds" "tiedSedge" "[I") (List.mem_of_getElem? (i := 8) rfl)) (fun _ h9 => h9) rfl dX1_copyFrom_91 ?_
        refine lv_iload_n hx hb dX1_copyFrom_94 rfl (lv_at hl 2 rfl) ?_
        refine lv_aload_n hx hb dX1_copyFrom_95 rfl (lv_at hl 1 rfl) ?_
        refine va_get (D := D) (ci := 1) (v := .ref (u2 6)) (C := RX1) (T := TX1) (N := 10) hx hb hts hwX1 hown hE.K hP 10 rfl rfl 7 (by decide) (hts (.fieldLink RX1 30 "SedgeBarges$Beds" "tiedSedge" "[I") (List.mem_of_getElem? (i := 8) rfl)) (fun _ h9 => h9) rfl dX1_copyFrom_96 ?_
        refine lv_iload_n hx hb dX1_copyFrom_99 rfl (lv_at hl 2 rfl) ?_
        refine r_ald (f := B2 6) (v := (B2 6) i) hx hb hE hP 17 (i) rfl rfl (by omega) (by decide) rfl dX1_copyFrom_100 ?_
        refine r_ast (f := B_6 6) (g := upd (B_6 6) i ((B2 6) i)) hx hb hE hP hD hS 7 (i) rfl rfl (by omega) (by decide) rfl dX1_copyFrom_101 (fun H locs hP hD hS => ?_)
        have hP : va_P D vwCl (wBeds cA h u n2 (st B_6 6 i ((B2 6) i)) ch ++ wBeds cA h2 u2 n2 B2 ch2) H := hP
        have hD : va_D A (wBeds cA h u n2 (st B_6 6 i ((B2 6) i)) ch ++ wBeds cA h2 u2 n2 B2 ch2) := hD
        generalize hB_7 : st B_6 6 i ((B2 6) i) = B_7 at hP hD
        refine lv_aload_n hx hb dX1_copyFrom_102 rfl (lv_at hl 0 rfl) ?_
        refine va_get (D := D) (ci := 1) (v := .ref (u 7)) (C := RX1) (T := TX1) (N := 10) hx hb hts hwX1 hown hE.K hP 0 rfl rfl 8 (by decide) (hts (.fieldLink RX1 33 "SedgeBarges$Beds" "tiedReed" "[I") (List.mem_of_getElem? (i := 9) rfl)) (fun _ h9 => h9) rfl dX1_copyFrom_103 ?_
        refine lv_iload_n hx hb dX1_copyFrom_106 rfl (lv_at hl 2 rfl) ?_
        refine lv_aload_n hx hb dX1_copyFrom_107 rfl (lv_at hl 1 rfl) ?_
        refine va_get (D := D) (ci := 1) (v := .ref (u2 7)) (C := RX1) (T := TX1) (N := 10) hx hb hts hwX1 hown hE.K hP 10 rfl rfl 8 (by decide) (hts (.fieldLink RX1 33 "SedgeBarges$Beds" "tiedReed" "[I") (List.mem_of_getElem? (i := 9) rfl)) (fun _ h9 => h9) rfl dX1_copyFrom_108 ?_
        refine lv_iload_n hx hb dX1_copyFrom_111 rfl (lv_at hl 2 rfl) ?_
        refine r_ald (f := B2 7) (v := (B2 7) i) hx hb hE hP 18 (i) rfl rfl (by omega) (by decide) rfl dX1_copyFrom_112 ?_
        refine r_ast (f := B_7 7) (g := upd (B_7 7) i ((B2 7) i)) hx hb hE hP hD hS 8 (i) rfl rfl (by omega) (by decide) rfl dX1_copyFrom_113 (fun H locs hP hD hS => ?_)
        have hP : va_P D vwCl (wBeds cA h u n2 (st B_7 7 i ((B2 7) i)) ch ++ wBeds cA h2 u2 n2 B2 ch2) H := hP
        have hD : va_D A (wBeds cA h u n2 (st B_7 7 i ((B2 7) i)) ch ++ wBeds cA h2 u2 n2 B2 ch2) := hD
        generalize hB_8 : st B_7 7 i ((B2 7) i) = B_8 at hP hD
        refine lv_iinc (v := (nI (i + 1))) (lv' := [(2, .int (nI (i + 1))), (0, .ref h), (1, .ref h2)]) (k := 2) hx hb dX1_copyFrom_114 hl rfl (iinc1 _) (by decide) rfl (fun ls hl => ?_)
        refine lv_goto (tgt := 10) hx hb dX1_copyFrom_117 (by decide) ?_
        subst hB_8
        subst hB_7
        subst hB_6
        subst hB_5
        subst hB_4
        subst hB_3
        subst hB_2
        subst hB_1
        exact ih_10  (i + 1) (st (st (st (st (st (st (st (st Bx 0 i ((B2 0) i)) 1 i ((B2 1) i)) 2 i ((B2 2) i)) 3 i ((B2 3) i)) 4 i ((B2 4) i)) 5 i ((B2 5) i)) 6 i ((B2 6) i)) 7 i ((B2 7) i)) (show n2 - (i + 1) < f_10 from by omega) (show (i + 1) ≤ n2 from by omega) (show (st (st (st (st (st (st (st (st Bx 0 i ((B2 0) i)) 1 i ((B2 1) i)) 2 i ((B2 2) i)) 3 i ((B2 3) i)) 4 i ((B2 4) i)) 5 i ((B2 5) i)) 6 i ((B2 6) i)) 7 i ((B2 7) i)) = mapC (cpC 8 B2) (i + 1) B from by subst hB; exact mapC_step (fun j k hk => by simp only [st_ne hk]) (fun j => by simp only [st_eq, mapC_ge (Nat.le_refl i)]; exact cp8)) _ _ hP hD hS ls (lv_sub hl [1, 2, 0] rfl)
  exact loop_10 ((n2 - 0) + 1) 0 B (Nat.lt_succ_self _) (show 0 ≤ n2 from by omega) (show B = mapC (cpC 8 B2) 0 B from mapC_0.symm) _ _ hP hD hS ls (lv_sub hl [1, 2, 0] rfl)
set_option maxRecDepth 100000 in
set_option maxHeartbeats 4000000 in
theorem c_landingAt (sa : Nat × Nat × (Nat → Int32)) (tb : Nat → Nat) (D : va_G) (cA cL : ClassId) (l : Launch) (x : Int32)  : KM sa tb D cA cL l yX4_landingAt wsX4_landingAt ({ frames := 0, cells := 0, slots := 0, locals := 0 }) [.int x] ([]) (qI D (fun (r : Int32) (_ : Unit) => r = landAt x) (fun _ => [])) := by
  refine KM.of (cc := cX4_landingAt) (maxL := 2) (ret := some .int) (by decide) rfl (Nat.le_of_ble_eq_true rfl) ?_
  intro pg e s m args below meth c A hx hb hr hml hlocks hts hown hS hA hE hP hD ls hl
  have hown : s.vm.findClass RX4 = some m.cls := hown
  have hl : lv_has ls 2 [(0, .int x)] := hl
  refine lv_iconst (v := 0) hx hb dX4_landingAt_0 (by decide) ?_
  refine lv_istore_n (lv' := [(1, .int 0), (0, .int x)]) hx hb dX4_landingAt_1 rfl hl (by decide) rfl (fun ls hl => ?_)
  refine lv_iload_n hx hb dX4_landingAt_2 rfl (lv_at hl 0 rfl) ?_
  refine lv_iconst (v := 3) hx hb dX4_landingAt_3 (by decide) ?_
  refine lv_icmp_ge (tgt := 24) hx hb dX4_landingAt_4 (by decide) (fun q => absurd q (by decide)) (fun _ => ?_)
  refine va_gets hx hb (hE.2.2.2.1.2.1).1 hS hown (hts (.fieldLink RX4 147 "SedgeBarges" "LANDING_PLACE" "[I") (List.mem_of_getElem? (i := 1) rfl)) (fun _ h9 => h9) dX4_landingAt_7 ?_
  refine lv_iload_n hx hb dX4_landingAt_10 rfl (lv_at hl 0 rfl) ?_
  refine r_tld hx hb (hE.2.2.2.1.2.1) hS (0) rfl (by omega) (by decide) rfl dX4_landingAt_11 ?_
  refine lv_iload_n hx hb dX4_landingAt_12 rfl (lv_at hl 1 rfl) ?_
  refine lv_icmp_ne (tgt := 18) hx hb dX4_landingAt_13 (by decide) (fun c_13 => ?_) (fun c_13 => ?_)
  · refine lv_iinc (v := 1) (lv' := [(1, .int 1), (0, .int x)]) (k := 0) hx hb dX4_landingAt_18 hl rfl (by decide) (by decide) rfl (fun ls hl => ?_)
    refine lv_goto (tgt := 2) hx hb dX4_landingAt_21 (by decide) ?_
    refine lv_iload_n hx hb dX4_landingAt_2 rfl (lv_at hl 0 rfl) ?_
    refine lv_iconst (v := 3) hx hb dX4_landingAt_3 (by decide) ?_
    refine lv_icmp_ge (tgt := 24) hx hb dX4_landingAt_4 (by decide) (fun q => absurd q (by decide)) (fun _ => ?_)
    refine va_gets hx hb (hE.2.2.2.1.2.1).1 hS hown (hts (.fieldLink RX4 147 "SedgeBarges" "LANDING_PLACE" "[I") (List.mem_of_getElem? (i := 1) rfl)) (fun _ h9 => h9) dX4_landingAt_7 ?_
    refine lv_iload_n hx hb dX4_landingAt_10 rfl (lv_at hl 0 rfl) ?_
    refine r_tld hx hb (hE.2.2.2.1.2.1) hS (1) rfl (by omega) (by decide) rfl dX4_landingAt_11 ?_
    refine lv_iload_n hx hb dX4_landingAt_12 rfl (lv_at hl 1 rfl) ?_
    refine lv_icmp_ne (tgt := 18) hx hb dX4_landingAt_13 (by decide) (fun c_13_2 => ?_) (fun c_13_2 => ?_)
    · refine lv_iinc (v := 2) (lv' := [(1, .int 2), (0, .int x)]) (k := 0) hx hb dX4_landingAt_18 hl rfl (by decide) (by decide) rfl (fun ls hl => ?_)
      refine lv_goto (tgt := 2) hx hb dX4_landingAt_21 (by decide) ?_
      refine lv_iload_n hx hb dX4_landingAt_2 rfl (lv_at hl 0 rfl) ?_
      refine lv_iconst (v := 3) hx hb dX4_landingAt_3 (by decide) ?_
      refine lv_icmp_ge (tgt := 24) hx hb dX4_landingAt_4 (by decide) (fun q => absurd q (by decide)) (fun _ => ?_)
      refine va_gets hx hb (hE.2.2.2.1.2.1).1 hS hown (hts (.fieldLink RX4 147 "SedgeBarges" "LANDING_PLACE" "[I") (List.mem_of_getElem? (i := 1) rfl)) (fun _ h9 => h9) dX4_landingAt_7 ?_
      refine lv_iload_n hx hb dX4_landingAt_10 rfl (lv_at hl 0 rfl) ?_
      refine r_tld hx hb (hE.2.2.2.1.2.1) hS (2) rfl (by omega) (by decide) rfl dX4_landingAt_11 ?_
      refine lv_iload_n hx hb dX4_landingAt_12 rfl (lv_at hl 1 rfl) ?_
      refine lv_icmp_ne (tgt := 18) hx hb dX4_landingAt_13 (by decide) (fun c_13_3 => ?_) (fun c_13_3 => ?_)
      · refine lv_iinc (v := 3) (lv' := [(1, .int 3), (0, .int x)]) (k := 0) hx hb dX4_landingAt_18 hl rfl (by decide) (by decide) rfl (fun ls hl => ?_)
        refine lv_goto (tgt := 2) hx hb dX4_landingAt_21 (by decide) ?_
        refine lv_iload_n hx hb dX4_landingAt_2 rfl (lv_at hl 0 rfl) ?_
        refine lv_iconst (v := 3) hx hb dX4_landingAt_3 (by decide) ?_
        refine lv_icmp_ge (tgt := 24) hx hb dX4_landingAt_4 (by decide) (fun _ => ?_) (fun q => absurd (by decide) q)
        refine lv_iconst (v := (-1)) hx hb dX4_landingAt_24 (by decide) ?_
        exact enI () hx hb hr hlocks hS hP (by unfold landAt; first | exact (if_pos c_13).symm | exact ((if_neg c_13).trans (if_pos c_13_2)).symm | exact ((if_neg c_13).trans ((if_neg c_13_2).trans (if_pos c_13_3))).symm | exact ((if_neg c_13).trans ((if_neg c_13_2).trans (if_neg c_13_3))).symm) dX4_landingAt_25
      · refine lv_iload_n hx hb dX4_landingAt_16 rfl (lv_at hl 0 rfl) ?_
        exact enI () hx hb hr hlocks hS hP (by unfold landAt; first | exact (if_pos c_13).symm | exact ((if_neg c_13).trans (if_pos c_13_2)).symm | exact ((if_neg c_13).trans ((if_neg c_13_2).trans (if_pos c_13_3))).symm | exact ((if_neg c_13).trans ((if_neg c_13_2).trans (if_neg c_13_3))).symm) dX4_landingAt_17
    · refine lv_iload_n hx hb dX4_landingAt_16 rfl (lv_at hl 0 rfl) ?_
      exact enI () hx hb hr hlocks hS hP (by unfold landAt; first | exact (if_pos c_13).symm | exact ((if_neg c_13).trans (if_pos c_13_2)).symm | exact ((if_neg c_13).trans ((if_neg c_13_2).trans (if_pos c_13_3))).symm | exact ((if_neg c_13).trans ((if_neg c_13_2).trans (if_neg c_13_3))).symm) dX4_landingAt_17
  · refine lv_iload_n hx hb dX4_landingAt_16 rfl (lv_at hl 0 rfl) ?_
    exact enI () hx hb hr hlocks hS hP (by unfold landAt; first | exact (if_pos c_13).symm | exact ((if_neg c_13).trans (if_pos c_13_2)).symm | exact ((if_neg c_13).trans ((if_neg c_13_2).trans (if_pos c_13_3))).symm | exact ((if_neg c_13).trans ((if_neg c_13_2).trans (if_neg c_13_3))).symm) dX4_landingAt_17
set_option maxRecDepth 100000 in
set_option maxHeartbeats 4000000 in
theorem c_Bars_areFull (sa : Nat × Nat × (Nat → Int32)) (tb : Nat → Nat) (D : va_G) (cA cL : ClassId) (l : Launch) (h : Nat) (v : Nat → Nat) (nb : Nat) (G : Nat → Nat → Int32) (hn : nb ≤ 3) : KM sa tb D cA cL l yX0_areFull wsX0_areFull ({ frames := 0, cells := 0, slots := 0, locals := 0 }) [.ref h] (wBars cA h v nb G) (qI D (fun (r : Int32) (_ : Unit) => r = bI (decide (3 ≤ nb))) (fun _ => wBars cA h v nb G)) := by
  refine KM.of (cc := cX0_areFull) (maxL := 1) (ret := some .boolean) (by decide) rfl (Nat.le_of_ble_eq_true rfl) ?_
  intro pg e s m args below meth c A hx hb hr hml hlocks hts hown hS hA hE hP hD ls hl
  have hown : s.vm.findClass RX0 = some m.cls := hown
  have hl : lv_has ls 1 [(0, .ref h)] := hl
  have hwX0 : ∀ w ∈ wsX00, w ∈ wsX0_areFull := (fun _ h => List.mem_cons_of_mem _ (List.mem_append_right _ h))
  refine lv_aload_n hx hb dX0_areFull_0 rfl (lv_at hl 0 rfl) ?_
  refine va_get (D := D) (ci := 0) (v := .int (nI nb)) (C := RX0) (T := TX0) (N := 6) hx hb hts hwX0 hown hE.K hP 0 rfl rfl 0 (by decide) (hts (.fieldLink RX0 27 "SedgeBarges$Barges" "number" "I") (List.mem_of_getElem? (i := 1) rfl)) (fun _ h9 => h9) rfl dX0_areFull_1 ?_
  refine lv_iconst (v := 3) hx hb dX0_areFull_4 (by decide) ?_
  refine rc_lt (tgt := 12) (a := nb) (b := 3) hx hb (by omega) (by omega) dX0_areFull_5 (by decide) (fun c_5 => ?_) (fun c_5 => ?_)
  · refine lv_iconst (v := 0) hx hb dX0_areFull_12 (by decide) ?_
    exact enZ () hx hb hr hlocks hS hP (by first | rfl | decide) (by first | exact (congrArg bI (decide_eq_false (by omega))).symm | exact (congrArg bI (decide_eq_true (by omega))).symm) dX0_areFull_13
  · refine lv_iconst (v := 1) hx hb dX0_areFull_8 (by decide) ?_
    refine lv_goto (tgt := 13) hx hb dX0_areFull_9 (by decide) ?_
    exact enZ () hx hb hr hlocks hS hP (by first | rfl | decide) (by first | exact (congrArg bI (decide_eq_false (by omega))).symm | exact (congrArg bI (decide_eq_true (by omega))).symm) dX0_areFull_13
set_option maxRecDepth 100000 in
set_option maxHeartbeats 4000000 in
theorem c_Bars_add (sa : Nat × Nat × (Nat → Int32)) (tb : Nat → Nat) (D : va_G) (cA cL : ClassId) (l : Launch) (h : Nat) (v : Nat → Nat) (nb : Nat) (G : Nat → Nat → Int32) (p1 : Int32) (hn : nb < 3) : KM sa tb D cA cL l yX0_add wsX0_add ({ frames := 0, cells := 0, slots := 0, locals := 0 }) [.ref h, .int p1] (wBars cA h v nb G) (qI D (fun (r : Int32) (_ : Unit) => r = nI nb) (fun _ => wBars cA h v (nb + 1) (addG G nb p1))) := by
  refine KM.of (cc := cX0_add) (maxL := 3) (ret := some .int) (by decide) rfl (Nat.le_of_ble_eq_true rfl) ?_
  intro pg e s m args below meth c A hx hb hr hml hlocks hts hown hS hA hE hP hD ls hl
  have hown : s.vm.findClass RX0 = some m.cls := hown
  have hl : lv_has ls 3 [(0, .ref h), (1, .int p1)] := hl
  have hwX0 : ∀ w ∈ wsX00, w ∈ wsX0_add := (fun _ h => List.mem_cons_of_mem _ (List.mem_append_right _ h))
  refine lv_aload_n hx hb dX0_add_0 rfl (lv_at hl 0 rfl) ?_
  refine va_get (D := D) (ci := 0) (v := .int (nI nb)) (C := RX0) (T := TX0) (N := 6) hx hb hts hwX0 hown hE.K hP 0 rfl rfl 0 (by decide) (hts (.fieldLink RX0 27 "SedgeBarges$Barges" "number" "I") (List.mem_of_getElem? (i := 1) rfl)) (fun _ h9 => h9) rfl dX0_add_1 ?_
  refine lv_istore_n (lv' := [(2, .int (nI nb)), (0, .ref h), (1, .int p1)]) hx hb dX0_add_4 rfl hl (by decide) rfl (fun ls hl => ?_)
  refine lv_aload_n hx hb dX0_add_5 rfl (lv_at hl 1 rfl) ?_
  refine va_get (D := D) (ci := 0) (v := .ref (v 0)) (C := RX0) (T := TX0) (N := 6) hx hb hts hwX0 hown hE.K hP 0 rfl rfl 1 (by decide) (hts (.fieldLink RX0 9 "SedgeBarges$Barges" "place" "[I") (List.mem_of_getElem? (i := 2) rfl)) (fun _ h9 => h9) rfl dX0_add_6 ?_
  refine lv_iload_n hx hb dX0_add_9 rfl (lv_at hl 0 rfl) ?_
  refine lv_iload_n hx hb dX0_add_10 rfl (lv_at hl 2 rfl) ?_
  refine r_ast (f := G 0) (g := upd (G 0) nb p1) hx hb hE hP hD hS 1 (nb) rfl rfl (by omega) (by decide) rfl dX0_add_11 (fun H locs hP hD hS => ?_)
  have hP : va_P D vwCl (wBars cA h v nb (st G 0 nb p1)) H := hP
  have hD : va_D A (wBars cA h v nb (st G 0 nb p1)) := hD
  generalize hG_1 : st G 0 nb p1 = G_1 at hP hD
  refine lv_aload_n hx hb dX0_add_12 rfl (lv_at hl 1 rfl) ?_
  refine va_get (D := D) (ci := 0) (v := .ref (v 1)) (C := RX0) (T := TX0) (N := 6) hx hb hts hwX0 hown hE.K hP 0 rfl rfl 2 (by decide) (hts (.fieldLink RX0 15 "SedgeBarges$Barges" "goal" "[I") (List.mem_of_getElem? (i := 3) rfl)) (fun _ h9 => h9) rfl dX0_add_13 ?_
  refine lv_iload_n hx hb dX0_add_16 rfl (lv_at hl 0 rfl) ?_
  refine lv_iconst (v := (-1)) hx hb dX0_add_17 (by decide) ?_
  refine r_ast (f := G_1 1) (g := upd (G_1 1) nb (-1)) hx hb hE hP hD hS 2 (nb) rfl rfl (by omega) (by decide) rfl dX0_add_18 (fun H locs hP hD hS => ?_)
  have hP : va_P D vwCl (wBars cA h v nb (st G_1 1 nb (-1))) H := hP
  have hD : va_D A (wBars cA h v nb (st G_1 1 nb (-1))) := hD
  generalize hG_2 : st G_1 1 nb (-1) = G_2 at hP hD
  refine lv_aload_n hx hb dX0_add_19 rfl (lv_at hl 1 rfl) ?_
  refine lv_dup hx hb dX0_add_20 rfl ?_
  refine va_get (D := D) (ci := 0) (v := .int (nI nb)) (C := RX0) (T := TX0) (N := 6) hx hb hts hwX0 hown hE.K hP 0 rfl rfl 0 (by decide) (hts (.fieldLink RX0 27 "SedgeBarges$Barges" "number" "I") (List.mem_of_getElem? (i := 1) rfl)) (fun _ h9 => h9) rfl dX0_add_21 ?_
  refine lv_iconst (v := 1) hx hb dX0_add_24 (by decide) ?_
  refine rn_add (a := nb) (b := 1) hx hb dX0_add_25 ?_
  refine va_put (D := D) (ci := 0) (v := .int (nI (nb + 1))) (ty := .int) (C := RX0) (T := TX0) (N := 6) hx hb hts hwX0 tyX0 tyX0_ok nmX0 hown hE.K hP hD hS 0 rfl rfl 0 (by decide) (hts (.fieldLink RX0 27 "SedgeBarges$Barges" "number" "I") (List.mem_of_getElem? (i := 1) rfl)) (fun _ h9 => h9) rfl (by decide +kernel) rfl rfl (Nat.le_of_ble_eq_true rfl) dX0_add_26 (fun H locs hP hD hS => ?_)
  have hP : va_P D vwCl (wBars cA h v (nb + 1) G_2) H := hP
  have hD : va_D A (wBars cA h v (nb + 1) G_2) := hD
  refine lv_iload_n hx hb dX0_add_29 rfl (lv_at hl 0 rfl) ?_
  subst hG_2
  subst hG_1
  exact enI () hx hb hr hlocks hS hP (rfl) dX0_add_30
set_option maxRecDepth 100000 in
set_option maxHeartbeats 4000000 in
theorem c_Bars_copyFrom (sa : Nat × Nat × (Nat → Int32)) (tb : Nat → Nat) (D : va_G) (cA cL : ClassId) (l : Launch) (h : Nat) (v : Nat → Nat) (nb : Nat) (G : Nat → Nat → Int32) (h2 : Nat) (v2 : Nat → Nat) (nb2 : Nat) (G2 : Nat → Nat → Int32) (hn : nb2 ≤ 3) : KM sa tb D cA cL l yX0_copyFrom wsX0_copyFrom ({ frames := 0, cells := 0, slots := 0, locals := 0 }) [.ref h, .ref h2] (wBars cA h v nb G ++ wBars cA h2 v2 nb2 G2) (qV D (fun (_ : Unit) => True) (fun _ => wBars cA h v nb2 (cpG nb2 G2 G) ++ wBars cA h2 v2 nb2 G2)) := by
  refine KM.of (cc := cX0_copyFrom) (maxL := 3) (ret := none) (by decide) rfl (Nat.le_of_ble_eq_true rfl) ?_
  intro pg e s m args below meth c A hx hb hr hml hlocks hts hown hS hA hE hP hD ls hl
  have hown : s.vm.findClass RX0 = some m.cls := hown
  have hl : lv_has ls 3 [(0, .ref h), (1, .ref h2)] := hl
  have hwX0 : ∀ w ∈ wsX00, w ∈ wsX0_copyFrom := (fun _ h => List.mem_cons_of_mem _ (List.mem_append_right _ h))
  refine lv_aload_n hx hb dX0_copyFrom_0 rfl (lv_at hl 0 rfl) ?_
  refine lv_aload_n hx hb dX0_copyFrom_1 rfl (lv_at hl 1 rfl) ?_
  refine va_get (D := D) (ci := 0) (v := .int (nI nb2)) (C := RX0) (T := TX0) (N := 6) hx hb hts hwX0 hown hE.K hP 6 rfl rfl 0 (by decide) (hts (.fieldLink RX0 27 "SedgeBarges$Barges" "number" "I") (List.mem_of_getElem? (i := 1) rfl)) (fun _ h9 => h9) rfl dX0_copyFrom_2 ?_
  refine va_put (D := D) (ci := 0) (v := .int (nI nb2)) (ty := .int) (C := RX0) (T := TX0) (N := 6) hx hb hts hwX0 tyX0 tyX0_ok nmX0 hown hE.K hP hD hS 0 rfl rfl 0 (by decide) (hts (.fieldLink RX0 27 "SedgeBarges$Barges" "number" "I") (List.mem_of_getElem? (i := 1) rfl)) (fun _ h9 => h9) rfl (by decide +kernel) rfl rfl (Nat.le_of_ble_eq_true rfl) dX0_copyFrom_5 (fun H locs hP hD hS => ?_)
  have hP : va_P D vwCl (wBars cA h v nb2 G ++ wBars cA h2 v2 nb2 G2) H := hP
  have hD : va_D A (wBars cA h v nb2 G ++ wBars cA h2 v2 nb2 G2) := hD
  refine lv_iconst (v := 0) hx hb dX0_copyFrom_8 (by decide) ?_
  refine lv_istore_n (lv' := [(2, .int 0), (0, .ref h), (1, .ref h2)]) hx hb dX0_copyFrom_9 rfl hl (by decide) rfl (fun ls hl => ?_)
  have loop_10 : ∀ (f_10 : Nat) (i : Nat) (Gx : Nat → Nat → Int32), (nb2 - i) < f_10 → (i ≤ nb2) → (Gx = mapC (cpC 5 G2) i G) → ∀ (H : Heap) (locs : List Loc), va_P D vwCl (wBars cA h v nb2 Gx ++ wBars cA h2 v2 nb2 G2) H → va_D A (wBars cA h v nb2 Gx ++ wBars cA h2 v2 nb2 G2) → va_S A s.heap H locs → ∀ ls : Array Slot, lv_has ls 3 [(0, .ref h), (1, .ref h2), (2, .int (nI i))] → W pg l e ({ frames := 0, cells := 0, slots := 0, locals := 0 }) s m args below meth c H locs 0 0 (MQ below (qV D (fun (_ : Unit) => True) (fun _ => wBars cA h v nb2 (cpG nb2 G2 G) ++ wBars cA h2 v2 nb2 G2) A) args s 0 0 A) (F0 m 10 ls []) := by
    intro f_10
    induction f_10 with
    | zero => intro i Gx h_f; exact absurd h_f (Nat.not_lt_zero _)
    | succ f_10 ih_10 =>
      intro i Gx h_f10 hi hB H locs hP hD hS ls hl
      refine lv_iload_n hx hb dX0_copyFrom_10 rfl (lv_at hl 2 rfl) ?_
      refine lv_aload_n hx hb dX0_copyFrom_11 rfl (lv_at hl 0 rfl) ?_
      refine va_get (D := D) (ci := 0) (v := .int (nI nb2)) (C := RX0) (T := TX0) (N := 6) hx hb hts hwX0 hown hE.K hP 0 rfl rfl 0 (by decide) (hts (.fieldLink RX0 27 "SedgeBarges$Barges" "number" "I") (List.mem_of_getElem? (i := 1) rfl)) (fun _ h9 => h9) rfl dX0_copyFrom_12 ?_
      refine rc_ge (tgt := 84) (a := i) (b := nb2) hx hb (by omega) (by omega) dX0_copyFrom_15 (by decide) (fun c_15 => ?_) (fun c_15 => ?_)
      · rw [show i = nb2 from by omega] at hB
        subst hB
        exact enV () hx hb hr hlocks hS hP (trivial) dX0_copyFrom_84
      · refine lv_aload_n hx hb dX0_copyFrom_18 rfl (lv_at hl 0 rfl) ?_
        refine va_get (D := D) (ci := 0) (v := .ref (v 0)) (C := RX0) (T := TX0) (N := 6) hx hb hts hwX0 hown hE.K hP 0 rfl rfl 1 (by decide) (hts (.fieldLink RX0 9 "SedgeBarges$Barges" "place" "[I") (List.mem_of_getElem? (i := 2) rfl)) (fun _ h9 => h9) rfl dX0_copyFrom_19 ?_
        refine lv_iload_n hx hb dX0_copyFrom_22 rfl (lv_at hl 2 rfl) ?_
        refine lv_aload_n hx hb dX0_copyFrom_23 rfl (lv_at hl 1 rfl) ?_
        refine va_get (D := D) (ci := 0) (v := .ref (v2 0)) (C := RX0) (T := TX0) (N := 6) hx hb hts hwX0 hown hE.K hP 6 rfl rfl 1 (by decide) (hts (.fieldLink RX0 9 "SedgeBarges$Barges" "place" "[I") (List.mem_of_getElem? (i := 2) rfl)) (fun _ h9 => h9) rfl dX0_copyFrom_24 ?_
        refine lv_iload_n hx hb dX0_copyFrom_27 rfl (lv_at hl 2 rfl) ?_
        refine r_ald (f := G2 0) (v := (G2 0) i) hx hb hE hP 7 (i) rfl rfl (by omega) (by decide) rfl dX0_copyFrom_28 ?_
        refine r_ast (f := Gx 0) (g := upd (Gx 0) i ((G2 0) i)) hx hb hE hP hD hS 1 (i) rfl rfl (by omega) (by decide) rfl dX0_copyFrom_29 (fun H locs hP hD hS => ?_)
        have hP : va_P D vwCl (wBars cA h v nb2 (st Gx 0 i ((G2 0) i)) ++ wBars cA h2 v2 nb2 G2) H := hP
        have hD : va_D A (wBars cA h v nb2 (st Gx 0 i ((G2 0) i)) ++ wBars cA h2 v2 nb2 G2) := hD
        generalize hG_1 : st Gx 0 i ((G2 0) i) = G_1 at hP hD
        refine lv_aload_n hx hb dX0_copyFrom_30 rfl (lv_at hl 0 rfl) ?_
        refine va_get (D := D) (ci := 0) (v := .ref (v 1)) (C := RX0) (T := TX0) (N := 6) hx hb hts hwX0 hown hE.K hP 0 rfl rfl 2 (by decide) (hts (.fieldLink RX0 15 "SedgeBarges$Barges" "goal" "[I") (List.mem_of_getElem? (i := 3) rfl)) (fun _ h9 => h9) rfl dX0_copyFrom_31 ?_
        refine lv_iload_n hx hb dX0_copyFrom_34 rfl (lv_at hl 2 rfl) ?_
        refine lv_aload_n hx hb dX0_copyFrom_35 rfl (lv_at hl 1 rfl) ?_
        refine va_get (D := D) (ci := 0) (v := .ref (v2 1)) (C := RX0) (T := TX0) (N := 6) hx hb hts hwX0 hown hE.K hP 6 rfl rfl 2 (by decide) (hts (.fieldLink RX0 15 "SedgeBarges$Barges" "goal" "[I") (List.mem_of_getElem? (i := 3) rfl)) (fun _ h9 => h9) rfl dX0_copyFrom_36 ?_
        refine lv_iload_n hx hb dX0_copyFrom_39 rfl (lv_at hl 2 rfl) ?_
        refine r_ald (f := G2 1) (v := (G2 1) i) hx hb hE hP 8 (i) rfl rfl (by omega) (by decide) rfl dX0_copyFrom_40 ?_
        refine r_ast (f := G_1 1) (g := upd (G_1 1) i ((G2 1) i)) hx hb hE hP hD hS 2 (i) rfl rfl (by omega) (by decide) rfl dX0_copyFrom_41 (fun H locs hP hD hS => ?_)
        have hP : va_P D vwCl (wBars cA h v nb2 (st G_1 1 i ((G2 1) i)) ++ wBars cA h2 v2 nb2 G2) H := hP
        have hD : va_D A (wBars cA h v nb2 (st G_1 1 i ((G2 1) i)) ++ wBars cA h2 v2 nb2 G2) := hD
        generalize hG_2 : st G_1 1 i ((G2 1) i) = G_2 at hP hD
        refine lv_aload_n hx hb dX0_copyFrom_42 rfl (lv_at hl 0 rfl) ?_
        refine va_get (D := D) (ci := 0) (v := .ref (v 2)) (C := RX0) (T := TX0) (N := 6) hx hb hts hwX0 hown hE.K hP 0 rfl rfl 3 (by decide) (hts (.fieldLink RX0 18 "SedgeBarges$Barges" "sedge" "[I") (List.mem_of_getElem? (i := 4) rfl)) (fun _ h9 => h9) rfl dX0_copyFrom_43 ?_
        refine lv_iload_n hx hb dX0_copyFrom_46 rfl (lv_at hl 2 rfl) ?_
        refine lv_aload_n hx hb dX0_copyFrom_47 rfl (lv_at hl 1 rfl) ?_
        refine va_get (D := D) (ci := 0) (v := .ref (v2 2)) (C := RX0) (T := TX0) (N := 6) hx hb hts hwX0 hown hE.K hP 6 rfl rfl 3 (by decide) (hts (.fieldLink RX0 18 "SedgeBarges$Barges" "sedge" "[I") (List.mem_of_getElem? (i := 4) rfl)) (fun _ h9 => h9) rfl dX0_copyFrom_48 ?_
        refine lv_iload_n hx hb dX0_copyFrom_51 rfl (lv_at hl 2 rfl) ?_
        refine r_ald (f := G2 2) (v := (G2 2) i) hx hb hE hP 9 (i) rfl rfl (by omega) (by decide) rfl dX0_copyFrom_52 ?_
        refine r_ast (f := G_2 2) (g := upd (G_2 2) i ((G2 2) i)) hx hb hE hP hD hS 3 (i) rfl rfl (by omega) (by decide) rfl dX0_copyFrom_53 (fun H locs hP hD hS => ?_)
        have hP : va_P D vwCl (wBars cA h v nb2 (st G_2 2 i ((G2 2) i)) ++ wBars cA h2 v2 nb2 G2) H := hP
        have hD : va_D A (wBars cA h v nb2 (st G_2 2 i ((G2 2) i)) ++ wBars cA h2 v2 nb2 G2) := hD
        generalize hG_3 : st G_2 2 i ((G2 2) i) = G_3 at hP hD
        refine lv_aload_n hx hb dX0_copyFrom_54 rfl (lv_at hl 0 rfl) ?_
        refine va_get (D := D) (ci := 0) (v := .ref (v 3)) (C := RX0) (T := TX0) (N := 6) hx hb hts hwX0 hown hE.K hP 0 rfl rfl 4 (by decide) (hts (.fieldLink RX0 21 "SedgeBarges$Barges" "reed" "[I") (List.mem_of_getElem? (i := 5) rfl)) (fun _ h9 => h9) rfl dX0_copyFrom_55 ?_
        refine lv_iload_n hx hb dX0_copyFrom_58 rfl (lv_at hl 2 rfl) ?_
        refine lv_aload_n hx hb dX0_copyFrom_59 rfl (lv_at hl 1 rfl) ?_
        refine va_get (D := D) (ci := 0) (v := .ref (v2 3)) (C := RX0) (T := TX0) (N := 6) hx hb hts hwX0 hown hE.K hP 6 rfl rfl 4 (by decide) (hts (.fieldLink RX0 21 "SedgeBarges$Barges" "reed" "[I") (List.mem_of_getElem? (i := 5) rfl)) (fun _ h9 => h9) rfl dX0_copyFrom_60 ?_
        refine lv_iload_n hx hb dX0_copyFrom_63 rfl (lv_at hl 2 rfl) ?_
        refine r_ald (f := G2 3) (v := (G2 3) i) hx hb hE hP 10 (i) rfl rfl (by omega) (by decide) rfl dX0_copyFrom_64 ?_
        refine r_ast (f := G_3 3) (g := upd (G_3 3) i ((G2 3) i)) hx hb hE hP hD hS 4 (i) rfl rfl (by omega) (by decide) rfl dX0_copyFrom_65 (fun H locs hP hD hS => ?_)
        have hP : va_P D vwCl (wBars cA h v nb2 (st G_3 3 i ((G2 3) i)) ++ wBars cA h2 v2 nb2 G2) H := hP
        have hD : va_D A (wBars cA h v nb2 (st G_3 3 i ((G2 3) i)) ++ wBars cA h2 v2 nb2 G2) := hD
        generalize hG_4 : st G_3 3 i ((G2 3) i) = G_4 at hP hD
        refine lv_aload_n hx hb dX0_copyFrom_66 rfl (lv_at hl 0 rfl) ?_
        refine va_get (D := D) (ci := 0) (v := .ref (v 4)) (C := RX0) (T := TX0) (N := 6) hx hb hts hwX0 hown hE.K hP 0 rfl rfl 5 (by decide) (hts (.fieldLink RX0 24 "SedgeBarges$Barges" "brought" "[I") (List.mem_of_getElem? (i := 6) rfl)) (fun _ h9 => h9) rfl dX0_copyFrom_67 ?_
        refine lv_iload_n hx hb dX0_copyFrom_70 rfl (lv_at hl 2 rfl) ?_
        refine lv_aload_n hx hb dX0_copyFrom_71 rfl (lv_at hl 1 rfl) ?_
        refine va_get (D := D) (ci := 0) (v := .ref (v2 4)) (C := RX0) (T := TX0) (N := 6) hx hb hts hwX0 hown hE.K hP 6 rfl rfl 5 (by decide) (hts (.fieldLink RX0 24 "SedgeBarges$Barges" "brought" "[I") (List.mem_of_getElem? (i := 6) rfl)) (fun _ h9 => h9) rfl dX0_copyFrom_72 ?_
        refine lv_iload_n hx hb dX0_copyFrom_75 rfl (lv_at hl 2 rfl) ?_
        refine r_ald (f := G2 4) (v := (G2 4) i) hx hb hE hP 11 (i) rfl rfl (by omega) (by decide) rfl dX0_copyFrom_76 ?_
        refine r_ast (f := G_4 4) (g := upd (G_4 4) i ((G2 4) i)) hx hb hE hP hD hS 5 (i) rfl rfl (by omega) (by decide) rfl dX0_copyFrom_77 (fun H locs hP hD hS => ?_)
        have hP : va_P D vwCl (wBars cA h v nb2 (st G_4 4 i ((G2 4) i)) ++ wBars cA h2 v2 nb2 G2) H := hP
        have hD : va_D A (wBars cA h v nb2 (st G_4 4 i ((G2 4) i)) ++ wBars cA h2 v2 nb2 G2) := hD
        generalize hG_5 : st G_4 4 i ((G2 4) i) = G_5 at hP hD
        refine lv_iinc (v := (nI (i + 1))) (lv' := [(2, .int (nI (i + 1))), (0, .ref h), (1, .ref h2)]) (k := 2) hx hb dX0_copyFrom_78 hl rfl (iinc1 _) (by decide) rfl (fun ls hl => ?_)
        refine lv_goto (tgt := 10) hx hb dX0_copyFrom_81 (by decide) ?_
        subst hG_5
        subst hG_4
        subst hG_3
        subst hG_2
        subst hG_1
        exact ih_10  (i + 1) (st (st (st (st (st Gx 0 i ((G2 0) i)) 1 i ((G2 1) i)) 2 i ((G2 2) i)) 3 i ((G2 3) i)) 4 i ((G2 4) i)) (show nb2 - (i + 1) < f_10 from by omega) (show (i + 1) ≤ nb2 from by omega) (show (st (st (st (st (st Gx 0 i ((G2 0) i)) 1 i ((G2 1) i)) 2 i ((G2 2) i)) 3 i ((G2 3) i)) 4 i ((G2 4) i)) = mapC (cpC 5 G2) (i + 1) G from by subst hB; exact mapC_step (fun j k hk => by simp only [st_ne hk]) (fun j => by simp only [st_eq, mapC_ge (Nat.le_refl i)]; exact cp5)) _ _ hP hD hS ls (lv_sub hl [1, 2, 0] rfl)
  exact loop_10 ((nb2 - 0) + 1) 0 G (Nat.lt_succ_self _) (show 0 ≤ nb2 from by omega) (show G = mapC (cpC 5 G2) 0 G from mapC_0.symm) _ _ hP hD hS ls (lv_sub hl [1, 2, 0] rfl)
set_option maxRecDepth 100000 in
set_option maxHeartbeats 4000000 in
theorem c_Bars_send (sa : Nat × Nat × (Nat → Int32)) (tb : Nat → Nat) (D : va_G) (cA cL : ClassId) (l : Launch) (h : Nat) (v : Nat → Nat) (nb : Nat) (G : Nat → Nat → Int32) (k : Nat) (p1 : Int32) (hk : k < 3) : KM sa tb D cA cL l yX0_send wsX0_send ({ frames := 1, cells := 0, slots := 0, locals := 24 }) [.ref h, .int (nI k), .int p1] (wBars cA h v nb G) (qI D (fun (r : Int32) (_ : Unit) => r = sendD G k p1) (fun _ => wBars cA h v nb (sendG G k p1))) := by
  refine KM.of (cc := cX0_send) (maxL := 4) (ret := some .int) (by decide) rfl (Nat.le_of_ble_eq_true rfl) ?_
  intro pg e s m args below meth c A hx hb hr hml hlocks hts hown hS hA hE hP hD ls hl
  have hown : s.vm.findClass RX0 = some m.cls := hown
  have hl : lv_has ls 4 [(0, .ref h), (1, .int (nI k)), (2, .int p1)] := hl
  have hwX0 : ∀ w ∈ wsX00, w ∈ wsX0_send := (fun _ h => List.mem_cons_of_mem _ (List.mem_append_right _ h))
  refine lv_iload_n hx hb dX0_send_0 rfl (lv_at hl 2 rfl) ?_
  refine lv_aload_n hx hb dX0_send_1 rfl (lv_at hl 0 rfl) ?_
  refine va_get (D := D) (ci := 0) (v := .ref (v 0)) (C := RX0) (T := TX0) (N := 6) hx hb hts hwX0 hown hE.K hP 0 rfl rfl 1 (by decide) (hts (.fieldLink RX0 9 "SedgeBarges$Barges" "place" "[I") (List.mem_of_getElem? (i := 1) rfl)) (fun _ h9 => h9) rfl dX0_send_2 ?_
  refine lv_iload_n hx hb dX0_send_5 rfl (lv_at hl 1 rfl) ?_
  refine r_ald (f := G 0) (v := (G 0) k) hx hb hE hP 1 (k) rfl rfl (by omega) (by decide) rfl dX0_send_6 ?_
  refine lv_isub hx hb dX0_send_7 ?_
  refine r_mabs hx hb (hml.trans hl.1.symm) hown (hts (.methodLink RX0 31 Lib.Math.abs.name) (List.mem_of_getElem? (i := 2) rfl)) (hts (.static Lib.Math.abs.name) (List.mem_of_getElem? (i := 3) rfl)) (hts (.initialized "java/lang/Math") (List.mem_of_getElem? (i := 4) rfl)) (hts (.code Lib.Math.abs.name Lib.Math.abs.code 1 (some .int)) (List.mem_of_getElem? (i := 5) rfl)) (Nat.le_of_ble_eq_true rfl) (Nat.le_of_ble_eq_true rfl) (Nat.le_of_ble_eq_true rfl) (Nat.le_of_ble_eq_true rfl) dX0_send_8 ?_
  refine lv_topi (fun z_1 hz_1 => ?_)
  refine lv_istore_n (lv' := [(3, .int z_1), (0, .ref h), (1, .int (nI k)), (2, .int p1)]) hx hb dX0_send_11 rfl hl (by decide) rfl (fun ls hl => ?_)
  refine lv_aload_n hx hb dX0_send_12 rfl (lv_at hl 1 rfl) ?_
  refine va_get (D := D) (ci := 0) (v := .ref (v 1)) (C := RX0) (T := TX0) (N := 6) hx hb hts hwX0 hown hE.K hP 0 rfl rfl 2 (by decide) (hts (.fieldLink RX0 15 "SedgeBarges$Barges" "goal" "[I") (List.mem_of_getElem? (i := 6) rfl)) (fun _ h9 => h9) rfl dX0_send_13 ?_
  refine lv_iload_n hx hb dX0_send_16 rfl (lv_at hl 2 rfl) ?_
  refine lv_iload_n hx hb dX0_send_17 rfl (lv_at hl 0 rfl) ?_
  refine lv_if_ne (tgt := 25) hx hb dX0_send_18 (by decide) (fun c_18 => ?_) (fun c_18 => ?_)
  · refine lv_iload_n hx hb dX0_send_25 rfl (lv_at hl 3 rfl) ?_
    refine r_ast (f := G 1) (g := upd (G 1) k p1) hx hb hE hP hD hS 2 (k) rfl rfl (by omega) (by decide) rfl dX0_send_26 (fun H locs hP hD hS => ?_)
    have hP : va_P D vwCl (wBars cA h v nb (st G 1 k p1)) H := hP
    have hD : va_D A (wBars cA h v nb (st G 1 k p1)) := hD
    generalize hG_2 : st G 1 k p1 = G_2 at hP hD
    refine lv_iload_n hx hb dX0_send_27 rfl (lv_at hl 0 rfl) ?_
    refine lv_iconst (v := 5) hx hb dX0_send_28 (by decide) ?_
    refine lv_iadd hx hb dX0_send_29 ?_
    refine lv_iconst (v := 1) hx hb dX0_send_30 (by decide) ?_
    refine lv_isub hx hb dX0_send_31 ?_
    refine lv_iconst (v := 5) hx hb dX0_send_32 (by decide) ?_
    refine lv_idiv hx hb dX0_send_33 (by decide) ?_
    subst hG_2
    subst hz_1
    have hG : sendG G k p1 = (st G 1 k p1) := by first | exact congrArg (st G 1 k) (if_pos c_18) | exact congrArg (st G 1 k) (if_neg c_18)
    rw [← hG] at hP
    exact enI () hx hb hr hlocks hS hP (by unfold sendD sendW; rfl) dX0_send_34
  · refine lv_iconst (v := (-1)) hx hb dX0_send_21 (by decide) ?_
    refine lv_goto (tgt := 26) hx hb dX0_send_22 (by decide) ?_
    refine r_ast (f := G 1) (g := upd (G 1) k (-1)) hx hb hE hP hD hS 2 (k) rfl rfl (by omega) (by decide) rfl dX0_send_26 (fun H locs hP hD hS => ?_)
    have hP : va_P D vwCl (wBars cA h v nb (st G 1 k (-1))) H := hP
    have hD : va_D A (wBars cA h v nb (st G 1 k (-1))) := hD
    generalize hG_3 : st G 1 k (-1) = G_3 at hP hD
    refine lv_iload_n hx hb dX0_send_27 rfl (lv_at hl 0 rfl) ?_
    refine lv_iconst (v := 5) hx hb dX0_send_28 (by decide) ?_
    refine lv_iadd hx hb dX0_send_29 ?_
    refine lv_iconst (v := 1) hx hb dX0_send_30 (by decide) ?_
    refine lv_isub hx hb dX0_send_31 ?_
    refine lv_iconst (v := 5) hx hb dX0_send_32 (by decide) ?_
    refine lv_idiv hx hb dX0_send_33 (by decide) ?_
    subst hG_3
    subst hz_1
    have hG : sendG G k p1 = (st G 1 k (-1)) := by first | exact congrArg (st G 1 k) (if_pos c_18) | exact congrArg (st G 1 k) (if_neg c_18)
    rw [← hG] at hP
    exact enI () hx hb hr hlocks hS hP (by unfold sendD sendW; rfl) dX0_send_34
set_option maxRecDepth 100000 in
set_option maxHeartbeats 4000000 in
theorem c_Bars_sailOn (sa : Nat × Nat × (Nat → Int32)) (tb : Nat → Nat) (D : va_G) (cA cL : ClassId) (l : Launch) (h : Nat) (v : Nat → Nat) (nb : Nat) (G : Nat → Nat → Int32) (hn : nb ≤ 3) : KM sa tb D cA cL l yX0_sailOn wsX0_sailOn ({ frames := 1, cells := 0, slots := 0, locals := 24 }) [.ref h] (wBars cA h v nb G) (qV D (fun (_ : Unit) => True) (fun _ => wBars cA h v nb (sailG nb G))) := by
  refine KM.of (cc := cX0_sailOn) (maxL := 3) (ret := none) (by decide) rfl (Nat.le_of_ble_eq_true rfl) ?_
  intro pg e s m args below meth c A hx hb hr hml hlocks hts hown hS hA hE hP hD ls hl
  have hown : s.vm.findClass RX0 = some m.cls := hown
  have hl : lv_has ls 3 [(0, .ref h)] := hl
  have hwX0 : ∀ w ∈ wsX00, w ∈ wsX0_sailOn := (fun _ h => List.mem_cons_of_mem _ (List.mem_append_right _ h))
  refine lv_iconst (v := 0) hx hb dX0_sailOn_0 (by decide) ?_
  refine lv_istore_n (lv' := [(1, .int 0), (0, .ref h)]) hx hb dX0_sailOn_1 rfl hl (by decide) rfl (fun ls hl => ?_)
  have loop_2 : ∀ (f_2 : Nat) (i : Nat) (Gx : Nat → Nat → Int32), (nb - i) < f_2 → (i ≤ nb) → (Gx = mapC sailC i G) → ∀ (H : Heap) (locs : List Loc), va_P D vwCl (wBars cA h v nb Gx) H → va_D A (wBars cA h v nb Gx) → va_S A s.heap H locs → ∀ ls : Array Slot, lv_has ls 3 [(0, .ref h), (1, .int (nI i))] → W pg l e ({ frames := 1, cells := 0, slots := 0, locals := 24 }) s m args below meth c H locs 0 0 (MQ below (qV D (fun (_ : Unit) => True) (fun _ => wBars cA h v nb (sailG nb G)) A) args s 0 0 A) (F0 m 2 ls []) := by
    intro f_2
    induction f_2 with
    | zero => intro i Gx h_f; exact absurd h_f (Nat.not_lt_zero _)
    | succ f_2 ih_2 =>
      intro i Gx h_f2 hi hB H locs hP hD hS ls hl
      refine lv_iload_n hx hb dX0_sailOn_2 rfl (lv_at hl 1 rfl) ?_
      refine lv_aload_n hx hb dX0_sailOn_3 rfl (lv_at hl 0 rfl) ?_
      refine va_get (D := D) (ci := 0) (v := .int (nI nb)) (C := RX0) (T := TX0) (N := 6) hx hb hts hwX0 hown hE.K hP 0 rfl rfl 0 (by decide) (hts (.fieldLink RX0 27 "SedgeBarges$Barges" "number" "I") (List.mem_of_getElem? (i := 1) rfl)) (fun _ h9 => h9) rfl dX0_sailOn_4 ?_
      refine rc_ge (tgt := 81) (a := i) (b := nb) hx hb (by omega) (by omega) dX0_sailOn_7 (by decide) (fun c_7 => ?_) (fun c_7 => ?_)
      · rw [show i = nb from by omega] at hB
        subst hB
        exact enV () hx hb hr hlocks hS hP (trivial) dX0_sailOn_81
      · refine lv_aload_n hx hb dX0_sailOn_10 rfl (lv_at hl 0 rfl) ?_
        refine va_get (D := D) (ci := 0) (v := .ref (v 1)) (C := RX0) (T := TX0) (N := 6) hx hb hts hwX0 hown hE.K hP 0 rfl rfl 2 (by decide) (hts (.fieldLink RX0 15 "SedgeBarges$Barges" "goal" "[I") (List.mem_of_getElem? (i := 2) rfl)) (fun _ h9 => h9) rfl dX0_sailOn_11 ?_
        refine lv_iload_n hx hb dX0_sailOn_14 rfl (lv_at hl 1 rfl) ?_
        refine r_ald (f := Gx 1) (v := (Gx 1) i) hx hb hE hP 2 (i) rfl rfl (by omega) (by decide) rfl dX0_sailOn_15 ?_
        refine lv_iconst (v := (-1)) hx hb dX0_sailOn_16 (by decide) ?_
        refine lv_icmp_eq (tgt := 75) hx hb dX0_sailOn_17 (by decide) (fun c_17 => ?_) (fun c_17 => ?_)
        · refine lv_iinc (v := (nI (i + 1))) (lv' := [(1, .int (nI (i + 1))), (0, .ref h)]) (k := 1) hx hb dX0_sailOn_75 hl rfl (iinc1 _) (by decide) rfl (fun ls hl => ?_)
          refine lv_goto (tgt := 2) hx hb dX0_sailOn_78 (by decide) ?_
          exact ih_2  (i + 1) Gx (show nb - (i + 1) < f_2 from by omega) (show (i + 1) ≤ nb from by omega) (show Gx = mapC sailC (i + 1) G from by subst hB; first | exact sail_0 c_17 | exact sail_1 c_17 c_65 | exact sail_2 c_17 c_65) _ _ hP hD hS ls (lv_sub hl [1, 0] rfl)
        · refine lv_aload_n hx hb dX0_sailOn_20 rfl (lv_at hl 0 rfl) ?_
          refine va_get (D := D) (ci := 0) (v := .ref (v 1)) (C := RX0) (T := TX0) (N := 6) hx hb hts hwX0 hown hE.K hP 0 rfl rfl 2 (by decide) (hts (.fieldLink RX0 15 "SedgeBarges$Barges" "goal" "[I") (List.mem_of_getElem? (i := 2) rfl)) (fun _ h9 => h9) rfl dX0_sailOn_21 ?_
          refine lv_iload_n hx hb dX0_sailOn_24 rfl (lv_at hl 1 rfl) ?_
          refine r_ald (f := Gx 1) (v := (Gx 1) i) hx hb hE hP 2 (i) rfl rfl (by omega) (by decide) rfl dX0_sailOn_25 ?_
          refine lv_aload_n hx hb dX0_sailOn_26 rfl (lv_at hl 0 rfl) ?_
          refine va_get (D := D) (ci := 0) (v := .ref (v 0)) (C := RX0) (T := TX0) (N := 6) hx hb hts hwX0 hown hE.K hP 0 rfl rfl 1 (by decide) (hts (.fieldLink RX0 9 "SedgeBarges$Barges" "place" "[I") (List.mem_of_getElem? (i := 3) rfl)) (fun _ h9 => h9) rfl dX0_sailOn_27 ?_
          refine lv_iload_n hx hb dX0_sailOn_30 rfl (lv_at hl 1 rfl) ?_
          refine r_ald (f := Gx 0) (v := (Gx 0) i) hx hb hE hP 1 (i) rfl rfl (by omega) (by decide) rfl dX0_sailOn_31 ?_
          refine lv_isub hx hb dX0_sailOn_32 ?_
          refine lv_topi (fun z_1 hz_1 => ?_)
          refine lv_istore_n (lv' := [(2, .int z_1), (0, .ref h), (1, .int (nI i))]) hx hb dX0_sailOn_33 rfl hl (by decide) rfl (fun ls hl => ?_)
          refine lv_aload_n hx hb dX0_sailOn_34 rfl (lv_at hl 1 rfl) ?_
          refine va_get (D := D) (ci := 0) (v := .ref (v 0)) (C := RX0) (T := TX0) (N := 6) hx hb hts hwX0 hown hE.K hP 0 rfl rfl 1 (by decide) (hts (.fieldLink RX0 9 "SedgeBarges$Barges" "place" "[I") (List.mem_of_getElem? (i := 3) rfl)) (fun _ h9 => h9) rfl dX0_sailOn_35 ?_
          refine lv_iload_n hx hb dX0_sailOn_38 rfl (lv_at hl 2 rfl) ?_
          refine lv_dup2_11 hx hb dX0_sailOn_39 rfl rfl ?_
          refine r_ald (f := Gx 0) (v := (Gx 0) i) hx hb hE hP 1 (i) rfl rfl (by omega) (by decide) rfl dX0_sailOn_40 ?_
          refine lv_bipush (v := (-5)) hx hb dX0_sailOn_41 (by decide) ?_
          refine lv_iconst (v := 5) hx hb dX0_sailOn_43 (by decide) ?_
          refine lv_iload_n hx hb dX0_sailOn_44 rfl (lv_at hl 0 rfl) ?_
          refine r_mmin hx hb (hml.trans hl.1.symm) hown (hts (.methodLink RX0 37 Lib.Math.min.name) (List.mem_of_getElem? (i := 4) rfl)) (hts (.static Lib.Math.min.name) (List.mem_of_getElem? (i := 5) rfl)) (hts (.initialized "java/lang/Math") (List.mem_of_getElem? (i := 6) rfl)) (hts (.code Lib.Math.min.name Lib.Math.min.code 2 (some .int)) (List.mem_of_getElem? (i := 7) rfl)) (Nat.le_of_ble_eq_true rfl) (Nat.le_of_ble_eq_true rfl) (Nat.le_of_ble_eq_true rfl) (Nat.le_of_ble_eq_true rfl) dX0_sailOn_45 ?_
          refine r_mmax hx hb (hml.trans hl.1.symm) hown (hts (.methodLink RX0 41 Lib.Math.max.name) (List.mem_of_getElem? (i := 8) rfl)) (hts (.static Lib.Math.max.name) (List.mem_of_getElem? (i := 9) rfl)) (hts (.initialized "java/lang/Math") (List.mem_of_getElem? (i := 6) rfl)) (hts (.code Lib.Math.max.name Lib.Math.max.code 2 (some .int)) (List.mem_of_getElem? (i := 10) rfl)) (Nat.le_of_ble_eq_true rfl) (Nat.le_of_ble_eq_true rfl) (Nat.le_of_ble_eq_true rfl) (Nat.le_of_ble_eq_true rfl) dX0_sailOn_48 ?_
          refine lv_iadd hx hb dX0_sailOn_51 ?_
          refine lv_topi (fun z_2 hz_2 => ?_)
          refine r_ast (f := Gx 0) (g := upd (Gx 0) i z_2) hx hb hE hP hD hS 1 (i) rfl rfl (by omega) (by decide) rfl dX0_sailOn_52 (fun H locs hP hD hS => ?_)
          have hP : va_P D vwCl (wBars cA h v nb (st Gx 0 i z_2)) H := hP
          have hD : va_D A (wBars cA h v nb (st Gx 0 i z_2)) := hD
          generalize hG_3 : st Gx 0 i z_2 = G_3 at hP hD
          refine lv_aload_n hx hb dX0_sailOn_53 rfl (lv_at hl 1 rfl) ?_
          refine va_get (D := D) (ci := 0) (v := .ref (v 0)) (C := RX0) (T := TX0) (N := 6) hx hb hts hwX0 hown hE.K hP 0 rfl rfl 1 (by decide) (hts (.fieldLink RX0 9 "SedgeBarges$Barges" "place" "[I") (List.mem_of_getElem? (i := 3) rfl)) (fun _ h9 => h9) rfl dX0_sailOn_54 ?_
          refine lv_iload_n hx hb dX0_sailOn_57 rfl (lv_at hl 2 rfl) ?_
          refine r_ald (f := G_3 0) (v := (G_3 0) i) hx hb hE hP 1 (i) rfl rfl (by omega) (by decide) rfl dX0_sailOn_58 ?_
          refine lv_aload_n hx hb dX0_sailOn_59 rfl (lv_at hl 1 rfl) ?_
          refine va_get (D := D) (ci := 0) (v := .ref (v 1)) (C := RX0) (T := TX0) (N := 6) hx hb hts hwX0 hown hE.K hP 0 rfl rfl 2 (by decide) (hts (.fieldLink RX0 15 "SedgeBarges$Barges" "goal" "[I") (List.mem_of_getElem? (i := 2) rfl)) (fun _ h9 => h9) rfl dX0_sailOn_60 ?_
          refine lv_iload_n hx hb dX0_sailOn_63 rfl (lv_at hl 2 rfl) ?_
          refine r_ald (f := G_3 1) (v := Gx 1 i) hx hb hE hP 2 (i) rfl rfl (by omega) (by decide) (st_colE hG_3 (by decide)) dX0_sailOn_64 ?_
          refine lv_icmp_ne (tgt := 75) hx hb dX0_sailOn_65 (by decide) (fun c_65 => ?_) (fun c_65 => ?_)
          · refine lv_iinc (v := (nI (i + 1))) (lv' := [(1, .int (nI (i + 1))), (2, .int z_1), (0, .ref h)]) (k := 2) hx hb dX0_sailOn_75 hl rfl (iinc1 _) (by decide) rfl (fun ls hl => ?_)
            refine lv_goto (tgt := 2) hx hb dX0_sailOn_78 (by decide) ?_
            subst hG_3
            subst hz_2
            subst hz_1
            exact ih_2  (i + 1) (st Gx 0 i (((Gx 0) i) + (imax (-5) (imin 5 (((Gx 1) i) - ((Gx 0) i)))))) (show nb - (i + 1) < f_2 from by omega) (show (i + 1) ≤ nb from by omega) (show (st Gx 0 i (((Gx 0) i) + (imax (-5) (imin 5 (((Gx 1) i) - ((Gx 0) i)))))) = mapC sailC (i + 1) G from by subst hB; first | exact sail_0 c_17 | exact sail_1 c_17 c_65 | exact sail_2 c_17 c_65) _ _ hP hD hS ls (lv_sub hl [2, 0] rfl)
          · refine lv_aload_n hx hb dX0_sailOn_68 rfl (lv_at hl 1 rfl) ?_
            refine va_get (D := D) (ci := 0) (v := .ref (v 1)) (C := RX0) (T := TX0) (N := 6) hx hb hts hwX0 hown hE.K hP 0 rfl rfl 2 (by decide) (hts (.fieldLink RX0 15 "SedgeBarges$Barges" "goal" "[I") (List.mem_of_getElem? (i := 2) rfl)) (fun _ h9 => h9) rfl dX0_sailOn_69 ?_
            refine lv_iload_n hx hb dX0_sailOn_72 rfl (lv_at hl 2 rfl) ?_
            refine lv_iconst (v := (-1)) hx hb dX0_sailOn_73 (by decide) ?_
            refine r_ast (f := G_3 1) (g := upd (G_3 1) i (-1)) hx hb hE hP hD hS 2 (i) rfl rfl (by omega) (by decide) rfl dX0_sailOn_74 (fun H locs hP hD hS => ?_)
            have hP : va_P D vwCl (wBars cA h v nb (st G_3 1 i (-1))) H := hP
            have hD : va_D A (wBars cA h v nb (st G_3 1 i (-1))) := hD
            generalize hG_4 : st G_3 1 i (-1) = G_4 at hP hD
            refine lv_iinc (v := (nI (i + 1))) (lv' := [(1, .int (nI (i + 1))), (2, .int z_1), (0, .ref h)]) (k := 2) hx hb dX0_sailOn_75 hl rfl (iinc1 _) (by decide) rfl (fun ls hl => ?_)
            refine lv_goto (tgt := 2) hx hb dX0_sailOn_78 (by decide) ?_
            subst hG_4
            subst hG_3
            subst hz_2
            subst hz_1
            exact ih_2  (i + 1) (st (st Gx 0 i (((Gx 0) i) + (imax (-5) (imin 5 (((Gx 1) i) - ((Gx 0) i)))))) 1 i (-1)) (show nb - (i + 1) < f_2 from by omega) (show (i + 1) ≤ nb from by omega) (show (st (st Gx 0 i (((Gx 0) i) + (imax (-5) (imin 5 (((Gx 1) i) - ((Gx 0) i)))))) 1 i (-1)) = mapC sailC (i + 1) G from by subst hB; first | exact sail_0 c_17 | exact sail_1 c_17 c_65 | exact sail_2 c_17 c_65) _ _ hP hD hS ls (lv_sub hl [2, 0] rfl)
  exact loop_2 ((nb - 0) + 1) 0 G (Nat.lt_succ_self _) (show 0 ≤ nb from by omega) (show G = mapC sailC 0 G from mapC_0.symm) _ _ hP hD hS ls (lv_sub hl [1, 0] rfl)
set_option maxRecDepth 100000 in
set_option maxHeartbeats 4000000 in
theorem c_Bars_aboard (sa : Nat × Nat × (Nat → Int32)) (tb : Nat → Nat) (D : va_G) (cA cL : ClassId) (l : Launch) (h : Nat) (v : Nat → Nat) (nb : Nat) (G : Nat → Nat → Int32) (k : Nat) (hk : k < 3) : KM sa tb D cA cL l yX0_aboard wsX0_aboard ({ frames := 0, cells := 0, slots := 0, locals := 0 }) [.ref h, .int (nI k)] (wBars cA h v nb G) (qI D (fun (r : Int32) (_ : Unit) => r = abd G k) (fun _ => wBars cA h v nb G)) := by
  refine KM.of (cc := cX0_aboard) (maxL := 2) (ret := some .int) (by decide) rfl (Nat.le_of_ble_eq_true rfl) ?_
  intro pg e s m args below meth c A hx hb hr hml hlocks hts hown hS hA hE hP hD ls hl
  have hown : s.vm.findClass RX0 = some m.cls := hown
  have hl : lv_has ls 2 [(0, .ref h), (1, .int (nI k))] := hl
  have hwX0 : ∀ w ∈ wsX00, w ∈ wsX0_aboard := (fun _ h => List.mem_cons_of_mem _ (List.mem_append_right _ h))
  refine lv_aload_n hx hb dX0_aboard_0 rfl (lv_at hl 0 rfl) ?_
  refine va_get (D := D) (ci := 0) (v := .ref (v 2)) (C := RX0) (T := TX0) (N := 6) hx hb hts hwX0 hown hE.K hP 0 rfl rfl 3 (by decide) (hts (.fieldLink RX0 18 "SedgeBarges$Barges" "sedge" "[I") (List.mem_of_getElem? (i := 1) rfl)) (fun _ h9 => h9) rfl dX0_aboard_1 ?_
  refine lv_iload_n hx hb dX0_aboard_4 rfl (lv_at hl 1 rfl) ?_
  refine r_ald (f := G 2) (v := (G 2) k) hx hb hE hP 3 (k) rfl rfl (by omega) (by decide) rfl dX0_aboard_5 ?_
  refine lv_aload_n hx hb dX0_aboard_6 rfl (lv_at hl 0 rfl) ?_
  refine va_get (D := D) (ci := 0) (v := .ref (v 3)) (C := RX0) (T := TX0) (N := 6) hx hb hts hwX0 hown hE.K hP 0 rfl rfl 4 (by decide) (hts (.fieldLink RX0 21 "SedgeBarges$Barges" "reed" "[I") (List.mem_of_getElem? (i := 2) rfl)) (fun _ h9 => h9) rfl dX0_aboard_7 ?_
  refine lv_iload_n hx hb dX0_aboard_10 rfl (lv_at hl 1 rfl) ?_
  refine r_ald (f := G 3) (v := (G 3) k) hx hb hE hP 4 (k) rfl rfl (by omega) (by decide) rfl dX0_aboard_11 ?_
  refine lv_iadd hx hb dX0_aboard_12 ?_
  exact enI () hx hb hr hlocks hS hP (rfl) dX0_aboard_13
set_option maxRecDepth 100000 in
set_option maxHeartbeats 4000000 in
theorem c_Bars_aboardAll (sa : Nat × Nat × (Nat → Int32)) (tb : Nat → Nat) (D : va_G) (cA cL : ClassId) (l : Launch) (h : Nat) (v : Nat → Nat) (nb : Nat) (G : Nat → Nat → Int32) (hn : nb ≤ 3) : KM sa tb D cA cL l yX0_aboardAll wsX0_aboardAll ({ frames := 1, cells := 0, slots := 0, locals := 21 }) [.ref h] (wBars cA h v nb G) (qI D (fun (r : Int32) (_ : Unit) => r = sumF (abd G) nb) (fun _ => wBars cA h v nb G)) := by
  refine KM.of (cc := cX0_aboardAll) (maxL := 3) (ret := some .int) (by decide) rfl (Nat.le_of_ble_eq_true rfl) ?_
  intro pg e s m args below meth c A hx hb hr hml hlocks hts hown hS hA hE hP hD ls hl
  have hown : s.vm.findClass RX0 = some m.cls := hown
  have hl : lv_has ls 3 [(0, .ref h)] := hl
  have hwX0 : ∀ w ∈ wsX00, w ∈ wsX0_aboardAll := (fun _ h => List.mem_cons_of_mem _ (List.mem_append_right _ h))
  refine lv_iconst (v := 0) hx hb dX0_aboardAll_0 (by decide) ?_
  refine lv_istore_n (lv' := [(1, .int 0), (0, .ref h)]) hx hb dX0_aboardAll_1 rfl hl (by decide) rfl (fun ls hl => ?_)
  refine lv_iconst (v := 0) hx hb dX0_aboardAll_2 (by decide) ?_
  refine lv_istore_n (lv' := [(2, .int 0), (1, .int 0), (0, .ref h)]) hx hb dX0_aboardAll_3 rfl hl (by decide) rfl (fun ls hl => ?_)
  have loop_4 : ∀ (f_4 : Nat) (i : Nat) (acc : Int32), (nb - i) < f_4 → (i ≤ nb) → (acc = sumF (abd G) i) → ∀ (H : Heap) (locs : List Loc), va_P D vwCl (wBars cA h v nb G) H → va_D A (wBars cA h v nb G) → va_S A s.heap H locs → ∀ ls : Array Slot, lv_has ls 3 [(0, .ref h), (1, .int acc), (2, .int (nI i))] → W pg l e ({ frames := 1, cells := 0, slots := 0, locals := 21 }) s m args below meth c H locs 0 0 (MQ below (qI D (fun (r : Int32) (_ : Unit) => r = sumF (abd G) nb) (fun _ => wBars cA h v nb G) A) args s 0 0 A) (F0 m 4 ls []) := by
    intro f_4
    induction f_4 with
    | zero => intro i acc h_f; exact absurd h_f (Nat.not_lt_zero _)
    | succ f_4 ih_4 =>
      intro i acc h_f4 hi hacc H locs hP hD hS ls hl
      refine lv_iload_n hx hb dX0_aboardAll_4 rfl (lv_at hl 2 rfl) ?_
      refine lv_aload_n hx hb dX0_aboardAll_5 rfl (lv_at hl 0 rfl) ?_
      refine va_get (D := D) (ci := 0) (v := .int (nI nb)) (C := RX0) (T := TX0) (N := 6) hx hb hts hwX0 hown hE.K hP 0 rfl rfl 0 (by decide) (hts (.fieldLink RX0 27 "SedgeBarges$Barges" "number" "I") (List.mem_of_getElem? (i := 1) rfl)) (fun _ h9 => h9) rfl dX0_aboardAll_6 ?_
      refine rc_ge (tgt := 26) (a := i) (b := nb) hx hb (by omega) (by omega) dX0_aboardAll_9 (by decide) (fun c_9 => ?_) (fun c_9 => ?_)
      · refine lv_iload_n hx hb dX0_aboardAll_26 rfl (lv_at hl 1 rfl) ?_
        rw [show i = nb from by omega] at hacc
        exact enI () hx hb hr hlocks hS hP (hacc) dX0_aboardAll_27
      · refine lv_iload_n hx hb dX0_aboardAll_12 rfl (lv_at hl 1 rfl) ?_
        refine lv_aload_n hx hb dX0_aboardAll_13 rfl (lv_at hl 0 rfl) ?_
        refine lv_iload_n hx hb dX0_aboardAll_14 rfl (lv_at hl 2 rfl) ?_
        refine goI ([]) ([]) hP hD hS hA (rnV (rest := [.int acc]) (c_Bars_aboard sa tb D cA cL l h v nb G i (show i < 3 from by first | omega | assumption | decide)) ([]) ([]) hP hD hS hA hE ⟨hx, hb, hml, hown, hts⟩ (cwV 1 hts gX0_aboardAll_X0_aboard rfl rfl rfl (by decide +kernel) ⟨(Nat.le_of_ble_eq_true rfl), (Nat.le_of_ble_eq_true rfl)⟩) 0 0 rfl rfl rfl rfl hl.1 rfl (Nat.le_of_ble_eq_true rfl) dX0_aboardAll_15 ⟨(Nat.le_of_ble_eq_true rfl), (Nat.le_of_ble_eq_true rfl)⟩) (fun _ => rfl) (fun r_15 u_15 H locs hw_15 hP hD hS => ?_)
        have hP : va_P D vwCl (wBars cA h v nb G) H := hP
        have hD : va_D A (wBars cA h v nb G) := hD
        obtain rfl : r_15 = abd G i := hw_15
        refine lv_iadd hx hb dX0_aboardAll_18 ?_
        refine lv_topi (fun z_1 hz_1 => ?_)
        refine lv_istore_n (lv' := [(1, .int z_1), (0, .ref h), (2, .int (nI i))]) hx hb dX0_aboardAll_19 rfl hl (by decide) rfl (fun ls hl => ?_)
        refine lv_iinc (v := (nI (i + 1))) (lv' := [(2, .int (nI (i + 1))), (1, .int z_1), (0, .ref h)]) (k := 2) hx hb dX0_aboardAll_20 hl rfl (iinc1 _) (by decide) rfl (fun ls hl => ?_)
        refine lv_goto (tgt := 4) hx hb dX0_aboardAll_23 (by decide) ?_
        subst hz_1
        exact ih_4  (i + 1) (acc + (abd G i)) (show nb - (i + 1) < f_4 from by omega) (show (i + 1) ≤ nb from by omega) (show (acc + (abd G i)) = sumF (abd G) (i + 1) from by rw [hacc]; rfl) _ _ hP hD hS ls (lv_sub hl [2, 1, 0] rfl)
  exact loop_4 ((nb - 0) + 1) 0 0 (Nat.lt_succ_self _) (show 0 ≤ nb from by omega) (show 0 = sumF (abd G) 0 from rfl) _ _ hP hD hS ls (lv_sub hl [2, 1, 0] rfl)
set_option maxRecDepth 100000 in
set_option maxHeartbeats 4000000 in
theorem c_Bars_tell (sa : Nat × Nat × (Nat → Int32)) (tb : Nat → Nat) (D : va_G) (cA cL : ClassId) (l : Launch) (h : Nat) (v : Nat → Nat) (nb : Nat) (G : Nat → Nat → Int32) (k : Nat) (qw : Nat) (hk : k < 3) (hw : qw < 6) : KM sa tb D cA cL l yX0_tell wsX0_tell ({ frames := 1, cells := 0, slots := 0, locals := 21 }) [.ref h, .int (nI k), .int (nI qw)] (wBars cA h v nb G) (qI D (fun (r : Int32) (_ : Unit) => r = tellG G k qw) (fun _ => wBars cA h v nb G)) := by
  refine KM.of (cc := cX0_tell) (maxL := 3) (ret := some .int) (by decide) rfl (Nat.le_of_ble_eq_true rfl) ?_
  intro pg e s m args below meth c A hx hb hr hml hlocks hts hown hS hA hE hP hD ls hl
  have hown : s.vm.findClass RX0 = some m.cls := hown
  have hl : lv_has ls 3 [(0, .ref h), (1, .int (nI k)), (2, .int (nI qw))] := hl
  have hwX0 : ∀ w ∈ wsX00, w ∈ wsX0_tell := (fun _ h => List.mem_cons_of_mem _ (List.mem_append_right _ h))
  have hw9 : qw = 0 ∨ qw = 1 ∨ qw = 2 ∨ qw = 3 ∨ qw = 4 ∨ qw = 5 := by omega
  rcases hw9 with rfl | rfl | rfl | rfl | rfl | rfl
  · have hl : lv_has ls 3 [(0, .ref h), (1, .int (nI k)), (2, .int 0)] := hl
    refine lv_iload_n hx hb dX0_tell_0 rfl (lv_at hl 2 rfl) ?_
    refine lv_tableIn (tgt := 36) hx hb dX0_tell_1 (by decide) (by decide) (off := 35) (by decide) (by decide) ?_
    refine lv_aload_n hx hb dX0_tell_36 rfl (lv_at hl 0 rfl) ?_
    refine va_get (D := D) (ci := 0) (v := .ref (v 0)) (C := RX0) (T := TX0) (N := 6) hx hb hts hwX0 hown hE.K hP 0 rfl rfl 1 (by decide) (hts (.fieldLink RX0 9 "SedgeBarges$Barges" "place" "[I") (List.mem_of_getElem? (i := 1) rfl)) (fun _ h9 => h9) rfl dX0_tell_37 ?_
    refine lv_iload_n hx hb dX0_tell_40 rfl (lv_at hl 1 rfl) ?_
    refine r_ald (f := G 0) (v := (G 0) k) hx hb hE hP 1 (k) rfl rfl (by omega) (by decide) rfl dX0_tell_41 ?_
    exact enI () hx hb hr hlocks hS hP (rfl) dX0_tell_42
  · have hl : lv_has ls 3 [(0, .ref h), (1, .int (nI k)), (2, .int 1)] := hl
    refine lv_iload_n hx hb dX0_tell_0 rfl (lv_at hl 2 rfl) ?_
    refine lv_tableIn (tgt := 43) hx hb dX0_tell_1 (by decide) (by decide) (off := 42) (by decide) (by decide) ?_
    refine lv_aload_n hx hb dX0_tell_43 rfl (lv_at hl 0 rfl) ?_
    refine va_get (D := D) (ci := 0) (v := .ref (v 1)) (C := RX0) (T := TX0) (N := 6) hx hb hts hwX0 hown hE.K hP 0 rfl rfl 2 (by decide) (hts (.fieldLink RX0 15 "SedgeBarges$Barges" "goal" "[I") (List.mem_of_getElem? (i := 2) rfl)) (fun _ h9 => h9) rfl dX0_tell_44 ?_
    refine lv_iload_n hx hb dX0_tell_47 rfl (lv_at hl 1 rfl) ?_
    refine r_ald (f := G 1) (v := (G 1) k) hx hb hE hP 2 (k) rfl rfl (by omega) (by decide) rfl dX0_tell_48 ?_
    exact enI () hx hb hr hlocks hS hP (rfl) dX0_tell_49
  · have hl : lv_has ls 3 [(0, .ref h), (1, .int (nI k)), (2, .int 2)] := hl
    refine lv_iload_n hx hb dX0_tell_0 rfl (lv_at hl 2 rfl) ?_
    refine lv_tableIn (tgt := 50) hx hb dX0_tell_1 (by decide) (by decide) (off := 49) (by decide) (by decide) ?_
    refine lv_aload_n hx hb dX0_tell_50 rfl (lv_at hl 0 rfl) ?_
    refine va_get (D := D) (ci := 0) (v := .ref (v 2)) (C := RX0) (T := TX0) (N := 6) hx hb hts hwX0 hown hE.K hP 0 rfl rfl 3 (by decide) (hts (.fieldLink RX0 18 "SedgeBarges$Barges" "sedge" "[I") (List.mem_of_getElem? (i := 3) rfl)) (fun _ h9 => h9) rfl dX0_tell_51 ?_
    refine lv_iload_n hx hb dX0_tell_54 rfl (lv_at hl 1 rfl) ?_
    refine r_ald (f := G 2) (v := (G 2) k) hx hb hE hP 3 (k) rfl rfl (by omega) (by decide) rfl dX0_tell_55 ?_
    exact enI () hx hb hr hlocks hS hP (rfl) dX0_tell_56
  · have hl : lv_has ls 3 [(0, .ref h), (1, .int (nI k)), (2, .int 3)] := hl
    refine lv_iload_n hx hb dX0_tell_0 rfl (lv_at hl 2 rfl) ?_
    refine lv_tableIn (tgt := 57) hx hb dX0_tell_1 (by decide) (by decide) (off := 56) (by decide) (by decide) ?_
    refine lv_aload_n hx hb dX0_tell_57 rfl (lv_at hl 0 rfl) ?_
    refine va_get (D := D) (ci := 0) (v := .ref (v 3)) (C := RX0) (T := TX0) (N := 6) hx hb hts hwX0 hown hE.K hP 0 rfl rfl 4 (by decide) (hts (.fieldLink RX0 21 "SedgeBarges$Barges" "reed" "[I") (List.mem_of_getElem? (i := 4) rfl)) (fun _ h9 => h9) rfl dX0_tell_58 ?_
    refine lv_iload_n hx hb dX0_tell_61 rfl (lv_at hl 1 rfl) ?_
    refine r_ald (f := G 3) (v := (G 3) k) hx hb hE hP 4 (k) rfl rfl (by omega) (by decide) rfl dX0_tell_62 ?_
    exact enI () hx hb hr hlocks hS hP (rfl) dX0_tell_63
  · have hl : lv_has ls 3 [(0, .ref h), (1, .int (nI k)), (2, .int 4)] := hl
    refine lv_iload_n hx hb dX0_tell_0 rfl (lv_at hl 2 rfl) ?_
    refine lv_tableIn (tgt := 64) hx hb dX0_tell_1 (by decide) (by decide) (off := 63) (by decide) (by decide) ?_
    refine lv_aload_n hx hb dX0_tell_64 rfl (lv_at hl 0 rfl) ?_
    refine va_get (D := D) (ci := 0) (v := .ref (v 0)) (C := RX0) (T := TX0) (N := 6) hx hb hts hwX0 hown hE.K hP 0 rfl rfl 1 (by decide) (hts (.fieldLink RX0 9 "SedgeBarges$Barges" "place" "[I") (List.mem_of_getElem? (i := 1) rfl)) (fun _ h9 => h9) rfl dX0_tell_65 ?_
    refine lv_iload_n hx hb dX0_tell_68 rfl (lv_at hl 1 rfl) ?_
    refine r_ald (f := G 0) (v := (G 0) k) hx hb hE hP 1 (k) rfl rfl (by omega) (by decide) rfl dX0_tell_69 ?_
    refine goI ([]) (wBars cA h v nb G) hP hD hS hA (rnSN (rest := []) (c_landingAt sa tb D cA cL l ((G 0) k) ) ([]) (wBars cA h v nb G) hP hD hS hA hE ⟨hx, hb, hml, hown, hts⟩ ⟨va_cnB 1 hts gX0_tell_X4_landingAt_n44 rfl rfl rfl (nm_1 hE) (hts (.initialized RX4) (List.mem_of_getElem? (i := 7) rfl)) (by decide +kernel) ⟨(Nat.le_of_ble_eq_true rfl), (Nat.le_of_ble_eq_true rfl)⟩, hts (.static yX4_landingAt) (List.mem_of_getElem? (i := 6) rfl), trivial⟩ rfl hl.1 rfl (Nat.le_of_ble_eq_true rfl) dX0_tell_70 ⟨(Nat.le_of_ble_eq_true rfl), (Nat.le_of_ble_eq_true rfl)⟩) (fun _ => rfl) (fun r_70 u_70 H locs hw_70 hP hD hS => ?_)
    have hP : va_P D vwCl (wBars cA h v nb G) H := hP
    have hD : va_D A (wBars cA h v nb G) := hD
    obtain rfl : r_70 = landAt ((G 0) k) := hw_70
    exact enI () hx hb hr hlocks hS hP (rfl) dX0_tell_73
  · have hl : lv_has ls 3 [(0, .ref h), (1, .int (nI k)), (2, .int 5)] := hl
    refine lv_iload_n hx hb dX0_tell_0 rfl (lv_at hl 2 rfl) ?_
    refine lv_tableOut (tgt := 74) hx hb dX0_tell_1 (by decide) (by decide) ?_
    refine lv_aload_n hx hb dX0_tell_74 rfl (lv_at hl 0 rfl) ?_
    refine va_get (D := D) (ci := 0) (v := .ref (v 4)) (C := RX0) (T := TX0) (N := 6) hx hb hts hwX0 hown hE.K hP 0 rfl rfl 5 (by decide) (hts (.fieldLink RX0 24 "SedgeBarges$Barges" "brought" "[I") (List.mem_of_getElem? (i := 5) rfl)) (fun _ h9 => h9) rfl dX0_tell_75 ?_
    refine lv_iload_n hx hb dX0_tell_78 rfl (lv_at hl 1 rfl) ?_
    refine r_ald (f := G 4) (v := (G 4) k) hx hb hE hP 5 (k) rfl rfl (by omega) (by decide) rfl dX0_tell_79 ?_
    exact enI () hx hb hr hlocks hS hP (rfl) dX0_tell_80
set_option maxRecDepth 100000 in
set_option maxHeartbeats 4000000 in
theorem c_Land_copyFrom (sa : Nat × Nat × (Nat → Int32)) (tb : Nat → Nat) (D : va_G) (cA cL : ClassId) (l : Launch) (h : Nat) (w : Nat) (T : Nat → Int32) (h2 : Nat) (w2 : Nat) (T2 : Nat → Int32)  : KM sa tb D cA cL l yX2_copyFrom wsX2_copyFrom ({ frames := 0, cells := 0, slots := 0, locals := 0 }) [.ref h, .ref h2] (wLand cA h w T ++ wLand cA h2 w2 T2) (qV D (fun (_ : Unit) => True) (fun _ => wLand cA h w (cpT T2 T) ++ wLand cA h2 w2 T2)) := by
  refine KM.of (cc := cX2_copyFrom) (maxL := 3) (ret := none) (by decide) rfl (Nat.le_of_ble_eq_true rfl) ?_
  intro pg e s m args below meth c A hx hb hr hml hlocks hts hown hS hA hE hP hD ls hl
  have hown : s.vm.findClass RX2 = some m.cls := hown
  have hl : lv_has ls 3 [(0, .ref h), (1, .ref h2)] := hl
  have hwX2 : ∀ w ∈ wsX20, w ∈ wsX2_copyFrom := (fun _ h => List.mem_cons_of_mem _ (List.mem_append_right _ h))
  refine lv_iconst (v := 0) hx hb dX2_copyFrom_0 (by decide) ?_
  refine lv_istore_n (lv' := [(2, .int 0), (0, .ref h), (1, .ref h2)]) hx hb dX2_copyFrom_1 rfl hl (by decide) rfl (fun ls hl => ?_)
  refine lv_iload_n hx hb dX2_copyFrom_2 rfl (lv_at hl 0 rfl) ?_
  refine lv_iconst (v := 3) hx hb dX2_copyFrom_3 (by decide) ?_
  refine lv_icmp_ge (tgt := 25) hx hb dX2_copyFrom_4 (by decide) (fun q => absurd q (by decide)) (fun _ => ?_)
  refine lv_aload_n hx hb dX2_copyFrom_7 rfl (lv_at hl 1 rfl) ?_
  refine va_get (D := D) (ci := 2) (v := .ref w) (C := RX2) (T := TX2) (N := 1) hx hb hts hwX2 hown hE.K hP 0 rfl rfl 0 (by decide) (hts (.fieldLink RX2 9 "SedgeBarges$Landings" "store" "[I") (List.mem_of_getElem? (i := 1) rfl)) (fun _ h9 => h9) rfl dX2_copyFrom_8 ?_
  refine lv_iload_n hx hb dX2_copyFrom_11 rfl (lv_at hl 0 rfl) ?_
  refine lv_aload_n hx hb dX2_copyFrom_12 rfl (lv_at hl 2 rfl) ?_
  refine va_get (D := D) (ci := 2) (v := .ref w2) (C := RX2) (T := TX2) (N := 1) hx hb hts hwX2 hown hE.K hP 2 rfl rfl 0 (by decide) (hts (.fieldLink RX2 9 "SedgeBarges$Landings" "store" "[I") (List.mem_of_getElem? (i := 1) rfl)) (fun _ h9 => h9) rfl dX2_copyFrom_13 ?_
  refine lv_iload_n hx hb dX2_copyFrom_16 rfl (lv_at hl 0 rfl) ?_
  refine r_ald (f := T2) (v := T2 0) hx hb hE hP 3 (0) rfl rfl (by omega) (by decide) rfl dX2_copyFrom_17 ?_
  refine r_ast (f := T) (g := upd T 0 (T2 0)) hx hb hE hP hD hS 1 (0) rfl rfl (by omega) (by decide) rfl dX2_copyFrom_18 (fun H locs hP hD hS => ?_)
  have hP : va_P D vwCl (wLand cA h w (upd T 0 (T2 0)) ++ wLand cA h2 w2 T2) H := hP
  have hD : va_D A (wLand cA h w (upd T 0 (T2 0)) ++ wLand cA h2 w2 T2) := hD
  refine lv_iinc (v := 1) (lv' := [(2, .int 1), (0, .ref h), (1, .ref h2)]) (k := 0) hx hb dX2_copyFrom_19 hl rfl (by decide) (by decide) rfl (fun ls hl => ?_)
  refine lv_goto (tgt := 2) hx hb dX2_copyFrom_22 (by decide) ?_
  refine lv_iload_n hx hb dX2_copyFrom_2 rfl (lv_at hl 0 rfl) ?_
  refine lv_iconst (v := 3) hx hb dX2_copyFrom_3 (by decide) ?_
  refine lv_icmp_ge (tgt := 25) hx hb dX2_copyFrom_4 (by decide) (fun q => absurd q (by decide)) (fun _ => ?_)
  refine lv_aload_n hx hb dX2_copyFrom_7 rfl (lv_at hl 1 rfl) ?_
  refine va_get (D := D) (ci := 2) (v := .ref w) (C := RX2) (T := TX2) (N := 1) hx hb hts hwX2 hown hE.K hP 0 rfl rfl 0 (by decide) (hts (.fieldLink RX2 9 "SedgeBarges$Landings" "store" "[I") (List.mem_of_getElem? (i := 1) rfl)) (fun _ h9 => h9) rfl dX2_copyFrom_8 ?_
  refine lv_iload_n hx hb dX2_copyFrom_11 rfl (lv_at hl 0 rfl) ?_
  refine lv_aload_n hx hb dX2_copyFrom_12 rfl (lv_at hl 2 rfl) ?_
  refine va_get (D := D) (ci := 2) (v := .ref w2) (C := RX2) (T := TX2) (N := 1) hx hb hts hwX2 hown hE.K hP 2 rfl rfl 0 (by decide) (hts (.fieldLink RX2 9 "SedgeBarges$Landings" "store" "[I") (List.mem_of_getElem? (i := 1) rfl)) (fun _ h9 => h9) rfl dX2_copyFrom_13 ?_
  refine lv_iload_n hx hb dX2_copyFrom_16 rfl (lv_at hl 0 rfl) ?_
  refine r_ald (f := T2) (v := T2 1) hx hb hE hP 3 (1) rfl rfl (by omega) (by decide) rfl dX2_copyFrom_17 ?_
  refine r_ast (f := upd T 0 (T2 0)) (g := upd (upd T 0 (T2 0)) 1 (T2 1)) hx hb hE hP hD hS 1 (1) rfl rfl (by omega) (by decide) rfl dX2_copyFrom_18 (fun H locs hP hD hS => ?_)
  have hP : va_P D vwCl (wLand cA h w (upd (upd T 0 (T2 0)) 1 (T2 1)) ++ wLand cA h2 w2 T2) H := hP
  have hD : va_D A (wLand cA h w (upd (upd T 0 (T2 0)) 1 (T2 1)) ++ wLand cA h2 w2 T2) := hD
  refine lv_iinc (v := 2) (lv' := [(2, .int 2), (0, .ref h), (1, .ref h2)]) (k := 0) hx hb dX2_copyFrom_19 hl rfl (by decide) (by decide) rfl (fun ls hl => ?_)
  refine lv_goto (tgt := 2) hx hb dX2_copyFrom_22 (by decide) ?_
  refine lv_iload_n hx hb dX2_copyFrom_2 rfl (lv_at hl 0 rfl) ?_
  refine lv_iconst (v := 3) hx hb dX2_copyFrom_3 (by decide) ?_
  refine lv_icmp_ge (tgt := 25) hx hb dX2_copyFrom_4 (by decide) (fun q => absurd q (by decide)) (fun _ => ?_)
  refine lv_aload_n hx hb dX2_copyFrom_7 rfl (lv_at hl 1 rfl) ?_
  refine va_get (D := D) (ci := 2) (v := .ref w) (C := RX2) (T := TX2) (N := 1) hx hb hts hwX2 hown hE.K hP 0 rfl rfl 0 (by decide) (hts (.fieldLink RX2 9 "SedgeBarges$Landings" "store" "[I") (List.mem_of_getElem? (i := 1) rfl)) (fun _ h9 => h9) rfl dX2_copyFrom_8 ?_
  refine lv_iload_n hx hb dX2_copyFrom_11 rfl (lv_at hl 0 rfl) ?_
  refine lv_aload_n hx hb dX2_copyFrom_12 rfl (lv_at hl 2 rfl) ?_
  refine va_get (D := D) (ci := 2) (v := .ref w2) (C := RX2) (T := TX2) (N := 1) hx hb hts hwX2 hown hE.K hP 2 rfl rfl 0 (by decide) (hts (.fieldLink RX2 9 "SedgeBarges$Landings" "store" "[I") (List.mem_of_getElem? (i := 1) rfl)) (fun _ h9 => h9) rfl dX2_copyFrom_13 ?_
  refine lv_iload_n hx hb dX2_copyFrom_16 rfl (lv_at hl 0 rfl) ?_
  refine r_ald (f := T2) (v := T2 2) hx hb hE hP 3 (2) rfl rfl (by omega) (by decide) rfl dX2_copyFrom_17 ?_
  refine r_ast (f := upd (upd T 0 (T2 0)) 1 (T2 1)) (g := upd (upd (upd T 0 (T2 0)) 1 (T2 1)) 2 (T2 2)) hx hb hE hP hD hS 1 (2) rfl rfl (by omega) (by decide) rfl dX2_copyFrom_18 (fun H locs hP hD hS => ?_)
  have hP : va_P D vwCl (wLand cA h w (upd (upd (upd T 0 (T2 0)) 1 (T2 1)) 2 (T2 2)) ++ wLand cA h2 w2 T2) H := hP
  have hD : va_D A (wLand cA h w (upd (upd (upd T 0 (T2 0)) 1 (T2 1)) 2 (T2 2)) ++ wLand cA h2 w2 T2) := hD
  refine lv_iinc (v := 3) (lv' := [(2, .int 3), (0, .ref h), (1, .ref h2)]) (k := 0) hx hb dX2_copyFrom_19 hl rfl (by decide) (by decide) rfl (fun ls hl => ?_)
  refine lv_goto (tgt := 2) hx hb dX2_copyFrom_22 (by decide) ?_
  refine lv_iload_n hx hb dX2_copyFrom_2 rfl (lv_at hl 0 rfl) ?_
  refine lv_iconst (v := 3) hx hb dX2_copyFrom_3 (by decide) ?_
  refine lv_icmp_ge (tgt := 25) hx hb dX2_copyFrom_4 (by decide) (fun _ => ?_) (fun q => absurd (by decide) q)
  exact enV () hx hb hr hlocks hS hP (trivial) dX2_copyFrom_25
set_option maxRecDepth 100000 in
set_option maxHeartbeats 4000000 in
theorem c_Land_sedgePrice (sa : Nat × Nat × (Nat → Int32)) (tb : Nat → Nat) (D : va_G) (cA cL : ClassId) (l : Launch) (h : Nat) (w : Nat) (T : Nat → Int32) (k : Nat) (hk : k < 3) : KM sa tb D cA cL l yX2_sedgePrice wsX2_sedgePrice ({ frames := 1, cells := 0, slots := 0, locals := 24 }) [.ref h, .int (nI k)] (wLand cA h w T) (qI D (fun (r : Int32) (_ : Unit) => r = sPrice T k) (fun _ => wLand cA h w T)) := by
  refine KM.of (cc := cX2_sedgePrice) (maxL := 2) (ret := some .int) (by decide) rfl (Nat.le_of_ble_eq_true rfl) ?_
  intro pg e s m args below meth c A hx hb hr hml hlocks hts hown hS hA hE hP hD ls hl
  have hown : s.vm.findClass RX2 = some m.cls := hown
  have hl : lv_has ls 2 [(0, .ref h), (1, .int (nI k))] := hl
  have hwX2 : ∀ w ∈ wsX20, w ∈ wsX2_sedgePrice := (fun _ h => List.mem_cons_of_mem _ (List.mem_append_right _ h))
  refine lv_iconst (v := 1) hx hb dX2_sedgePrice_0 (by decide) ?_
  refine va_getsN hx hb (hE.2.2.2.1.2.2.1).1 hS hown (nf_10 hE) (fun _ h9 => h9) dX2_sedgePrice_1 ?_
  refine lv_iload_n hx hb dX2_sedgePrice_4 rfl (lv_at hl 1 rfl) ?_
  refine r_tld hx hb (hE.2.2.2.1.2.2.1) hS (k) rfl (by omega) (by decide) rfl dX2_sedgePrice_5 ?_
  refine lv_aload_n hx hb dX2_sedgePrice_6 rfl (lv_at hl 0 rfl) ?_
  refine va_get (D := D) (ci := 2) (v := .ref w) (C := RX2) (T := TX2) (N := 1) hx hb hts hwX2 hown hE.K hP 0 rfl rfl 0 (by decide) (hts (.fieldLink RX2 9 "SedgeBarges$Landings" "store" "[I") (List.mem_of_getElem? (i := 1) rfl)) (fun _ h9 => h9) rfl dX2_sedgePrice_7 ?_
  refine lv_iload_n hx hb dX2_sedgePrice_10 rfl (lv_at hl 1 rfl) ?_
  refine r_ald (f := T) (v := T k) hx hb hE hP 1 (k) rfl rfl (by omega) (by decide) rfl dX2_sedgePrice_11 ?_
  refine lv_bipush (v := 25) hx hb dX2_sedgePrice_12 (by decide) ?_
  refine lv_idiv hx hb dX2_sedgePrice_14 (by decide) ?_
  refine lv_isub hx hb dX2_sedgePrice_15 ?_
  refine r_mmax hx hb (hml.trans hl.1.symm) hown (hts (.methodLink RX2 18 Lib.Math.max.name) (List.mem_of_getElem? (i := 2) rfl)) (hts (.static Lib.Math.max.name) (List.mem_of_getElem? (i := 3) rfl)) (hts (.initialized "java/lang/Math") (List.mem_of_getElem? (i := 4) rfl)) (hts (.code Lib.Math.max.name Lib.Math.max.code 2 (some .int)) (List.mem_of_getElem? (i := 5) rfl)) (Nat.le_of_ble_eq_true rfl) (Nat.le_of_ble_eq_true rfl) (Nat.le_of_ble_eq_true rfl) (Nat.le_of_ble_eq_true rfl) dX2_sedgePrice_16 ?_
  exact enI () hx hb hr hlocks hS hP (rfl) dX2_sedgePrice_19
set_option maxRecDepth 100000 in
set_option maxHeartbeats 4000000 in
theorem c_Land_reedPrice (sa : Nat × Nat × (Nat → Int32)) (tb : Nat → Nat) (D : va_G) (cA cL : ClassId) (l : Launch) (h : Nat) (w : Nat) (T : Nat → Int32) (k : Nat) (hk : k < 3) : KM sa tb D cA cL l yX2_reedPrice wsX2_reedPrice ({ frames := 2, cells := 0, slots := 0, locals := 45 }) [.ref h, .int (nI k)] (wLand cA h w T) (qI D (fun (r : Int32) (_ : Unit) => r = rPrice T k) (fun _ => wLand cA h w T)) := by
  refine KM.of (cc := cX2_reedPrice) (maxL := 2) (ret := some .int) (by decide) rfl (Nat.le_of_ble_eq_true rfl) ?_
  intro pg e s m args below meth c A hx hb hr hml hlocks hts hown hS hA hE hP hD ls hl
  have hown : s.vm.findClass RX2 = some m.cls := hown
  have hl : lv_has ls 2 [(0, .ref h), (1, .int (nI k))] := hl
  refine lv_iconst (v := 1) hx hb dX2_reedPrice_0 (by decide) ?_
  refine lv_aload_n hx hb dX2_reedPrice_1 rfl (lv_at hl 0 rfl) ?_
  refine lv_iload_n hx hb dX2_reedPrice_2 rfl (lv_at hl 1 rfl) ?_
  refine goI ([]) ([]) hP hD hS hA (rnV (rest := [.int 1]) (c_Land_sedgePrice sa tb D cA cL l h w T k (show k < 3 from by first | omega | assumption | decide)) ([]) ([]) hP hD hS hA hE ⟨hx, hb, hml, hown, hts⟩ (cwV 1 hts gX2_reedPrice_X2_sedgePrice rfl rfl rfl (by decide +kernel) ⟨(Nat.le_of_ble_eq_true rfl), (Nat.le_of_ble_eq_true rfl)⟩) 2 0 rfl rfl rfl rfl hl.1 rfl (Nat.le_of_ble_eq_true rfl) dX2_reedPrice_3 ⟨(Nat.le_of_ble_eq_true rfl), (Nat.le_of_ble_eq_true rfl)⟩) (fun _ => rfl) (fun r_3 u_3 H locs hw_3 hP hD hS => ?_)
  have hP : va_P D vwCl (wLand cA h w T) H := hP
  have hD : va_D A (wLand cA h w T) := hD
  obtain rfl : r_3 = sPrice T k := hw_3
  refine lv_iconst (v := 2) hx hb dX2_reedPrice_6 (by decide) ?_
  refine lv_idiv hx hb dX2_reedPrice_7 (by decide) ?_
  refine r_mmax hx hb (hml.trans hl.1.symm) hown (hts (.methodLink RX2 18 Lib.Math.max.name) (List.mem_of_getElem? (i := 1) rfl)) (hts (.static Lib.Math.max.name) (List.mem_of_getElem? (i := 2) rfl)) (hts (.initialized "java/lang/Math") (List.mem_of_getElem? (i := 3) rfl)) (hts (.code Lib.Math.max.name Lib.Math.max.code 2 (some .int)) (List.mem_of_getElem? (i := 4) rfl)) (Nat.le_of_ble_eq_true rfl) (Nat.le_of_ble_eq_true rfl) (Nat.le_of_ble_eq_true rfl) (Nat.le_of_ble_eq_true rfl) dX2_reedPrice_8 ?_
  exact enI () hx hb hr hlocks hS hP (rfl) dX2_reedPrice_11
set_option maxRecDepth 100000 in
set_option maxHeartbeats 4000000 in
theorem c_Land_thatch (sa : Nat × Nat × (Nat → Int32)) (tb : Nat → Nat) (D : va_G) (cA cL : ClassId) (l : Launch) (h : Nat) (w : Nat) (T : Nat → Int32)  : KM sa tb D cA cL l yX2_thatch wsX2_thatch ({ frames := 1, cells := 0, slots := 0, locals := 20 }) [.ref h] (wLand cA h w T) (qV D (fun (_ : Unit) => True) (fun _ => wLand cA h w (thT T))) := by
  refine KM.of (cc := cX2_thatch) (maxL := 2) (ret := none) (by decide) rfl (Nat.le_of_ble_eq_true rfl) ?_
  intro pg e s m args below meth c A hx hb hr hml hlocks hts hown hS hA hE hP hD ls hl
  have hown : s.vm.findClass RX2 = some m.cls := hown
  have hl : lv_has ls 2 [(0, .ref h)] := hl
  have hwX2 : ∀ w ∈ wsX20, w ∈ wsX2_thatch := (fun _ h => List.mem_cons_of_mem _ (List.mem_append_right _ h))
  refine lv_iconst (v := 0) hx hb dX2_thatch_0 (by decide) ?_
  refine lv_istore_n (lv' := [(1, .int 0), (0, .ref h)]) hx hb dX2_thatch_1 rfl hl (by decide) rfl (fun ls hl => ?_)
  refine lv_iload_n hx hb dX2_thatch_2 rfl (lv_at hl 0 rfl) ?_
  refine lv_iconst (v := 3) hx hb dX2_thatch_3 (by decide) ?_
  refine lv_icmp_ge (tgt := 31) hx hb dX2_thatch_4 (by decide) (fun q => absurd q (by decide)) (fun _ => ?_)
  refine lv_aload_n hx hb dX2_thatch_7 rfl (lv_at hl 1 rfl) ?_
  refine va_get (D := D) (ci := 2) (v := .ref w) (C := RX2) (T := TX2) (N := 1) hx hb hts hwX2 hown hE.K hP 0 rfl rfl 0 (by decide) (hts (.fieldLink RX2 9 "SedgeBarges$Landings" "store" "[I") (List.mem_of_getElem? (i := 1) rfl)) (fun _ h9 => h9) rfl dX2_thatch_8 ?_
  refine lv_iload_n hx hb dX2_thatch_11 rfl (lv_at hl 0 rfl) ?_
  refine lv_dup2_11 hx hb dX2_thatch_12 rfl rfl ?_
  refine r_ald (f := T) (v := T 0) hx hb hE hP 1 (0) rfl rfl (by omega) (by decide) rfl dX2_thatch_13 ?_
  refine lv_aload_n hx hb dX2_thatch_14 rfl (lv_at hl 1 rfl) ?_
  refine va_get (D := D) (ci := 2) (v := .ref w) (C := RX2) (T := TX2) (N := 1) hx hb hts hwX2 hown hE.K hP 0 rfl rfl 0 (by decide) (hts (.fieldLink RX2 9 "SedgeBarges$Landings" "store" "[I") (List.mem_of_getElem? (i := 1) rfl)) (fun _ h9 => h9) rfl dX2_thatch_15 ?_
  refine lv_iload_n hx hb dX2_thatch_18 rfl (lv_at hl 0 rfl) ?_
  refine r_ald (f := T) (v := T 0) hx hb hE hP 1 (0) rfl rfl (by omega) (by decide) rfl dX2_thatch_19 ?_
  refine goI ([]) (wLand cA h w T) hP hD hS hA (rnSN (rest := [.int (T 0), .int 0, .ref w]) (c_twent sa tb D cA cL l (T 0) ) ([]) (wLand cA h w T) hP hD hS hA hE ⟨hx, hb, hml, hown, hts⟩ ⟨va_cnB 1 hts gX2_thatch_X4_twentiethRoundedUp_n28 rfl rfl rfl (nm_3 hE) (hts (.initialized RX4) (List.mem_of_getElem? (i := 3) rfl)) (by decide +kernel) ⟨(Nat.le_of_ble_eq_true rfl), (Nat.le_of_ble_eq_true rfl)⟩, hts (.static yX4_twentiethRoundedUp) (List.mem_of_getElem? (i := 2) rfl), trivial⟩ rfl hl.1 rfl (Nat.le_of_ble_eq_true rfl) dX2_thatch_20 ⟨(Nat.le_of_ble_eq_true rfl), (Nat.le_of_ble_eq_true rfl)⟩) (fun _ => rfl) (fun r_20 u_20 H locs hw_20 hP hD hS => ?_)
  have hP : va_P D vwCl (wLand cA h w T) H := hP
  have hD : va_D A (wLand cA h w T) := hD
  obtain rfl : r_20 = twent (T 0) := hw_20
  refine lv_isub hx hb dX2_thatch_23 ?_
  refine lv_topi (fun z_1 hz_1 => ?_)
  refine r_ast (f := T) (g := upd T 0 z_1) hx hb hE hP hD hS 1 (0) rfl rfl (by omega) (by decide) rfl dX2_thatch_24 (fun H locs hP hD hS => ?_)
  have hP : va_P D vwCl (wLand cA h w (upd T 0 z_1)) H := hP
  have hD : va_D A (wLand cA h w (upd T 0 z_1)) := hD
  refine lv_iinc (v := 1) (lv' := [(1, .int 1), (0, .ref h)]) (k := 0) hx hb dX2_thatch_25 hl rfl (by decide) (by decide) rfl (fun ls hl => ?_)
  refine lv_goto (tgt := 2) hx hb dX2_thatch_28 (by decide) ?_
  refine lv_iload_n hx hb dX2_thatch_2 rfl (lv_at hl 0 rfl) ?_
  refine lv_iconst (v := 3) hx hb dX2_thatch_3 (by decide) ?_
  refine lv_icmp_ge (tgt := 31) hx hb dX2_thatch_4 (by decide) (fun q => absurd q (by decide)) (fun _ => ?_)
  refine lv_aload_n hx hb dX2_thatch_7 rfl (lv_at hl 1 rfl) ?_
  refine va_get (D := D) (ci := 2) (v := .ref w) (C := RX2) (T := TX2) (N := 1) hx hb hts hwX2 hown hE.K hP 0 rfl rfl 0 (by decide) (hts (.fieldLink RX2 9 "SedgeBarges$Landings" "store" "[I") (List.mem_of_getElem? (i := 1) rfl)) (fun _ h9 => h9) rfl dX2_thatch_8 ?_
  refine lv_iload_n hx hb dX2_thatch_11 rfl (lv_at hl 0 rfl) ?_
  refine lv_dup2_11 hx hb dX2_thatch_12 rfl rfl ?_
  refine r_ald (f := upd T 0 z_1) (v := (upd T 0 z_1) 1) hx hb hE hP 1 (1) rfl rfl (by omega) (by decide) rfl dX2_thatch_13 ?_
  refine lv_aload_n hx hb dX2_thatch_14 rfl (lv_at hl 1 rfl) ?_
  refine va_get (D := D) (ci := 2) (v := .ref w) (C := RX2) (T := TX2) (N := 1) hx hb hts hwX2 hown hE.K hP 0 rfl rfl 0 (by decide) (hts (.fieldLink RX2 9 "SedgeBarges$Landings" "store" "[I") (List.mem_of_getElem? (i := 1) rfl)) (fun _ h9 => h9) rfl dX2_thatch_15 ?_
  refine lv_iload_n hx hb dX2_thatch_18 rfl (lv_at hl 0 rfl) ?_
  refine r_ald (f := upd T 0 z_1) (v := (upd T 0 z_1) 1) hx hb hE hP 1 (1) rfl rfl (by omega) (by decide) rfl dX2_thatch_19 ?_
  refine goI ([]) (wLand cA h w (upd T 0 z_1)) hP hD hS hA (rnSN (rest := [.int ((upd T 0 z_1) 1), .int 1, .ref w]) (c_twent sa tb D cA cL l ((upd T 0 z_1) 1) ) ([]) (wLand cA h w (upd T 0 z_1)) hP hD hS hA hE ⟨hx, hb, hml, hown, hts⟩ ⟨va_cnB 1 hts gX2_thatch_X4_twentiethRoundedUp_n28 rfl rfl rfl (nm_3 hE) (hts (.initialized RX4) (List.mem_of_getElem? (i := 3) rfl)) (by decide +kernel) ⟨(Nat.le_of_ble_eq_true rfl), (Nat.le_of_ble_eq_true rfl)⟩, hts (.static yX4_twentiethRoundedUp) (List.mem_of_getElem? (i := 2) rfl), trivial⟩ rfl hl.1 rfl (Nat.le_of_ble_eq_true rfl) dX2_thatch_20 ⟨(Nat.le_of_ble_eq_true rfl), (Nat.le_of_ble_eq_true rfl)⟩) (fun _ => rfl) (fun r_20 u_20 H locs hw_20 hP hD hS => ?_)
  have hP : va_P D vwCl (wLand cA h w (upd T 0 z_1)) H := hP
  have hD : va_D A (wLand cA h w (upd T 0 z_1)) := hD
  obtain rfl : r_20 = twent ((upd T 0 z_1) 1) := hw_20
  refine lv_isub hx hb dX2_thatch_23 ?_
  refine lv_topi (fun z_2 hz_2 => ?_)
  refine r_ast (f := upd T 0 z_1) (g := upd (upd T 0 z_1) 1 z_2) hx hb hE hP hD hS 1 (1) rfl rfl (by omega) (by decide) rfl dX2_thatch_24 (fun H locs hP hD hS => ?_)
  have hP : va_P D vwCl (wLand cA h w (upd (upd T 0 z_1) 1 z_2)) H := hP
  have hD : va_D A (wLand cA h w (upd (upd T 0 z_1) 1 z_2)) := hD
  refine lv_iinc (v := 2) (lv' := [(1, .int 2), (0, .ref h)]) (k := 0) hx hb dX2_thatch_25 hl rfl (by decide) (by decide) rfl (fun ls hl => ?_)
  refine lv_goto (tgt := 2) hx hb dX2_thatch_28 (by decide) ?_
  refine lv_iload_n hx hb dX2_thatch_2 rfl (lv_at hl 0 rfl) ?_
  refine lv_iconst (v := 3) hx hb dX2_thatch_3 (by decide) ?_
  refine lv_icmp_ge (tgt := 31) hx hb dX2_thatch_4 (by decide) (fun q => absurd q (by decide)) (fun _ => ?_)
  refine lv_aload_n hx hb dX2_thatch_7 rfl (lv_at hl 1 rfl) ?_
  refine va_get (D := D) (ci := 2) (v := .ref w) (C := RX2) (T := TX2) (N := 1) hx hb hts hwX2 hown hE.K hP 0 rfl rfl 0 (by decide) (hts (.fieldLink RX2 9 "SedgeBarges$Landings" "store" "[I") (List.mem_of_getElem? (i := 1) rfl)) (fun _ h9 => h9) rfl dX2_thatch_8 ?_
  refine lv_iload_n hx hb dX2_thatch_11 rfl (lv_at hl 0 rfl) ?_
  refine lv_dup2_11 hx hb dX2_thatch_12 rfl rfl ?_
  refine r_ald (f := upd (upd T 0 z_1) 1 z_2) (v := (upd (upd T 0 z_1) 1 z_2) 2) hx hb hE hP 1 (2) rfl rfl (by omega) (by decide) rfl dX2_thatch_13 ?_
  refine lv_aload_n hx hb dX2_thatch_14 rfl (lv_at hl 1 rfl) ?_
  refine va_get (D := D) (ci := 2) (v := .ref w) (C := RX2) (T := TX2) (N := 1) hx hb hts hwX2 hown hE.K hP 0 rfl rfl 0 (by decide) (hts (.fieldLink RX2 9 "SedgeBarges$Landings" "store" "[I") (List.mem_of_getElem? (i := 1) rfl)) (fun _ h9 => h9) rfl dX2_thatch_15 ?_
  refine lv_iload_n hx hb dX2_thatch_18 rfl (lv_at hl 0 rfl) ?_
  refine r_ald (f := upd (upd T 0 z_1) 1 z_2) (v := (upd (upd T 0 z_1) 1 z_2) 2) hx hb hE hP 1 (2) rfl rfl (by omega) (by decide) rfl dX2_thatch_19 ?_
  refine goI ([]) (wLand cA h w (upd (upd T 0 z_1) 1 z_2)) hP hD hS hA (rnSN (rest := [.int ((upd (upd T 0 z_1) 1 z_2) 2), .int 2, .ref w]) (c_twent sa tb D cA cL l ((upd (upd T 0 z_1) 1 z_2) 2) ) ([]) (wLand cA h w (upd (upd T 0 z_1) 1 z_2)) hP hD hS hA hE ⟨hx, hb, hml, hown, hts⟩ ⟨va_cnB 1 hts gX2_thatch_X4_twentiethRoundedUp_n28 rfl rfl rfl (nm_3 hE) (hts (.initialized RX4) (List.mem_of_getElem? (i := 3) rfl)) (by decide +kernel) ⟨(Nat.le_of_ble_eq_true rfl), (Nat.le_of_ble_eq_true rfl)⟩, hts (.static yX4_twentiethRoundedUp) (List.mem_of_getElem? (i := 2) rfl), trivial⟩ rfl hl.1 rfl (Nat.le_of_ble_eq_true rfl) dX2_thatch_20 ⟨(Nat.le_of_ble_eq_true rfl), (Nat.le_of_ble_eq_true rfl)⟩) (fun _ => rfl) (fun r_20 u_20 H locs hw_20 hP hD hS => ?_)
  have hP : va_P D vwCl (wLand cA h w (upd (upd T 0 z_1) 1 z_2)) H := hP
  have hD : va_D A (wLand cA h w (upd (upd T 0 z_1) 1 z_2)) := hD
  obtain rfl : r_20 = twent ((upd (upd T 0 z_1) 1 z_2) 2) := hw_20
  refine lv_isub hx hb dX2_thatch_23 ?_
  refine lv_topi (fun z_3 hz_3 => ?_)
  refine r_ast (f := upd (upd T 0 z_1) 1 z_2) (g := upd (upd (upd T 0 z_1) 1 z_2) 2 z_3) hx hb hE hP hD hS 1 (2) rfl rfl (by omega) (by decide) rfl dX2_thatch_24 (fun H locs hP hD hS => ?_)
  have hP : va_P D vwCl (wLand cA h w (upd (upd (upd T 0 z_1) 1 z_2) 2 z_3)) H := hP
  have hD : va_D A (wLand cA h w (upd (upd (upd T 0 z_1) 1 z_2) 2 z_3)) := hD
  refine lv_iinc (v := 3) (lv' := [(1, .int 3), (0, .ref h)]) (k := 0) hx hb dX2_thatch_25 hl rfl (by decide) (by decide) rfl (fun ls hl => ?_)
  refine lv_goto (tgt := 2) hx hb dX2_thatch_28 (by decide) ?_
  refine lv_iload_n hx hb dX2_thatch_2 rfl (lv_at hl 0 rfl) ?_
  refine lv_iconst (v := 3) hx hb dX2_thatch_3 (by decide) ?_
  refine lv_icmp_ge (tgt := 31) hx hb dX2_thatch_4 (by decide) (fun _ => ?_) (fun q => absurd (by decide) q)
  subst hz_3
  subst hz_2
  subst hz_1
  have hW_T : thT T = upd (upd (upd T 0 ((T 0) - (twent (T 0)))) 1 (((upd T 0 ((T 0) - (twent (T 0)))) 1) - (twent ((upd T 0 ((T 0) - (twent (T 0)))) 1)))) 2 (((upd (upd T 0 ((T 0) - (twent (T 0)))) 1 (((upd T 0 ((T 0) - (twent (T 0)))) 1) - (twent ((upd T 0 ((T 0) - (twent (T 0)))) 1)))) 2) - (twent ((upd (upd T 0 ((T 0) - (twent (T 0)))) 1 (((upd T 0 ((T 0) - (twent (T 0)))) 1) - (twent ((upd T 0 ((T 0) - (twent (T 0)))) 1)))) 2))) := by unfold thT th2 th1; rfl
  rw [← hW_T] at hP
  exact enV () hx hb hr hlocks hS hP (trivial) dX2_thatch_31
set_option maxRecDepth 100000 in
set_option maxHeartbeats 4000000 in
theorem c_Land_tell (sa : Nat × Nat × (Nat → Int32)) (tb : Nat → Nat) (D : va_G) (cA cL : ClassId) (l : Launch) (h : Nat) (w : Nat) (T : Nat → Int32) (k : Nat) (qw : Nat) (hk : k < 3) (hw : qw < 4) : KM sa tb D cA cL l yX2_tell wsX2_tell ({ frames := 3, cells := 0, slots := 0, locals := 66 }) [.ref h, .int (nI k), .int (nI qw)] (wLand cA h w T) (qI D (fun (r : Int32) (_ : Unit) => r = tellL T k qw) (fun _ => wLand cA h w T)) := by
  refine KM.of (cc := cX2_tell) (maxL := 3) (ret := some .int) (by decide) rfl (Nat.le_of_ble_eq_true rfl) ?_
  intro pg e s m args below meth c A hx hb hr hml hlocks hts hown hS hA hE hP hD ls hl
  have hown : s.vm.findClass RX2 = some m.cls := hown
  have hl : lv_has ls 3 [(0, .ref h), (1, .int (nI k)), (2, .int (nI qw))] := hl
  have hwX2 : ∀ w ∈ wsX20, w ∈ wsX2_tell := (fun _ h => List.mem_cons_of_mem _ (List.mem_append_right _ h))
  have hw9 : qw = 0 ∨ qw = 1 ∨ qw = 2 ∨ qw = 3 := by omega
  rcases hw9 with rfl | rfl | rfl | rfl
  · have hl : lv_has ls 3 [(0, .ref h), (1, .int (nI k)), (2, .int 0)] := hl
    refine lv_iload_n hx hb dX2_tell_0 rfl (lv_at hl 2 rfl) ?_
    refine lv_tableIn (tgt := 28) hx hb dX2_tell_1 (by decide) (by decide) (off := 27) (by decide) (by decide) ?_
    refine va_getsN hx hb (hE.2.2.2.1.2.1).1 hS hown (nf_11 hE) (fun _ h9 => h9) dX2_tell_28 ?_
    refine lv_iload_n hx hb dX2_tell_31 rfl (lv_at hl 1 rfl) ?_
    refine r_tld hx hb (hE.2.2.2.1.2.1) hS (k) rfl (by omega) (by decide) rfl dX2_tell_32 ?_
    exact enI () hx hb hr hlocks hS hP (rfl) dX2_tell_33
  · have hl : lv_has ls 3 [(0, .ref h), (1, .int (nI k)), (2, .int 1)] := hl
    refine lv_iload_n hx hb dX2_tell_0 rfl (lv_at hl 2 rfl) ?_
    refine lv_tableIn (tgt := 34) hx hb dX2_tell_1 (by decide) (by decide) (off := 33) (by decide) (by decide) ?_
    refine lv_aload_n hx hb dX2_tell_34 rfl (lv_at hl 0 rfl) ?_
    refine va_get (D := D) (ci := 2) (v := .ref w) (C := RX2) (T := TX2) (N := 1) hx hb hts hwX2 hown hE.K hP 0 rfl rfl 0 (by decide) (hts (.fieldLink RX2 9 "SedgeBarges$Landings" "store" "[I") (List.mem_of_getElem? (i := 1) rfl)) (fun _ h9 => h9) rfl dX2_tell_35 ?_
    refine lv_iload_n hx hb dX2_tell_38 rfl (lv_at hl 1 rfl) ?_
    refine r_ald (f := T) (v := T k) hx hb hE hP 1 (k) rfl rfl (by omega) (by decide) rfl dX2_tell_39 ?_
    exact enI () hx hb hr hlocks hS hP (rfl) dX2_tell_40
  · have hl : lv_has ls 3 [(0, .ref h), (1, .int (nI k)), (2, .int 2)] := hl
    refine lv_iload_n hx hb dX2_tell_0 rfl (lv_at hl 2 rfl) ?_
    refine lv_tableIn (tgt := 41) hx hb dX2_tell_1 (by decide) (by decide) (off := 40) (by decide) (by decide) ?_
    refine lv_aload_n hx hb dX2_tell_41 rfl (lv_at hl 0 rfl) ?_
    refine lv_iload_n hx hb dX2_tell_42 rfl (lv_at hl 1 rfl) ?_
    refine goI ([]) ([]) hP hD hS hA (rnV (rest := []) (c_Land_sedgePrice sa tb D cA cL l h w T k (show k < 3 from by first | omega | assumption | decide)) ([]) ([]) hP hD hS hA hE ⟨hx, hb, hml, hown, hts⟩ (cwV 1 hts gX2_tell_X2_sedgePrice rfl rfl rfl (by decide +kernel) ⟨(Nat.le_of_ble_eq_true rfl), (Nat.le_of_ble_eq_true rfl)⟩) 2 0 rfl rfl rfl rfl hl.1 rfl (Nat.le_of_ble_eq_true rfl) dX2_tell_43 ⟨(Nat.le_of_ble_eq_true rfl), (Nat.le_of_ble_eq_true rfl)⟩) (fun _ => rfl) (fun r_43 u_43 H locs hw_43 hP hD hS => ?_)
    have hP : va_P D vwCl (wLand cA h w T) H := hP
    have hD : va_D A (wLand cA h w T) := hD
    obtain rfl : r_43 = sPrice T k := hw_43
    exact enI () hx hb hr hlocks hS hP (rfl) dX2_tell_46
  · have hl : lv_has ls 3 [(0, .ref h), (1, .int (nI k)), (2, .int 3)] := hl
    refine lv_iload_n hx hb dX2_tell_0 rfl (lv_at hl 2 rfl) ?_
    refine lv_tableOut (tgt := 47) hx hb dX2_tell_1 (by decide) (by decide) ?_
    refine lv_aload_n hx hb dX2_tell_47 rfl (lv_at hl 0 rfl) ?_
    refine lv_iload_n hx hb dX2_tell_48 rfl (lv_at hl 1 rfl) ?_
    refine goI ([]) ([]) hP hD hS hA (rnV (rest := []) (c_Land_reedPrice sa tb D cA cL l h w T k (show k < 3 from by first | omega | assumption | decide)) ([]) ([]) hP hD hS hA hE ⟨hx, hb, hml, hown, hts⟩ (cwV 1 hts gX2_tell_X2_reedPrice rfl rfl rfl (by decide +kernel) ⟨(Nat.le_of_ble_eq_true rfl), (Nat.le_of_ble_eq_true rfl)⟩) 2 0 rfl rfl rfl rfl hl.1 rfl (Nat.le_of_ble_eq_true rfl) dX2_tell_49 ⟨(Nat.le_of_ble_eq_true rfl), (Nat.le_of_ble_eq_true rfl)⟩) (fun _ => rfl) (fun r_49 u_49 H locs hw_49 hP hD hS => ?_)
    have hP : va_P D vwCl (wLand cA h w T) H := hP
    have hD : va_D A (wLand cA h w T) := hD
    obtain rfl : r_49 = rPrice T k := hw_49
    exact enI () hx hb hr hlocks hS hP (rfl) dX2_tell_52
set_option maxRecDepth 100000 in
set_option maxHeartbeats 4000000 in
theorem c_Land_storeOfAll (sa : Nat × Nat × (Nat → Int32)) (tb : Nat → Nat) (D : va_G) (cA cL : ClassId) (l : Launch) (h : Nat) (w : Nat) (T : Nat → Int32)  : KM sa tb D cA cL l yX2_storeOfAll wsX2_storeOfAll ({ frames := 0, cells := 0, slots := 0, locals := 0 }) [.ref h] (wLand cA h w T) (qI D (fun (r : Int32) (_ : Unit) => r = sumF T 3) (fun _ => wLand cA h w T)) := by
  refine KM.of (cc := cX2_storeOfAll) (maxL := 3) (ret := some .int) (by decide) rfl (Nat.le_of_ble_eq_true rfl) ?_
  intro pg e s m args below meth c A hx hb hr hml hlocks hts hown hS hA hE hP hD ls hl
  have hown : s.vm.findClass RX2 = some m.cls := hown
  have hl : lv_has ls 3 [(0, .ref h)] := hl
  have hwX2 : ∀ w ∈ wsX20, w ∈ wsX2_storeOfAll := (fun _ h => List.mem_cons_of_mem _ (List.mem_append_right _ h))
  refine lv_iconst (v := 0) hx hb dX2_storeOfAll_0 (by decide) ?_
  refine lv_istore_n (lv' := [(1, .int 0), (0, .ref h)]) hx hb dX2_storeOfAll_1 rfl hl (by decide) rfl (fun ls hl => ?_)
  refine lv_iconst (v := 0) hx hb dX2_storeOfAll_2 (by decide) ?_
  refine lv_istore_n (lv' := [(2, .int 0), (1, .int 0), (0, .ref h)]) hx hb dX2_storeOfAll_3 rfl hl (by decide) rfl (fun ls hl => ?_)
  refine lv_iload_n hx hb dX2_storeOfAll_4 rfl (lv_at hl 0 rfl) ?_
  refine lv_iconst (v := 3) hx hb dX2_storeOfAll_5 (by decide) ?_
  refine lv_icmp_ge (tgt := 24) hx hb dX2_storeOfAll_6 (by decide) (fun q => absurd q (by decide)) (fun _ => ?_)
  refine lv_iload_n hx hb dX2_storeOfAll_9 rfl (lv_at hl 1 rfl) ?_
  refine lv_aload_n hx hb dX2_storeOfAll_10 rfl (lv_at hl 2 rfl) ?_
  refine va_get (D := D) (ci := 2) (v := .ref w) (C := RX2) (T := TX2) (N := 1) hx hb hts hwX2 hown hE.K hP 0 rfl rfl 0 (by decide) (hts (.fieldLink RX2 9 "SedgeBarges$Landings" "store" "[I") (List.mem_of_getElem? (i := 1) rfl)) (fun _ h9 => h9) rfl dX2_storeOfAll_11 ?_
  refine lv_iload_n hx hb dX2_storeOfAll_14 rfl (lv_at hl 0 rfl) ?_
  refine r_ald (f := T) (v := T 0) hx hb hE hP 1 (0) rfl rfl (by omega) (by decide) rfl dX2_storeOfAll_15 ?_
  refine lv_iadd hx hb dX2_storeOfAll_16 ?_
  refine lv_topi (fun z_1 hz_1 => ?_)
  refine lv_istore_n (lv' := [(1, .int z_1), (2, .int 0), (0, .ref h)]) hx hb dX2_storeOfAll_17 rfl hl (by decide) rfl (fun ls hl => ?_)
  refine lv_iinc (v := 1) (lv' := [(2, .int 1), (1, .int z_1), (0, .ref h)]) (k := 1) hx hb dX2_storeOfAll_18 hl rfl (by decide) (by decide) rfl (fun ls hl => ?_)
  refine lv_goto (tgt := 4) hx hb dX2_storeOfAll_21 (by decide) ?_
  refine lv_iload_n hx hb dX2_storeOfAll_4 rfl (lv_at hl 0 rfl) ?_
  refine lv_iconst (v := 3) hx hb dX2_storeOfAll_5 (by decide) ?_
  refine lv_icmp_ge (tgt := 24) hx hb dX2_storeOfAll_6 (by decide) (fun q => absurd q (by decide)) (fun _ => ?_)
  refine lv_iload_n hx hb dX2_storeOfAll_9 rfl (lv_at hl 1 rfl) ?_
  refine lv_aload_n hx hb dX2_storeOfAll_10 rfl (lv_at hl 2 rfl) ?_
  refine va_get (D := D) (ci := 2) (v := .ref w) (C := RX2) (T := TX2) (N := 1) hx hb hts hwX2 hown hE.K hP 0 rfl rfl 0 (by decide) (hts (.fieldLink RX2 9 "SedgeBarges$Landings" "store" "[I") (List.mem_of_getElem? (i := 1) rfl)) (fun _ h9 => h9) rfl dX2_storeOfAll_11 ?_
  refine lv_iload_n hx hb dX2_storeOfAll_14 rfl (lv_at hl 0 rfl) ?_
  refine r_ald (f := T) (v := T 1) hx hb hE hP 1 (1) rfl rfl (by omega) (by decide) rfl dX2_storeOfAll_15 ?_
  refine lv_iadd hx hb dX2_storeOfAll_16 ?_
  refine lv_topi (fun z_2 hz_2 => ?_)
  refine lv_istore_n (lv' := [(1, .int z_2), (2, .int 1), (0, .ref h)]) hx hb dX2_storeOfAll_17 rfl hl (by decide) rfl (fun ls hl => ?_)
  refine lv_iinc (v := 2) (lv' := [(2, .int 2), (1, .int z_2), (0, .ref h)]) (k := 1) hx hb dX2_storeOfAll_18 hl rfl (by decide) (by decide) rfl (fun ls hl => ?_)
  refine lv_goto (tgt := 4) hx hb dX2_storeOfAll_21 (by decide) ?_
  refine lv_iload_n hx hb dX2_storeOfAll_4 rfl (lv_at hl 0 rfl) ?_
  refine lv_iconst (v := 3) hx hb dX2_storeOfAll_5 (by decide) ?_
  refine lv_icmp_ge (tgt := 24) hx hb dX2_storeOfAll_6 (by decide) (fun q => absurd q (by decide)) (fun _ => ?_)
  refine lv_iload_n hx hb dX2_storeOfAll_9 rfl (lv_at hl 1 rfl) ?_
  refine lv_aload_n hx hb dX2_storeOfAll_10 rfl (lv_at hl 2 rfl) ?_
  refine va_get (D := D) (ci := 2) (v := .ref w) (C := RX2) (T := TX2) (N := 1) hx hb hts hwX2 hown hE.K hP 0 rfl rfl 0 (by decide) (hts (.fieldLink RX2 9 "SedgeBarges$Landings" "store" "[I") (List.mem_of_getElem? (i := 1) rfl)) (fun _ h9 => h9) rfl dX2_storeOfAll_11 ?_
  refine lv_iload_n hx hb dX2_storeOfAll_14 rfl (lv_at hl 0 rfl) ?_
  refine r_ald (f := T) (v := T 2) hx hb hE hP 1 (2) rfl rfl (by omega) (by decide) rfl dX2_storeOfAll_15 ?_
  refine lv_iadd hx hb dX2_storeOfAll_16 ?_
  refine lv_topi (fun z_3 hz_3 => ?_)
  refine lv_istore_n (lv' := [(1, .int z_3), (2, .int 2), (0, .ref h)]) hx hb dX2_storeOfAll_17 rfl hl (by decide) rfl (fun ls hl => ?_)
  refine lv_iinc (v := 3) (lv' := [(2, .int 3), (1, .int z_3), (0, .ref h)]) (k := 1) hx hb dX2_storeOfAll_18 hl rfl (by decide) (by decide) rfl (fun ls hl => ?_)
  refine lv_goto (tgt := 4) hx hb dX2_storeOfAll_21 (by decide) ?_
  refine lv_iload_n hx hb dX2_storeOfAll_4 rfl (lv_at hl 0 rfl) ?_
  refine lv_iconst (v := 3) hx hb dX2_storeOfAll_5 (by decide) ?_
  refine lv_icmp_ge (tgt := 24) hx hb dX2_storeOfAll_6 (by decide) (fun _ => ?_) (fun q => absurd (by decide) q)
  refine lv_iload_n hx hb dX2_storeOfAll_24 rfl (lv_at hl 1 rfl) ?_
  subst hz_3
  subst hz_2
  subst hz_1
  exact enI () hx hb hr hlocks hS hP (rfl) dX2_storeOfAll_25
