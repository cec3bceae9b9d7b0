/-! 13: the constructors -/
def uF (l : List Nat) : Nat → Nat := fun j => l.getD j 0
/-- a constructor's contract: what it makes lies beside its object -/
def KI (sa : Nat × Nat × (Nat → Int32)) (tb : Nat → Nat) (D : va_G) (cA cL : ClassId) (l : Launch) (y : MethodName) (wy : List Cond) (rm : Room) (av : List Value) (ws : va_W) {S : Type} (w1 : S → va_W) (mc ms : Nat) : Prop := ∀ sz : Nat, Met l y wy rm (PcK sa tb D cA cL av ws sz) (va_Qv (fun _ : S => True) (fun u t => va_P D vwCl (w1 u) t.heap ∧ va_D (va_A ws sz) (w1 u)) (va_A ws sz)) mc ms (va_A ws sz)
section LAYI
variable {sa : Nat × Nat × (Nat → Int32)} {tb : Nat → Nat} {D : va_G} {cA cL : ClassId} {l : Launch} {y : MethodName} {wy wy' : List Cond} {rm : Room} {av : List Value} {ws : va_W} {cc : ByteArray} {maxL : Nat} {ret : Option FieldType} {S : Type} {w1 : S → va_W} {mc ms : Nat}
theorem KI.of (hy : plainName y.cls = true) (hw : wy = Cond.code y cc maxL ret :: wy') (hlen : (lg_sl av).length ≤ maxL) (hyn : y.name = "<init>")
    (body : ∀ (p : Program) (e : Env) (s : State) (m : MethodId) (args : Array Value) (below : List Frame) (meth : Method) (c : Code) (A : Nat → Prop), p.tables.exec = Jvm.exec → c.code = cc → meth.sig.returnType = ret → c.maxLocals = maxL → meth.locks = false → (∀ w ∈ wy, w.before args s = true) → s.vm.findClass y.cls = some m.cls → meth.name = "<init>" → va_S A s.heap s.heap [] → (∀ q : Nat, s.heap.size ≤ q → A q) → En sa tb D cA cL A s s.heap → va_P D vwCl ws s.heap → va_D A ws → ∀ ls : Array Slot, lv_has ls maxL (lv_args 0 av) →
      W p l e rm s m args below meth c s.heap [] 0 0 (MQ below (va_Qv (fun _ : S => True) (fun u t => va_P D vwCl (w1 u) t.heap ∧ va_D A (w1 u)) A) args s mc ms A) (F0 m 0 ls [])) : KI sa tb D cA cL l y wy rm av ws w1 mc ms := by
  intro sz
  refine Met.ofW (cc := cc) (maxL := maxL) (ret := ret) hy hw ?_
  intro p e s m args below meth c s₁ B hml hv
  obtain ⟨rfl, hsz, hP, hD0, hE⟩ := hv
  subst hsz
  have hl := lv_entry av (n := maxL) hlen
  rw [lg_entry_eq]
  exact body p e s m _ below meth c _ B.exec B.bytes B.returns hml B.notSynchronized (atoms_spec (ws := wy) B.pre) (findClass_of_methodNamed B.named) ((name_of_methodNamed B.named B.method).1.trans hyn) va_S.rf (fun q h => Or.inr h) hE hP hD0.self _ hl
end LAYI
section LAYJ
variable {p : Program} {l : Launch} {e : Env} {R : Room} {s : State} {m : MethodId} {args : Array Value} {below : List Frame} {meth : Method} {c : Code} {H : Heap} {locs : List Loc} {cells slots : Nat} {Q : State → Prop}
variable {sa : Nat × Nat × (Nat → Int32)} {tb : Nat → Nat} {D : va_G} {cA cL : ClassId} {A : Nat → Prop} {y : MethodName} {wy : List Cond} {rm : Room} {cc bytes : ByteArray} {maxL nL n index : Nat} {ret : Option FieldType} {Ts : List Cond} {own C host : String} {b : Addr} {As rest st0 : List Value} {pc : Nat} {ls : Array Slot} {pre wc : va_W} {S : Type} {w1 : S → va_W} {mc ms : Nat} {a : Array Value}
theorem r_newI {ws : va_W} (hexec : p.tables.exec = Jvm.exec) (hb : c.code = cc) (harr : (Cond.arrayClass .int).before args s = true) (hE : En sa tb D cA cL A s s.heap) (hP : va_P D vwCl ws H) (hD : va_D A ws) (hS : va_S A s.heap H locs) (hA : ∀ q, s.heap.size ≤ q → A q) (N : Nat)
    {v : Int32} (hn : ¬ v < 0) (hN : v.toNatClampNeg = N) (hbytes : N * componentBytes .int ≤ 536870912) (hcells : cells + 1 ≤ R.cells) (hslots : slots + N ≤ R.slots) (hdg : decode cc pc = .ok (.newarray .int, 2))
    (kk : ∀ (q : Nat) (H1 : Heap), va_P D vwCl (ws ++ [(q, I_ cA N (fun _ => 0))]) H1 → va_D A (ws ++ [(q, I_ cA N (fun _ => 0))]) → va_S A s.heap H1 locs → W p l e R s m args below meth c H1 locs (cells + 1) (slots + N) Q (F0 m (pc + 2) ls (.ref q :: rest))) : W p l e R s m args below meth c H locs cells slots Q (F0 m pc ls (.int v :: rest)) := by
  refine va_newa (atype := .int) hexec hb harr rfl hE.K hP hD hS hA (a0 := (N, .inl fun _ => 0)) (fun _ => rfl) hn hN hbytes hcells hslots hdg (fun q cA' H1 hK' hP' hD' hS' => ?_)
  obtain rfl : cA' = cA := Option.some.inj ((va_nm_int (hK'.2 1 _ rfl).2).symm.trans (va_nm_int (hE.K.2 0 _ rfl).2))
  exact kk q H1 hP' hD' hS'
theorem rnI (hM : KI sa tb D cA cL l y wy rm (.ref b :: As) wc w1 mc ms) (pre : va_W) (hP : va_P D vwCl (pre ++ (wc ++ [])) H) (hD : va_D A (pre ++ (wc ++ []))) (hS : va_S A s.heap H locs) (hA : ∀ q, s.heap.size ≤ q → A q) (hE : En sa tb D cA cL A s s.heap) (hCF : CallFix p m c cc nL s args Ts own)
    (cw : CallB R s args own index y bytes maxL none wy rm mc ms n ∧ y.name = "<init>" ∧ (Cond.instanceMethod y).before args s = true) (hn : As.length = n) (hsize : ls.size = nL) (hst : st0 = As.reverse ++ .ref b :: rest) (hW : (rest.map fun v => v.category).sum ≤ 8) (hdg : decode cc pc = .ok (.invokespecial index, 3)) (hf : cells + mc ≤ R.cells ∧ slots + ms ≤ R.slots) :
    va_Run p l e R s m args below meth c H locs cells slots mc ms (F0 m pc ls st0) rest (va_Qv (fun _ : S => True) (fun u t => va_P D vwCl (w1 u) t.heap ∧ va_D (va_A wc H.size) (w1 u)) (va_A wc H.size) (Value.ref b :: As).toArray) (va_A wc H.size) :=
  va_runI hCF (hM H.size) cw ⟨PcK.blind, PcKu hP hD hS hA hE⟩ rfl hn hsize hst (lv_room hW) hdg hf
theorem rnIN (hM : KI sa tb D cA cL l y wy rm (.ref b :: As) wc w1 mc ms) (pre : va_W) (hP : va_P D vwCl (pre ++ (wc ++ [])) H) (hD : va_D A (pre ++ (wc ++ []))) (hS : va_S A s.heap H locs) (hA : ∀ q, s.heap.size ≤ q → A q) (hE : En sa tb D cA cL A s s.heap) (hCF : CallFix p m c cc nL s args Ts own)
    (cw : va_CN R s args own index y host bytes maxL none wy rm mc ms n ∧ y.name = "<init>" ∧ (Cond.instanceMethod y).before args s = true) (hn : As.length = n) (hsize : ls.size = nL) (hst : st0 = As.reverse ++ .ref b :: rest) (hW : (rest.map fun v => v.category).sum ≤ 8) (hdg : decode cc pc = .ok (.invokespecial index, 3)) (hf : cells + mc ≤ R.cells ∧ slots + ms ≤ R.slots) :
    va_Run p l e R s m args below meth c H locs cells slots mc ms (F0 m pc ls st0) rest (va_Qv (fun _ : S => True) (fun u t => va_P D vwCl (w1 u) t.heap ∧ va_D (va_A wc H.size) (w1 u)) (va_A wc H.size) (Value.ref b :: As).toArray) (va_A wc H.size) :=
  va_runIN hCF (hM H.size) cw ⟨PcK.blind, PcKu hP hD hS hA hE⟩ rfl hn hsize hst (lv_room hW) hdg hf
theorem goN (pre : va_W) (hP : va_P D vwCl (pre ++ (wc ++ [])) H) (hD : va_D A (pre ++ (wc ++ []))) (hS : va_S A s.heap H locs) (hA : ∀ q, s.heap.size ≤ q → A q) (hr : va_Run p l e R s m args below meth c H locs cells slots mc ms (F0 m pc ls st0) rest (va_Qv (fun _ : S => True) (fun u t => va_P D vwCl (w1 u) t.heap ∧ va_D (va_A wc H.size) (w1 u)) (va_A wc H.size) a) (va_A wc H.size))
    (kk : ∀ (u : S) (H1 : Heap) (locs1 : List Loc), va_P D vwCl (pre ++ (w1 u ++ [])) H1 → va_D A (pre ++ (w1 u ++ [])) → va_S A s.heap H1 locs1 → W p l e R s m args below meth c H1 locs1 (cells + mc) (slots + ms) Q (F0 m (pc + 3) ls rest)) : W p l e R s m args below meth c H locs cells slots Q (F0 m pc ls st0) := by
  refine va_callv hr hS (fun q _ h => mid_free hD hS hA q h) (mid_free hD hS hA) (fun u t H1 locs1 ht hvm hw hB hz hk hS1 => ?_)
  rw [ht] at hB
  refine kk u H1 locs1 (P_join hP hD hk hB.1) ?_ hS1
  have hDp : va_D A pre := ⟨fun i j p q hi hj e => hD.1 i j p q ((List.getElem?_append_left (List.getElem?_eq_some_iff.mp hi).1).trans hi) ((List.getElem?_append_left (List.getElem?_eq_some_iff.mp hj).1).trans hj) e, fun k q hk => hD.2 k q ((List.getElem?_append_left (List.getElem?_eq_some_iff.mp hk).1).trans hk)⟩
  rw [List.append_nil]
  refine hDp.app (hB.2.weaken (fun k q _ h => mid_free hD hS hA q.1 h)) (fun i j x z hx hz2 hxz => ?_)
  have hx' := (List.getElem?_append_left (l₂ := wc ++ []) (List.getElem?_eq_some_iff.mp hx).1).trans hx
  have hl := (hP i x hx').lt
  have hA2 := hB.2.2 j z hz2
  rw [← hxz] at hA2
  rcases hA2 with ⟨k2, e2, h⟩ | h
  · have h2 := l_mid pre wc [] k2 (x.1, e2) h
    have h3 := hD.1 i _ x (x.1, e2) hx' h2 rfl
    have h4 := (List.getElem?_eq_some_iff.mp hx).1
    omega
  · omega
theorem enN (u : S) (hx : p.tables.exec = Jvm.exec) (hb : c.code = cc) (hr : meth.sig.returnType = none) (hlocks : meth.locks = false) (hS : va_S A s.heap H locs) (hP : va_P D vwCl (w1 u) H) (hD : va_D A (w1 u)) (hc : cells ≤ mc) (hs : slots ≤ ms) (hdg : decode cc pc = .ok (.return_, 1)) : W p l e R s m args below meth c H locs cells slots (MQ below (va_Qv (fun _ : S => True) (fun u t => va_P D vwCl (w1 u) t.heap ∧ va_D A (w1 u)) A) args s mc ms A) (F0 m pc ls []) :=
  W.widen hc hs (W.vret hx hb hr (fun t ht hW => ⟨⟨u, rfl, trivial, by show va_P D vwCl (w1 u) t.heap; rw [ht]; exact hP, hD⟩, hS.F ht⟩) hS.2.2 hdg hlocks)
end LAYJ
abbrev z0 : Nat → Int32 := fun _ => 0
abbrev z2 : Nat → Nat → Int32 := fun _ _ => 0
def aF (h x y z : Nat) : Nat → Nat := fun j => match j with
  | 0 => h
  | 1 => x
  | 2 => y
  | _ => z
set_option maxRecDepth 100000 in
set_option maxHeartbeats 4000000 in
theorem i_Bars (sa : Nat × Nat × (Nat → Int32)) (tb : Nat → Nat) (D : va_G) (cA cL : ClassId) (l : Launch) (h : Nat) : KI sa tb D cA cL l yX0_init wsX0_init ({ frames := 1, cells := 5, slots := 15, locals := 12 }) [.ref h] [(h, .inr (0, [.int 0, .null, .null, .null, .null, .null]))] (fun (u : Nat → Nat) => wBars cA h u 0 z2) 5 15 := by
  refine KI.of (cc := cX0_init) (maxL := 1) (ret := none) (by decide) rfl (Nat.le_of_ble_eq_true rfl) rfl ?_
  intro pg e s m args below meth c A hx hb hr hml hlocks hts hown hin hS hA hE hP hD ls hl
  have hown : s.vm.findClass RX0 = some m.cls := hown
  have hl : lv_has ls 1 [(0, .ref h)] := hl
  refine lv_aload_n hx hb dX0_init_0 rfl (lv_at hl 0 rfl) ?_
  refine W.objInit hx hb hown (hts (.methodLink RX0 3 objectInit) (List.mem_of_getElem? (i := 1) rfl)) (hts (.instanceMethod objectInit) (List.mem_of_getElem? (i := 2) rfl)) (hts (.code objectInit ⟨#[0xb1]⟩ 1 none) (List.mem_of_getElem? (i := 3) rfl)) rfl (by rw [hml]; exact hl.1) rfl dX0_init_1 (Nat.le_of_ble_eq_true rfl) (Nat.le_of_ble_eq_true rfl) ?_
  refine W.eq (g2 := F0 m 4 ls []) rfl ?_
  refine lv_aload_n hx hb dX0_init_4 rfl (lv_at hl 0 rfl) ?_
  refine lv_iconst (v := 3) hx hb dX0_init_5 (by decide) ?_
  refine r_newI hx hb (hts (.arrayClass .int) (List.mem_of_getElem? (i := 4) rfl)) hE hP hD hS hA 3 (by decide) (by decide) (by decide) (Nat.le_of_ble_eq_true rfl) (Nat.le_of_ble_eq_true rfl) dX0_init_6 (fun q6 H hP hD hS => ?_)
  refine W.widen (k := 1) (n := 3) (Nat.le_refl _) (Nat.le_refl _) ?_
  have hP : va_P D vwCl ([(h, .inr (0, [.int 0, .null, .null, .null, .null, .null])), (q6, I_ cA 3 (fun _ => 0))]) H := hP
  have hD : va_D A ([(h, .inr (0, [.int 0, .null, .null, .null, .null, .null])), (q6, I_ cA 3 (fun _ => 0))]) := hD
  refine va_putF (D := D) (ci := 0) (v := .ref q6) (ty := .array .int) (C := RX0) (T := TX0) (N := 6) hx hb hts (fun _ h => List.mem_cons_of_mem _ (List.mem_append_right _ h)) tyX0 tyX0_ok nmX0 hown hE.K hP hD hS 0 rfl rfl 1 (by decide) (hts (.fieldLink RX0 9 "SedgeBarges$Barges" "place" "[I") (List.mem_of_getElem? (i := 5) rfl)) (fun _ h9 => h9) rfl hin rfl (by decide +kernel) rfl rfl (Nat.le_of_ble_eq_true rfl) dX0_init_8 (fun H locs hP hD hS => ?_)
  have hP : va_P D vwCl ([(h, .inr (0, [.int 0, .ref q6, .null, .null, .null, .null])), (q6, I_ cA 3 (fun _ => 0))]) H := hP
  have hD : va_D A ([(h, .inr (0, [.int 0, .ref q6, .null, .null, .null, .null])), (q6, I_ cA 3 (fun _ => 0))]) := hD
  refine lv_aload_n hx hb dX0_init_11 rfl (lv_at hl 0 rfl) ?_
  refine lv_iconst (v := 3) hx hb dX0_init_12 (by decide) ?_
  refine r_newI hx hb (hts (.arrayClass .int) (List.mem_of_getElem? (i := 4) rfl)) hE hP hD hS hA 3 (by decide) (by decide) (by decide) (Nat.le_of_ble_eq_true rfl) (Nat.le_of_ble_eq_true rfl) dX0_init_13 (fun q13 H hP hD hS => ?_)
  refine W.widen (k := 2) (n := 6) (Nat.le_refl _) (Nat.le_refl _) ?_
  have hP : va_P D vwCl ([(h, .inr (0, [.int 0, .ref q6, .null, .null, .null, .null])), (q6, I_ cA 3 (fun _ => 0)), (q13, I_ cA 3 (fun _ => 0))]) H := hP
  have hD : va_D A ([(h, .inr (0, [.int 0, .ref q6, .null, .null, .null, .null])), (q6, I_ cA 3 (fun _ => 0)), (q13, I_ cA 3 (fun _ => 0))]) := hD
  refine va_putF (D := D) (ci := 0) (v := .ref q13) (ty := .array .int) (C := RX0) (T := TX0) (N := 6) hx hb hts (fun _ h => List.mem_cons_of_mem _ (List.mem_append_right _ h)) tyX0 tyX0_ok nmX0 hown hE.K hP hD hS 0 rfl rfl 2 (by decide) (hts (.fieldLink RX0 15 "SedgeBarges$Barges" "goal" "[I") (List.mem_of_getElem? (i := 6) rfl)) (fun _ h9 => h9) rfl hin rfl (by decide +kernel) rfl rfl (Nat.le_of_ble_eq_true rfl) dX0_init_15 (fun H locs hP hD hS => ?_)
  have hP : va_P D vwCl ([(h, .inr (0, [.int 0, .ref q6, .ref q13, .null, .null, .null])), (q6, I_ cA 3 (fun _ => 0)), (q13, I_ cA 3 (fun _ => 0))]) H := hP
  have hD : va_D A ([(h, .inr (0, [.int 0, .ref q6, .ref q13, .null, .null, .null])), (q6, I_ cA 3 (fun _ => 0)), (q13, I_ cA 3 (fun _ => 0))]) := hD
  refine lv_aload_n hx hb dX0_init_18 rfl (lv_at hl 0 rfl) ?_
  refine lv_iconst (v := 3) hx hb dX0_init_19 (by decide) ?_
  refine r_newI hx hb (hts (.arrayClass .int) (List.mem_of_getElem? (i := 4) rfl)) hE hP hD hS hA 3 (by decide) (by decide) (by decide) (Nat.le_of_ble_eq_true rfl) (Nat.le_of_ble_eq_true rfl) dX0_init_20 (fun q20 H hP hD hS => ?_)
  refine W.widen (k := 3) (n := 9) (Nat.le_refl _) (Nat.le_refl _) ?_
  have hP : va_P D vwCl ([(h, .inr (0, [.int 0, .ref q6, .ref q13, .null, .null, .null])), (q6, I_ cA 3 (fun _ => 0)), (q13, I_ cA 3 (fun _ => 0)), (q20, I_ cA 3 (fun _ => 0))]) H := hP
  have hD : va_D A ([(h, .inr (0, [.int 0, .ref q6, .ref q13, .null, .null, .null])), (q6, I_ cA 3 (fun _ => 0)), (q13, I_ cA 3 (fun _ => 0)), (q20, I_ cA 3 (fun _ => 0))]) := hD
  refine va_putF (D := D) (ci := 0) (v := .ref q20) (ty := .array .int) (C := RX0) (T := TX0) (N := 6) hx hb hts (fun _ h => List.mem_cons_of_mem _ (List.mem_append_right _ h)) tyX0 tyX0_ok nmX0 hown hE.K hP hD hS 0 rfl rfl 3 (by decide) (hts (.fieldLink RX0 18 "SedgeBarges$Barges" "sedge" "[I") (List.mem_of_getElem? (i := 7) rfl)) (fun _ h9 => h9) rfl hin rfl (by decide +kernel) rfl rfl (Nat.le_of_ble_eq_true rfl) dX0_init_22 (fun H locs hP hD hS => ?_)
  have hP : va_P D vwCl ([(h, .inr (0, [.int 0, .ref q6, .ref q13, .ref q20, .null, .null])), (q6, I_ cA 3 (fun _ => 0)), (q13, I_ cA 3 (fun _ => 0)), (q20, I_ cA 3 (fun _ => 0))]) H := hP
  have hD : va_D A ([(h, .inr (0, [.int 0, .ref q6, .ref q13, .ref q20, .null, .null])), (q6, I_ cA 3 (fun _ => 0)), (q13, I_ cA 3 (fun _ => 0)), (q20, I_ cA 3 (fun _ => 0))]) := hD
  refine lv_aload_n hx hb dX0_init_25 rfl (lv_at hl 0 rfl) ?_
  refine lv_iconst (v := 3) hx hb dX0_init_26 (by decide) ?_
  refine r_newI hx hb (hts (.arrayClass .int) (List.mem_of_getElem? (i := 4) rfl)) hE hP hD hS hA 3 (by decide) (by decide) (by decide) (Nat.le_of_ble_eq_true rfl) (Nat.le_of_ble_eq_true rfl) dX0_init_27 (fun q27 H hP hD hS => ?_)
  refine W.widen (k := 4) (n := 12) (Nat.le_refl _) (Nat.le_refl _) ?_
  have hP : va_P D vwCl ([(h, .inr (0, [.int 0, .ref q6, .ref q13, .ref q20, .null, .null])), (q6, I_ cA 3 (fun _ => 0)), (q13, I_ cA 3 (fun _ => 0)), (q20, I_ cA 3 (fun _ => 0)), (q27, I_ cA 3 (fun _ => 0))]) H := hP
  have hD : va_D A ([(h, .inr (0, [.int 0, .ref q6, .ref q13, .ref q20, .null, .null])), (q6, I_ cA 3 (fun _ => 0)), (q13, I_ cA 3 (fun _ => 0)), (q20, I_ cA 3 (fun _ => 0)), (q27, I_ cA 3 (fun _ => 0))]) := hD
  refine va_putF (D := D) (ci := 0) (v := .ref q27) (ty := .array .int) (C := RX0) (T := TX0) (N := 6) hx hb hts (fun _ h => List.mem_cons_of_mem _ (List.mem_append_right _ h)) tyX0 tyX0_ok nmX0 hown hE.K hP hD hS 0 rfl rfl 4 (by decide) (hts (.fieldLink RX0 21 "SedgeBarges$Barges" "reed" "[I") (List.mem_of_getElem? (i := 8) rfl)) (fun _ h9 => h9) rfl hin rfl (by decide +kernel) rfl rfl (Nat.le_of_ble_eq_true rfl) dX0_init_29 (fun H locs hP hD hS => ?_)
  have hP : va_P D vwCl ([(h, .inr (0, [.int 0, .ref q6, .ref q13, .ref q20, .ref q27, .null])), (q6, I_ cA 3 (fun _ => 0)), (q13, I_ cA 3 (fun _ => 0)), (q20, I_ cA 3 (fun _ => 0)), (q27, I_ cA 3 (fun _ => 0))]) H := hP
  have hD : va_D A ([(h, .inr (0, [.int 0, .ref q6, .ref q13, .ref q20, .ref q27, .null])), (q6, I_ cA 3 (fun _ => 0)), (q13, I_ cA 3 (fun _ => 0)), (q20, I_ cA 3 (fun _ => 0)), (q27, I_ cA 3 (fun _ => 0))]) := hD
  refine lv_aload_n hx hb dX0_init_32 rfl (lv_at hl 0 rfl) ?_
  refine lv_iconst (v := 3) hx hb dX0_init_33 (by decide) ?_
  refine r_newI hx hb (hts (.arrayClass .int) (List.mem_of_getElem? (i := 4) rfl)) hE hP hD hS hA 3 (by decide) (by decide) (by decide) (Nat.le_of_ble_eq_true rfl) (Nat.le_of_ble_eq_true rfl) dX0_init_34 (fun q34 H hP hD hS => ?_)
  refine W.widen (k := 5) (n := 15) (Nat.le_refl _) (Nat.le_refl _) ?_
  have hP : va_P D vwCl ([(h, .inr (0, [.int 0, .ref q6, .ref q13, .ref q20, .ref q27, .null])), (q6, I_ cA 3 (fun _ => 0)), (q13, I_ cA 3 (fun _ => 0)), (q20, I_ cA 3 (fun _ => 0)), (q27, I_ cA 3 (fun _ => 0)), (q34, I_ cA 3 (fun _ => 0))]) H := hP
  have hD : va_D A ([(h, .inr (0, [.int 0, .ref q6, .ref q13, .ref q20, .ref q27, .null])), (q6, I_ cA 3 (fun _ => 0)), (q13, I_ cA 3 (fun _ => 0)), (q20, I_ cA 3 (fun _ => 0)), (q27, I_ cA 3 (fun _ => 0)), (q34, I_ cA 3 (fun _ => 0))]) := hD
  refine va_putF (D := D) (ci := 0) (v := .ref q34) (ty := .array .int) (C := RX0) (T := TX0) (N := 6) hx hb hts (fun _ h => List.mem_cons_of_mem _ (List.mem_append_right _ h)) tyX0 tyX0_ok nmX0 hown hE.K hP hD hS 0 rfl rfl 5 (by decide) (hts (.fieldLink RX0 24 "SedgeBarges$Barges" "brought" "[I") (List.mem_of_getElem? (i := 9) rfl)) (fun _ h9 => h9) rfl hin rfl (by decide +kernel) rfl rfl (Nat.le_of_ble_eq_true rfl) dX0_init_36 (fun H locs hP hD hS => ?_)
  have hP : va_P D vwCl ([(h, .inr (0, [.int 0, .ref q6, .ref q13, .ref q20, .ref q27, .ref q34])), (q6, I_ cA 3 (fun _ => 0)), (q13, I_ cA 3 (fun _ => 0)), (q20, I_ cA 3 (fun _ => 0)), (q27, I_ cA 3 (fun _ => 0)), (q34, I_ cA 3 (fun _ => 0))]) H := hP
  have hD : va_D A ([(h, .inr (0, [.int 0, .ref q6, .ref q13, .ref q20, .ref q27, .ref q34])), (q6, I_ cA 3 (fun _ => 0)), (q13, I_ cA 3 (fun _ => 0)), (q20, I_ cA 3 (fun _ => 0)), (q27, I_ cA 3 (fun _ => 0)), (q34, I_ cA 3 (fun _ => 0))]) := hD
  exact enN (w1 := fun (u : Nat → Nat) => wBars cA h u 0 z2) (uF [q6, q13, q20, q27, q34]) hx hb hr hlocks hS hP hD (Nat.le_refl _) (Nat.le_refl _) dX0_init_39
set_option maxRecDepth 100000 in
set_option maxHeartbeats 4000000 in
theorem i_Beds (sa : Nat × Nat × (Nat → Int32)) (tb : Nat → Nat) (D : va_G) (cA cL : ClassId) (l : Launch) (h : Nat) : KI sa tb D cA cL l yX1_init wsX1_init ({ frames := 1, cells := 9, slots := 72, locals := 12 }) [.ref h] [(h, .inr (1, [.int 0, .null, .null, .null, .null, .null, .null, .null, .null, .null]))] (fun (u : Nat → Nat) => wBeds cA h u 0 z2 z0) 9 72 := by
  refine KI.of (cc := cX1_init) (maxL := 1) (ret := none) (by decide) rfl (Nat.le_of_ble_eq_true rfl) rfl ?_
  intro pg e s m args below meth c A hx hb hr hml hlocks hts hown hin hS hA hE hP hD ls hl
  have hown : s.vm.findClass RX1 = some m.cls := hown
  have hl : lv_has ls 1 [(0, .ref h)] := hl
  refine lv_aload_n hx hb dX1_init_0 rfl (lv_at hl 0 rfl) ?_
  refine W.objInit hx hb hown (hts (.methodLink RX1 3 objectInit) (List.mem_of_getElem? (i := 1) rfl)) (hts (.instanceMethod objectInit) (List.mem_of_getElem? (i := 2) rfl)) (hts (.code objectInit ⟨#[0xb1]⟩ 1 none) (List.mem_of_getElem? (i := 3) rfl)) rfl (by rw [hml]; exact hl.1) rfl dX1_init_1 (Nat.le_of_ble_eq_true rfl) (Nat.le_of_ble_eq_true rfl) ?_
  refine W.eq (g2 := F0 m 4 ls []) rfl ?_
  refine lv_aload_n hx hb dX1_init_4 rfl (lv_at hl 0 rfl) ?_
  refine lv_bipush (v := 8) hx hb dX1_init_5 (by decide) ?_
  refine r_newI hx hb (hts (.arrayClass .int) (List.mem_of_getElem? (i := 4) rfl)) hE hP hD hS hA 8 (by decide) (by decide) (by decide) (Nat.le_of_ble_eq_true rfl) (Nat.le_of_ble_eq_true rfl) dX1_init_7 (fun q7 H hP hD hS => ?_)
  refine W.widen (k := 1) (n := 8) (Nat.le_refl _) (Nat.le_refl _) ?_
  have hP : va_P D vwCl ([(h, .inr (1, [.int 0, .null, .null, .null, .null, .null, .null, .null, .null, .null])), (q7, I_ cA 8 (fun _ => 0))]) H := hP
  have hD : va_D A ([(h, .inr (1, [.int 0, .null, .null, .null, .null, .null, .null, .null, .null, .null])), (q7, I_ cA 8 (fun _ => 0))]) := hD
  refine va_putF (D := D) (ci := 1) (v := .ref q7) (ty := .array .int) (C := RX1) (T := TX1) (N := 10) hx hb hts (fun _ h => List.mem_cons_of_mem _ (List.mem_append_right _ h)) tyX1 tyX1_ok nmX1 hown hE.K hP hD hS 0 rfl rfl 1 (by decide) (hts (.fieldLink RX1 9 "SedgeBarges$Beds" "place" "[I") (List.mem_of_getElem? (i := 5) rfl)) (fun _ h9 => h9) rfl hin rfl (by decide +kernel) rfl rfl (Nat.le_of_ble_eq_true rfl) dX1_init_9 (fun H locs hP hD hS => ?_)
  have hP : va_P D vwCl ([(h, .inr (1, [.int 0, .ref q7, .null, .null, .null, .null, .null, .null, .null, .null])), (q7, I_ cA 8 (fun _ => 0))]) H := hP
  have hD : va_D A ([(h, .inr (1, [.int 0, .ref q7, .null, .null, .null, .null, .null, .null, .null, .null])), (q7, I_ cA 8 (fun _ => 0))]) := hD
  refine lv_aload_n hx hb dX1_init_12 rfl (lv_at hl 0 rfl) ?_
  refine lv_bipush (v := 8) hx hb dX1_init_13 (by decide) ?_
  refine r_newI hx hb (hts (.arrayClass .int) (List.mem_of_getElem? (i := 4) rfl)) hE hP hD hS hA 8 (by decide) (by decide) (by decide) (Nat.le_of_ble_eq_true rfl) (Nat.le_of_ble_eq_true rfl) dX1_init_15 (fun q15 H hP hD hS => ?_)
  refine W.widen (k := 2) (n := 16) (Nat.le_refl _) (Nat.le_refl _) ?_
  have hP : va_P D vwCl ([(h, .inr (1, [.int 0, .ref q7, .null, .null, .null, .null, .null, .null, .null, .null])), (q7, I_ cA 8 (fun _ => 0)), (q15, I_ cA 8 (fun _ => 0))]) H := hP
  have hD : va_D A ([(h, .inr (1, [.int 0, .ref q7, .null, .null, .null, .null, .null, .null, .null, .null])), (q7, I_ cA 8 (fun _ => 0)), (q15, I_ cA 8 (fun _ => 0))]) := hD
  refine va_putF (D := D) (ci := 1) (v := .ref q15) (ty := .array .int) (C := RX1) (T := TX1) (N := 10) hx hb hts (fun _ h => List.mem_cons_of_mem _ (List.mem_append_right _ h)) tyX1 tyX1_ok nmX1 hown hE.K hP hD hS 0 rfl rfl 2 (by decide) (hts (.fieldLink RX1 15 "SedgeBarges$Beds" "size" "[I") (List.mem_of_getElem? (i := 6) rfl)) (fun _ h9 => h9) rfl hin rfl (by decide +kernel) rfl rfl (Nat.le_of_ble_eq_true rfl) dX1_init_17 (fun H locs hP hD hS => ?_)
  have hP : va_P D vwCl ([(h, .inr (1, [.int 0, .ref q7, .ref q15, .null, .null, .null, .null, .null, .null, .null])), (q7, I_ cA 8 (fun _ => 0)), (q15, I_ cA 8 (fun _ => 0))]) H := hP
  have hD : va_D A ([(h, .inr (1, [.int 0, .ref q7, .ref q15, .null, .null, .null, .null, .null, .null, .null])), (q7, I_ cA 8 (fun _ => 0)), (q15, I_ cA 8 (fun _ => 0))]) := hD
  refine lv_aload_n hx hb dX1_init_20 rfl (lv_at hl 0 rfl) ?_
  refine lv_bipush (v := 8) hx hb dX1_init_21 (by decide) ?_
  refine r_newI hx hb (hts (.arrayClass .int) (List.mem_of_getElem? (i := 4) rfl)) hE hP hD hS hA 8 (by decide) (by decide) (by decide) (Nat.le_of_ble_eq_true rfl) (Nat.le_of_ble_eq_true rfl) dX1_init_23 (fun q23 H hP hD hS => ?_)
  refine W.widen (k := 3) (n := 24) (Nat.le_refl _) (Nat.le_refl _) ?_
  have hP : va_P D vwCl ([(h, .inr (1, [.int 0, .ref q7, .ref q15, .null, .null, .null, .null, .null, .null, .null])), (q7, I_ cA 8 (fun _ => 0)), (q15, I_ cA 8 (fun _ => 0)), (q23, I_ cA 8 (fun _ => 0))]) H := hP
  have hD : va_D A ([(h, .inr (1, [.int 0, .ref q7, .ref q15, .null, .null, .null, .null, .null, .null, .null])), (q7, I_ cA 8 (fun _ => 0)), (q15, I_ cA 8 (fun _ => 0)), (q23, I_ cA 8 (fun _ => 0))]) := hD
  refine va_putF (D := D) (ci := 1) (v := .ref q23) (ty := .array .int) (C := RX1) (T := TX1) (N := 10) hx hb hts (fun _ h => List.mem_cons_of_mem _ (List.mem_append_right _ h)) tyX1 tyX1_ok nmX1 hown hE.K hP hD hS 0 rfl rfl 3 (by decide) (hts (.fieldLink RX1 18 "SedgeBarges$Beds" "age" "[I") (List.mem_of_getElem? (i := 7) rfl)) (fun _ h9 => h9) rfl hin rfl (by decide +kernel) rfl rfl (Nat.le_of_ble_eq_true rfl) dX1_init_25 (fun H locs hP hD hS => ?_)
  have hP : va_P D vwCl ([(h, .inr (1, [.int 0, .ref q7, .ref q15, .ref q23, .null, .null, .null, .null, .null, .null])), (q7, I_ cA 8 (fun _ => 0)), (q15, I_ cA 8 (fun _ => 0)), (q23, I_ cA 8 (fun _ => 0))]) H := hP
  have hD : va_D A ([(h, .inr (1, [.int 0, .ref q7, .ref q15, .ref q23, .null, .null, .null, .null, .null, .null])), (q7, I_ cA 8 (fun _ => 0)), (q15, I_ cA 8 (fun _ => 0)), (q23, I_ cA 8 (fun _ => 0))]) := hD
  refine lv_aload_n hx hb dX1_init_28 rfl (lv_at hl 0 rfl) ?_
  refine lv_bipush (v := 8) hx hb dX1_init_29 (by decide) ?_
  refine r_newI hx hb (hts (.arrayClass .int) (List.mem_of_getElem? (i := 4) rfl)) hE hP hD hS hA 8 (by decide) (by decide) (by decide) (Nat.le_of_ble_eq_true rfl) (Nat.le_of_ble_eq_true rfl) dX1_init_31 (fun q31 H hP hD hS => ?_)
  refine W.widen (k := 4) (n := 32) (Nat.le_refl _) (Nat.le_refl _) ?_
  have hP : va_P D vwCl ([(h, .inr (1, [.int 0, .ref q7, .ref q15, .ref q23, .null, .null, .null, .null, .null, .null])), (q7, I_ cA 8 (fun _ => 0)), (q15, I_ cA 8 (fun _ => 0)), (q23, I_ cA 8 (fun _ => 0)), (q31, I_ cA 8 (fun _ => 0))]) H := hP
  have hD : va_D A ([(h, .inr (1, [.int 0, .ref q7, .ref q15, .ref q23, .null, .null, .null, .null, .null, .null])), (q7, I_ cA 8 (fun _ => 0)), (q15, I_ cA 8 (fun _ => 0)), (q23, I_ cA 8 (fun _ => 0)), (q31, I_ cA 8 (fun _ => 0))]) := hD
  refine va_putF (D := D) (ci := 1) (v := .ref q31) (ty := .array .int) (C := RX1) (T := TX1) (N := 10) hx hb hts (fun _ h => List.mem_cons_of_mem _ (List.mem_append_right _ h)) tyX1 tyX1_ok nmX1 hown hE.K hP hD hS 0 rfl rfl 4 (by decide) (hts (.fieldLink RX1 21 "SedgeBarges$Beds" "sedge" "[I") (List.mem_of_getElem? (i := 8) rfl)) (fun _ h9 => h9) rfl hin rfl (by decide +kernel) rfl rfl (Nat.le_of_ble_eq_true rfl) dX1_init_33 (fun H locs hP hD hS => ?_)
  have hP : va_P D vwCl ([(h, .inr (1, [.int 0, .ref q7, .ref q15, .ref q23, .ref q31, .null, .null, .null, .null, .null])), (q7, I_ cA 8 (fun _ => 0)), (q15, I_ cA 8 (fun _ => 0)), (q23, I_ cA 8 (fun _ => 0)), (q31, I_ cA 8 (fun _ => 0))]) H := hP
  have hD : va_D A ([(h, .inr (1, [.int 0, .ref q7, .ref q15, .ref q23, .ref q31, .null, .null, .null, .null, .null])), (q7, I_ cA 8 (fun _ => 0)), (q15, I_ cA 8 (fun _ => 0)), (q23, I_ cA 8 (fun _ => 0)), (q31, I_ cA 8 (fun _ => 0))]) := hD
  refine lv_aload_n hx hb dX1_init_36 rfl (lv_at hl 0 rfl) ?_
  refine lv_bipush (v := 8) hx hb dX1_init_37 (by decide) ?_
  refine r_newI hx hb (hts (.arrayClass .int) (List.mem_of_getElem? (i := 4) rfl)) hE hP hD hS hA 8 (by decide) (by decide) (by decide) (Nat.le_of_ble_eq_true rfl) (Nat.le_of_ble_eq_true rfl) dX1_init_39 (fun q39 H hP hD hS => ?_)
  refine W.widen (k := 5) (n := 40) (Nat.le_refl _) (Nat.le_refl _) ?_
  have hP : va_P D vwCl ([(h, .inr (1, [.int 0, .ref q7, .ref q15, .ref q23, .ref q31, .null, .null, .null, .null, .null])), (q7, I_ cA 8 (fun _ => 0)), (q15, I_ cA 8 (fun _ => 0)), (q23, I_ cA 8 (fun _ => 0)), (q31, I_ cA 8 (fun _ => 0)), (q39, I_ cA 8 (fun _ => 0))]) H := hP
  have hD : va_D A ([(h, .inr (1, [.int 0, .ref q7, .ref q15, .ref q23, .ref q31, .null, .null, .null, .null, .null])), (q7, I_ cA 8 (fun _ => 0)), (q15, I_ cA 8 (fun _ => 0)), (q23, I_ cA 8 (fun _ => 0)), (q31, I_ cA 8 (fun _ => 0)), (q39, I_ cA 8 (fun _ => 0))]) := hD
  refine va_putF (D := D) (ci := 1) (v := .ref q39) (ty := .array .int) (C := RX1) (T := TX1) (N := 10) hx hb hts (fun _ h => List.mem_cons_of_mem _ (List.mem_append_right _ h)) tyX1 tyX1_ok nmX1 hown hE.K hP hD hS 0 rfl rfl 5 (by decide) (hts (.fieldLink RX1 24 "SedgeBarges$Beds" "untiedSedge" "[I") (List.mem_of_getElem? (i := 9) rfl)) (fun _ h9 => h9) rfl hin rfl (by decide +kernel) rfl rfl (Nat.le_of_ble_eq_true rfl) dX1_init_41 (fun H locs hP hD hS => ?_)
  have hP : va_P D vwCl ([(h, .inr (1, [.int 0, .ref q7, .ref q15, .ref q23, .ref q31, .ref q39, .null, .null, .null, .null])), (q7, I_ cA 8 (fun _ => 0)), (q15, I_ cA 8 (fun _ => 0)), (q23, I_ cA 8 (fun _ => 0)), (q31, I_ cA 8 (fun _ => 0)), (q39, I_ cA 8 (fun _ => 0))]) H := hP
  have hD : va_D A ([(h, .inr (1, [.int 0, .ref q7, .ref q15, .ref q23, .ref q31, .ref q39, .null, .null, .null, .null])), (q7, I_ cA 8 (fun _ => 0)), (q15, I_ cA 8 (fun _ => 0)), (q23, I_ cA 8 (fun _ => 0)), (q31, I_ cA 8 (fun _ => 0)), (q39, I_ cA 8 (fun _ => 0))]) := hD
  refine lv_aload_n hx hb dX1_init_44 rfl (lv_at hl 0 rfl) ?_
  refine lv_bipush (v := 8) hx hb dX1_init_45 (by decide) ?_
  refine r_newI hx hb (hts (.arrayClass .int) (List.mem_of_getElem? (i := 4) rfl)) hE hP hD hS hA 8 (by decide) (by decide) (by decide) (Nat.le_of_ble_eq_true rfl) (Nat.le_of_ble_eq_true rfl) dX1_init_47 (fun q47 H hP hD hS => ?_)
  refine W.widen (k := 6) (n := 48) (Nat.le_refl _) (Nat.le_refl _) ?_
  have hP : va_P D vwCl ([(h, .inr (1, [.int 0, .ref q7, .ref q15, .ref q23, .ref q31, .ref q39, .null, .null, .null, .null])), (q7, I_ cA 8 (fun _ => 0)), (q15, I_ cA 8 (fun _ => 0)), (q23, I_ cA 8 (fun _ => 0)), (q31, I_ cA 8 (fun _ => 0)), (q39, I_ cA 8 (fun _ => 0)), (q47, I_ cA 8 (fun _ => 0))]) H := hP
  have hD : va_D A ([(h, .inr (1, [.int 0, .ref q7, .ref q15, .ref q23, .ref q31, .ref q39, .null, .null, .null, .null])), (q7, I_ cA 8 (fun _ => 0)), (q15, I_ cA 8 (fun _ => 0)), (q23, I_ cA 8 (fun _ => 0)), (q31, I_ cA 8 (fun _ => 0)), (q39, I_ cA 8 (fun _ => 0)), (q47, I_ cA 8 (fun _ => 0))]) := hD
  refine va_putF (D := D) (ci := 1) (v := .ref q47) (ty := .array .int) (C := RX1) (T := TX1) (N := 10) hx hb hts (fun _ h => List.mem_cons_of_mem _ (List.mem_append_right _ h)) tyX1 tyX1_ok nmX1 hown hE.K hP hD hS 0 rfl rfl 6 (by decide) (hts (.fieldLink RX1 27 "SedgeBarges$Beds" "untiedReed" "[I") (List.mem_of_getElem? (i := 10) rfl)) (fun _ h9 => h9) rfl hin rfl (by decide +kernel) rfl rfl (Nat.le_of_ble_eq_true rfl) dX1_init_49 (fun H locs hP hD hS => ?_)
  have hP : va_P D vwCl ([(h, .inr (1, [.int 0, .ref q7, .ref q15, .ref q23, .ref q31, .ref q39, .ref q47, .null, .null, .null])), (q7, I_ cA 8 (fun _ => 0)), (q15, I_ cA 8 (fun _ => 0)), (q23, I_ cA 8 (fun _ => 0)), (q31, I_ cA 8 (fun _ => 0)), (q39, I_ cA 8 (fun _ => 0)), (q47, I_ cA 8 (fun _ => 0))]) H := hP
  have hD : va_D A ([(h, .inr (1, [.int 0, .ref q7, .ref q15, .ref q23, .ref q31, .ref q39, .ref q47, .null, .null, .null])), (q7, I_ cA 8 (fun _ => 0)), (q15, I_ cA 8 (fun _ => 0)), (q23, I_ cA 8 (fun _ => 0)), (q31, I_ cA 8 (fun _ => 0)), (q39, I_ cA 8 (fun _ => 0)), (q47, I_ cA 8 (fun _ => 0))]) := hD
  refine lv_aload_n hx hb dX1_init_52 rfl (lv_at hl 0 rfl) ?_
  refine lv_bipush (v := 8) hx hb dX1_init_53 (by decide) ?_
  refine r_newI hx hb (hts (.arrayClass .int) (List.mem_of_getElem? (i := 4) rfl)) hE hP hD hS hA 8 (by decide) (by decide) (by decide) (Nat.le_of_ble_eq_true rfl) (Nat.le_of_ble_eq_true rfl) dX1_init_55 (fun q55 H hP hD hS => ?_)
  refine W.widen (k := 7) (n := 56) (Nat.le_refl _) (Nat.le_refl _) ?_
  have hP : va_P D vwCl ([(h, .inr (1, [.int 0, .ref q7, .ref q15, .ref q23, .ref q31, .ref q39, .ref q47, .null, .null, .null])), (q7, I_ cA 8 (fun _ => 0)), (q15, I_ cA 8 (fun _ => 0)), (q23, I_ cA 8 (fun _ => 0)), (q31, I_ cA 8 (fun _ => 0)), (q39, I_ cA 8 (fun _ => 0)), (q47, I_ cA 8 (fun _ => 0)), (q55, I_ cA 8 (fun _ => 0))]) H := hP
  have hD : va_D A ([(h, .inr (1, [.int 0, .ref q7, .ref q15, .ref q23, .ref q31, .ref q39, .ref q47, .null, .null, .null])), (q7, I_ cA 8 (fun _ => 0)), (q15, I_ cA 8 (fun _ => 0)), (q23, I_ cA 8 (fun _ => 0)), (q31, I_ cA 8 (fun _ => 0)), (q39, I_ cA 8 (fun _ => 0)), (q47, I_ cA 8 (fun _ => 0)), (q55, I_ cA 8 (fun _ => 0))]) := hD
  refine va_putF (D := D) (ci := 1) (v := .ref q55) (ty := .array .int) (C := RX1) (T := TX1) (N := 10) hx hb hts (fun _ h => List.mem_cons_of_mem _ (List.mem_append_right _ h)) tyX1 tyX1_ok nmX1 hown hE.K hP hD hS 0 rfl rfl 7 (by decide) (hts (.fieldLink RX1 30 "SedgeBarges$Beds" "tiedSedge" "[I") (List.mem_of_getElem? (i := 11) rfl)) (fun _ h9 => h9) rfl hin rfl (by decide +kernel) rfl rfl (Nat.le_of_ble_eq_true rfl) dX1_init_57 (fun H locs hP hD hS => ?_)
  have hP : va_P D vwCl ([(h, .inr (1, [.int 0, .ref q7, .ref q15, .ref q23, .ref q31, .ref q39, .ref q47, .ref q55, .null, .null])), (q7, I_ cA 8 (fun _ => 0)), (q15, I_ cA 8 (fun _ => 0)), (q23, I_ cA 8 (fun _ => 0)), (q31, I_ cA 8 (fun _ => 0)), (q39, I_ cA 8 (fun _ => 0)), (q47, I_ cA 8 (fun _ => 0)), (q55, I_ cA 8 (fun _ => 0))]) H := hP
  have hD : va_D A ([(h, .inr (1, [.int 0, .ref q7, .ref q15, .ref q23, .ref q31, .ref q39, .ref q47, .ref q55, .null, .null])), (q7, I_ cA 8 (fun _ => 0)), (q15, I_ cA 8 (fun _ => 0)), (q23, I_ cA 8 (fun _ => 0)), (q31, I_ cA 8 (fun _ => 0)), (q39, I_ cA 8 (fun _ => 0)), (q47, I_ cA 8 (fun _ => 0)), (q55, I_ cA 8 (fun _ => 0))]) := hD
  refine lv_aload_n hx hb dX1_init_60 rfl (lv_at hl 0 rfl) ?_
  refine lv_bipush (v := 8) hx hb dX1_init_61 (by decide) ?_
  refine r_newI hx hb (hts (.arrayClass .int) (List.mem_of_getElem? (i := 4) rfl)) hE hP hD hS hA 8 (by decide) (by decide) (by decide) (Nat.le_of_ble_eq_true rfl) (Nat.le_of_ble_eq_true rfl) dX1_init_63 (fun q63 H hP hD hS => ?_)
  refine W.widen (k := 8) (n := 64) (Nat.le_refl _) (Nat.le_refl _) ?_
  have hP : va_P D vwCl ([(h, .inr (1, [.int 0, .ref q7, .ref q15, .ref q23, .ref q31, .ref q39, .ref q47, .ref q55, .null, .null])), (q7, I_ cA 8 (fun _ => 0)), (q15, I_ cA 8 (fun _ => 0)), (q23, I_ cA 8 (fun _ => 0)), (q31, I_ cA 8 (fun _ => 0)), (q39, I_ cA 8 (fun _ => 0)), (q47, I_ cA 8 (fun _ => 0)), (q55, I_ cA 8 (fun _ => 0)), (q63, I_ cA 8 (fun _ => 0))]) H := hP
  have hD : va_D A ([(h, .inr (1, [.int 0, .ref q7, .ref q15, .ref q23, .ref q31, .ref q39, .ref q47, .ref q55, .null, .null])), (q7, I_ cA 8 (fun _ => 0)), (q15, I_ cA 8 (fun _ => 0)), (q23, I_ cA 8 (fun _ => 0)), (q31, I_ cA 8 (fun _ => 0)), (q39, I_ cA 8 (fun _ => 0)), (q47, I_ cA 8 (fun _ => 0)), (q55, I_ cA 8 (fun _ => 0)), (q63, I_ cA 8 (fun _ => 0))]) := hD
  refine va_putF (D := D) (ci := 1) (v := .ref q63) (ty := .array .int) (C := RX1) (T := TX1) (N := 10) hx hb hts (fun _ h => List.mem_cons_of_mem _ (List.mem_append_right _ h)) tyX1 tyX1_ok nmX1 hown hE.K hP hD hS 0 rfl rfl 8 (by decide) (hts (.fieldLink RX1 33 "SedgeBarges$Beds" "tiedReed" "[I") (List.mem_of_getElem? (i := 12) rfl)) (fun _ h9 => h9) rfl hin rfl (by decide +kernel) rfl rfl (Nat.le_of_ble_eq_true rfl) dX1_init_65 (fun H locs hP hD hS => ?_)
  have hP : va_P D vwCl ([(h, .inr (1, [.int 0, .ref q7, .ref q15, .ref q23, .ref q31, .ref q39, .ref q47, .ref q55, .ref q63, .null])), (q7, I_ cA 8 (fun _ => 0)), (q15, I_ cA 8 (fun _ => 0)), (q23, I_ cA 8 (fun _ => 0)), (q31, I_ cA 8 (fun _ => 0)), (q39, I_ cA 8 (fun _ => 0)), (q47, I_ cA 8 (fun _ => 0)), (q55, I_ cA 8 (fun _ => 0)), (q63, I_ cA 8 (fun _ => 0))]) H := hP
  have hD : va_D A ([(h, .inr (1, [.int 0, .ref q7, .ref q15, .ref q23, .ref q31, .ref q39, .ref q47, .ref q55, .ref q63, .null])), (q7, I_ cA 8 (fun _ => 0)), (q15, I_ cA 8 (fun _ => 0)), (q23, I_ cA 8 (fun _ => 0)), (q31, I_ cA 8 (fun _ => 0)), (q39, I_ cA 8 (fun _ => 0)), (q47, I_ cA 8 (fun _ => 0)), (q55, I_ cA 8 (fun _ => 0)), (q63, I_ cA 8 (fun _ => 0))]) := hD
  refine lv_aload_n hx hb dX1_init_68 rfl (lv_at hl 0 rfl) ?_
  refine lv_bipush (v := 8) hx hb dX1_init_69 (by decide) ?_
  refine r_newI hx hb (hts (.arrayClass .int) (List.mem_of_getElem? (i := 4) rfl)) hE hP hD hS hA 8 (by decide) (by decide) (by decide) (Nat.le_of_ble_eq_true rfl) (Nat.le_of_ble_eq_true rfl) dX1_init_71 (fun q71 H hP hD hS => ?_)
  refine W.widen (k := 9) (n := 72) (Nat.le_refl _) (Nat.le_refl _) ?_
  have hP : va_P D vwCl ([(h, .inr (1, [.int 0, .ref q7, .ref q15, .ref q23, .ref q31, .ref q39, .ref q47, .ref q55, .ref q63, .null])), (q7, I_ cA 8 (fun _ => 0)), (q15, I_ cA 8 (fun _ => 0)), (q23, I_ cA 8 (fun _ => 0)), (q31, I_ cA 8 (fun _ => 0)), (q39, I_ cA 8 (fun _ => 0)), (q47, I_ cA 8 (fun _ => 0)), (q55, I_ cA 8 (fun _ => 0)), (q63, I_ cA 8 (fun _ => 0)), (q71, I_ cA 8 (fun _ => 0))]) H := hP
  have hD : va_D A ([(h, .inr (1, [.int 0, .ref q7, .ref q15, .ref q23, .ref q31, .ref q39, .ref q47, .ref q55, .ref q63, .null])), (q7, I_ cA 8 (fun _ => 0)), (q15, I_ cA 8 (fun _ => 0)), (q23, I_ cA 8 (fun _ => 0)), (q31, I_ cA 8 (fun _ => 0)), (q39, I_ cA 8 (fun _ => 0)), (q47, I_ cA 8 (fun _ => 0)), (q55, I_ cA 8 (fun _ => 0)), (q63, I_ cA 8 (fun _ => 0)), (q71, I_ cA 8 (fun _ => 0))]) := hD
  refine va_putF (D := D) (ci := 1) (v := .ref q71) (ty := .array .int) (C := RX1) (T := TX1) (N := 10) hx hb hts (fun _ h => List.mem_cons_of_mem _ (List.mem_append_right _ h)) tyX1 tyX1_ok nmX1 hown hE.K hP hD hS 0 rfl rfl 9 (by decide) (hts (.fieldLink RX1 36 "SedgeBarges$Beds" "change" "[I") (List.mem_of_getElem? (i := 13) rfl)) (fun _ h9 => h9) rfl hin rfl (by decide +kernel) rfl rfl (Nat.le_of_ble_eq_true rfl) dX1_init_73 (fun H locs hP hD hS => ?_)
  have hP : va_P D vwCl ([(h, .inr (1, [.int 0, .ref q7, .ref q15, .ref q23, .ref q31, .ref q39, .ref q47, .ref q55, .ref q63, .ref q71])), (q7, I_ cA 8 (fun _ => 0)), (q15, I_ cA 8 (fun _ => 0)), (q23, I_ cA 8 (fun _ => 0)), (q31, I_ cA 8 (fun _ => 0)), (q39, I_ cA 8 (fun _ => 0)), (q47, I_ cA 8 (fun _ => 0)), (q55, I_ cA 8 (fun _ => 0)), (q63, I_ cA 8 (fun _ => 0)), (q71, I_ cA 8 (fun _ => 0))]) H := hP
  have hD : va_D A ([(h, .inr (1, [.int 0, .ref q7, .ref q15, .ref q23, .ref q31, .ref q39, .ref q47, .ref q55, .ref q63, .ref q71])), (q7, I_ cA 8 (fun _ => 0)), (q15, I_ cA 8 (fun _ => 0)), (q23, I_ cA 8 (fun _ => 0)), (q31, I_ cA 8 (fun _ => 0)), (q39, I_ cA 8 (fun _ => 0)), (q47, I_ cA 8 (fun _ => 0)), (q55, I_ cA 8 (fun _ => 0)), (q63, I_ cA 8 (fun _ => 0)), (q71, I_ cA 8 (fun _ => 0))]) := hD
  exact enN (w1 := fun (u : Nat → Nat) => wBeds cA h u 0 z2 z0) (uF [q7, q15, q23, q31, q39, q47, q55, q63, q71]) hx hb hr hlocks hS hP hD (Nat.le_refl _) (Nat.le_refl _) dX1_init_76
set_option maxRecDepth 100000 in
set_option maxHeartbeats 4000000 in
theorem i_Land (sa : Nat × Nat × (Nat → Int32)) (tb : Nat → Nat) (D : va_G) (cA cL : ClassId) (l : Launch) (h : Nat) : KI sa tb D cA cL l yX2_init wsX2_init ({ frames := 1, cells := 1, slots := 3, locals := 12 }) [.ref h] [(h, .inr (2, [.null]))] (fun (u : Nat) => wLand cA h u z0) 1 3 := by
  refine KI.of (cc := cX2_init) (maxL := 1) (ret := none) (by decide) rfl (Nat.le_of_ble_eq_true rfl) rfl ?_
  intro pg e s m args below meth c A hx hb hr hml hlocks hts hown hin hS hA hE hP hD ls hl
  have hown : s.vm.findClass RX2 = some m.cls := hown
  have hl : lv_has ls 1 [(0, .ref h)] := hl
  refine lv_aload_n hx hb dX2_init_0 rfl (lv_at hl 0 rfl) ?_
  refine W.objInit hx hb hown (hts (.methodLink RX2 3 objectInit) (List.mem_of_getElem? (i := 1) rfl)) (hts (.instanceMethod objectInit) (List.mem_of_getElem? (i := 2) rfl)) (hts (.code objectInit ⟨#[0xb1]⟩ 1 none) (List.mem_of_getElem? (i := 3) rfl)) rfl (by rw [hml]; exact hl.1) rfl dX2_init_1 (Nat.le_of_ble_eq_true rfl) (Nat.le_of_ble_eq_true rfl) ?_
  refine W.eq (g2 := F0 m 4 ls []) rfl ?_
  refine lv_aload_n hx hb dX2_init_4 rfl (lv_at hl 0 rfl) ?_
  refine lv_iconst (v := 3) hx hb dX2_init_5 (by decide) ?_
  refine r_newI hx hb (hts (.arrayClass .int) (List.mem_of_getElem? (i := 4) rfl)) hE hP hD hS hA 3 (by decide) (by decide) (by decide) (Nat.le_of_ble_eq_true rfl) (Nat.le_of_ble_eq_true rfl) dX2_init_6 (fun q6 H hP hD hS => ?_)
  refine W.widen (k := 1) (n := 3) (Nat.le_refl _) (Nat.le_refl _) ?_
  have hP : va_P D vwCl ([(h, .inr (2, [.null])), (q6, I_ cA 3 (fun _ => 0))]) H := hP
  have hD : va_D A ([(h, .inr (2, [.null])), (q6, I_ cA 3 (fun _ => 0))]) := hD
  refine va_putF (D := D) (ci := 2) (v := .ref q6) (ty := .array .int) (C := RX2) (T := TX2) (N := 1) hx hb hts (fun _ h => List.mem_cons_of_mem _ (List.mem_append_right _ h)) tyX2 tyX2_ok nmX2 hown hE.K hP hD hS 0 rfl rfl 0 (by decide) (hts (.fieldLink RX2 9 "SedgeBarges$Landings" "store" "[I") (List.mem_of_getElem? (i := 5) rfl)) (fun _ h9 => h9) rfl hin rfl (by decide +kernel) rfl rfl (Nat.le_of_ble_eq_true rfl) dX2_init_8 (fun H locs hP hD hS => ?_)
  have hP : va_P D vwCl ([(h, .inr (2, [.ref q6])), (q6, I_ cA 3 (fun _ => 0))]) H := hP
  have hD : va_D A ([(h, .inr (2, [.ref q6])), (q6, I_ cA 3 (fun _ => 0))]) := hD
  exact enN (w1 := fun (u : Nat) => wLand cA h u z0) q6 hx hb hr hlocks hS hP hD (Nat.le_refl _) (Nat.le_refl _) dX2_init_11
set_option maxRecDepth 100000 in
set_option maxHeartbeats 4000000 in
theorem i_Way (sa : Nat × Nat × (Nat → Int32)) (tb : Nat → Nat) (D : va_G) (cA cL : ClassId) (l : Launch) (h : Nat) : KI sa tb D cA cL l yX3_init wsX3_init ({ frames := 2, cells := 18, slots := 107, locals := 32 }) [.ref h] [(h, .inr (3, [.int 0, .int 0, .int 0, .int 0, .null, .null, .null]))] (fun (u : Nat × Nat × Nat × (Nat → Nat) × (Nat → Nat) × Nat) => wWay cA (aF h u.1 u.2.1 u.2.2.1) 0 20 100 0 u.2.2.2.1 0 z2 z0 u.2.2.2.2.1 0 z2 u.2.2.2.2.2 z0) 18 107 := by
  refine KI.of (cc := cX3_init) (maxL := 1) (ret := none) (by decide) rfl (Nat.le_of_ble_eq_true rfl) rfl ?_
  intro pg e s m args below meth c A hx hb hr hml hlocks hts hown hin hS hA hE hP hD ls hl
  have hown : s.vm.findClass RX3 = some m.cls := hown
  have hl : lv_has ls 1 [(0, .ref h)] := hl
  refine lv_aload_n hx hb dX3_init_0 rfl (lv_at hl 0 rfl) ?_
  refine W.objInit hx hb hown (hts (.methodLink RX3 3 objectInit) (List.mem_of_getElem? (i := 1) rfl)) (hts (.instanceMethod objectInit) (List.mem_of_getElem? (i := 2) rfl)) (hts (.code objectInit ⟨#[0xb1]⟩ 1 none) (List.mem_of_getElem? (i := 3) rfl)) rfl (by rw [hml]; exact hl.1) rfl dX3_init_1 (Nat.le_of_ble_eq_true rfl) (Nat.le_of_ble_eq_true rfl) ?_
  refine W.eq (g2 := F0 m 4 ls []) rfl ?_
  refine lv_aload_n hx hb dX3_init_4 rfl (lv_at hl 0 rfl) ?_
  refine lv_bipush (v := 20) hx hb dX3_init_5 (by decide) ?_
  refine va_put (D := D) (ci := 3) (v := .int 20) (ty := .int) (C := RX3) (T := TX3) (N := 7) hx hb hts (fun _ h => List.mem_cons_of_mem _ (List.mem_append_left _ (List.mem_append_left _ (List.mem_append_left _ (List.mem_append_right _ h))))) tyX3 tyX3_ok nmX3 hown hE.K hP hD hS 0 rfl rfl 1 (by decide) (hts (.fieldLink RX3 9 "SedgeBarges$Waterway" "coins" "I") (List.mem_of_getElem? (i := 4) rfl)) (fun _ h9 => h9) rfl (by decide +kernel) rfl rfl (Nat.le_of_ble_eq_true rfl) dX3_init_7 (fun H locs hP hD hS => ?_)
  have hP : va_P D vwCl ([(h, .inr (3, [.int 0, .int 20, .int 0, .int 0, .null, .null, .null]))]) H := hP
  have hD : va_D A ([(h, .inr (3, [.int 0, .int 20, .int 0, .int 0, .null, .null, .null]))]) := hD
  refine lv_aload_n hx hb dX3_init_10 rfl (lv_at hl 0 rfl) ?_
  refine lv_bipush (v := 100) hx hb dX3_init_11 (by decide) ?_
  refine va_put (D := D) (ci := 3) (v := .int 100) (ty := .int) (C := RX3) (T := TX3) (N := 7) hx hb hts (fun _ h => List.mem_cons_of_mem _ (List.mem_append_left _ (List.mem_append_left _ (List.mem_append_left _ (List.mem_append_right _ h))))) tyX3 tyX3_ok nmX3 hown hE.K hP hD hS 0 rfl rfl 2 (by decide) (hts (.fieldLink RX3 15 "SedgeBarges$Waterway" "ties" "I") (List.mem_of_getElem? (i := 5) rfl)) (fun _ h9 => h9) rfl (by decide +kernel) rfl rfl (Nat.le_of_ble_eq_true rfl) dX3_init_13 (fun H locs hP hD hS => ?_)
  have hP : va_P D vwCl ([(h, .inr (3, [.int 0, .int 20, .int 100, .int 0, .null, .null, .null]))]) H := hP
  have hD : va_D A ([(h, .inr (3, [.int 0, .int 20, .int 100, .int 0, .null, .null, .null]))]) := hD
  refine lv_aload_n hx hb dX3_init_16 rfl (lv_at hl 0 rfl) ?_
  refine va_new (ci := 1) (fs := [.int 0, .null, .null, .null, .null, .null, .null, .null, .null, .null]) (C := RX1) (T := TX1) (N := 10) hx hb hts (fun _ h => List.mem_cons_of_mem _ (List.mem_append_left _ (List.mem_append_left _ (List.mem_append_right _ h)))) tyX1 tyX1_ok hown (hts (.classLink RX3 18 RX1) (List.mem_of_getElem? (i := 6) rfl)) (hts (.instantiable RX1 10) (List.mem_of_getElem? (i := 7) rfl)) (hts (.initialized RX1) (List.mem_of_getElem? (i := 8) rfl)) hE.K hP hD hS hA rfl (fun j hj => by rcases (show j = 0 ∨ j = 1 ∨ j = 2 ∨ j = 3 ∨ j = 4 ∨ j = 5 ∨ j = 6 ∨ j = 7 ∨ j = 8 ∨ j = 9 by omega) with rfl | rfl | rfl | rfl | rfl | rfl | rfl | rfl | rfl | rfl <;> rfl) (Nat.le_of_ble_eq_true rfl) (Nat.le_of_ble_eq_true rfl) dX3_init_17 (fun q17 H hP hD hS => ?_)
  refine W.widen (k := 1) (n := 10) (Nat.le_refl _) (Nat.le_refl _) ?_
  have hP : va_P D vwCl ([(h, .inr (3, [.int 0, .int 20, .int 100, .int 0, .null, .null, .null])), (q17, .inr (1, [.int 0, .null, .null, .null, .null, .null, .null, .null, .null, .null]))]) H := hP
  have hD : va_D A ([(h, .inr (3, [.int 0, .int 20, .int 100, .int 0, .null, .null, .null])), (q17, .inr (1, [.int 0, .null, .null, .null, .null, .null, .null, .null, .null, .null]))]) := hD
  refine lv_dup hx hb dX3_init_20 rfl ?_
  refine goN ([(h, .inr (3, [.int 0, .int 20, .int 100, .int 0, .null, .null, .null]))]) hP hD hS hA (rnIN (rest := [.ref q17, .ref h]) (i_Beds sa tb D cA cL l q17) ([(h, .inr (3, [.int 0, .int 20, .int 100, .int 0, .null, .null, .null]))]) hP hD hS hA hE ⟨hx, hb, hml, hown, hts⟩ ⟨va_cnB 0 hts gX3_init_X1_init_n20 rfl rfl rfl (nm_4 hE) (hts (.initialized RX1) (List.mem_of_getElem? (i := 8) rfl)) (by decide +kernel) ⟨(Nat.le_of_ble_eq_true rfl), (Nat.le_of_ble_eq_true rfl)⟩, rfl, hts (.instanceMethod yX1_init) (List.mem_of_getElem? (i := 18) rfl)⟩ rfl hl.1 rfl (Nat.le_of_ble_eq_true rfl) dX3_init_21 ⟨(Nat.le_of_ble_eq_true rfl), (Nat.le_of_ble_eq_true rfl)⟩) (fun u21 H locs hP hD hS => ?_)
  refine W.widen (k := 10) (n := 82) (Nat.le_refl _) (Nat.le_refl _) ?_
  have hP : va_P D vwCl ([(h, .inr (3, [.int 0, .int 20, .int 100, .int 0, .null, .null, .null]))] ++ ((wBeds cA q17 u21 0 z2 z0))) H := hP
  have hD : va_D A ([(h, .inr (3, [.int 0, .int 20, .int 100, .int 0, .null, .null, .null]))] ++ ((wBeds cA q17 u21 0 z2 z0))) := hD
  refine va_putF (D := D) (ci := 3) (v := .ref q17) (ty := .object "SedgeBarges$Beds") (C := RX3) (T := TX3) (N := 7) hx hb hts (fun _ h => List.mem_cons_of_mem _ (List.mem_append_left _ (List.mem_append_left _ (List.mem_append_left _ (List.mem_append_right _ h))))) tyX3 tyX3_ok nmX3 hown hE.K hP hD hS 0 rfl rfl 4 (by decide) (hts (.fieldLink RX3 21 "SedgeBarges$Waterway" "beds" "LSedgeBarges$Beds;") (List.mem_of_getElem? (i := 9) rfl)) (fun _ h9 => h9) rfl hin rfl (by decide +kernel) rfl rfl (Nat.le_of_ble_eq_true rfl) dX3_init_24 (fun H locs hP hD hS => ?_)
  have hP : va_P D vwCl ([(h, .inr (3, [.int 0, .int 20, .int 100, .int 0, .ref q17, .null, .null]))] ++ ((wBeds cA q17 u21 0 z2 z0))) H := hP
  have hD : va_D A ([(h, .inr (3, [.int 0, .int 20, .int 100, .int 0, .ref q17, .null, .null]))] ++ ((wBeds cA q17 u21 0 z2 z0))) := hD
  refine lv_aload_n hx hb dX3_init_27 rfl (lv_at hl 0 rfl) ?_
  refine va_new (ci := 0) (fs := [.int 0, .null, .null, .null, .null, .null]) (C := RX0) (T := TX0) (N := 6) hx hb hts (fun _ h => List.mem_cons_of_mem _ (List.mem_append_left _ (List.mem_append_right _ h))) tyX0 tyX0_ok hown (hts (.classLink RX3 25 RX0) (List.mem_of_getElem? (i := 10) rfl)) (hts (.instantiable RX0 6) (List.mem_of_getElem? (i := 11) rfl)) (hts (.initialized RX0) (List.mem_of_getElem? (i := 12) rfl)) hE.K hP hD hS hA rfl (fun j hj => by rcases (show j = 0 ∨ j = 1 ∨ j = 2 ∨ j = 3 ∨ j = 4 ∨ j = 5 by omega) with rfl | rfl | rfl | rfl | rfl | rfl <;> rfl) (Nat.le_of_ble_eq_true rfl) (Nat.le_of_ble_eq_true rfl) dX3_init_28 (fun q28 H hP hD hS => ?_)
  refine W.widen (k := 11) (n := 88) (Nat.le_refl _) (Nat.le_refl _) ?_
  have hP : va_P D vwCl ([(h, .inr (3, [.int 0, .int 20, .int 100, .int 0, .ref q17, .null, .null]))] ++ ((wBeds cA q17 u21 0 z2 z0) ++ ([(q28, .inr (0, [.int 0, .null, .null, .null, .null, .null]))]))) H := hP
  have hD : va_D A ([(h, .inr (3, [.int 0, .int 20, .int 100, .int 0, .ref q17, .null, .null]))] ++ ((wBeds cA q17 u21 0 z2 z0) ++ ([(q28, .inr (0, [.int 0, .null, .null, .null, .null, .null]))]))) := hD
  refine lv_dup hx hb dX3_init_31 rfl ?_
  refine goN ([(h, .inr (3, [.int 0, .int 20, .int 100, .int 0, .ref q17, .null, .null]))] ++ ((wBeds cA q17 u21 0 z2 z0))) hP hD hS hA (rnIN (rest := [.ref q28, .ref h]) (i_Bars sa tb D cA cL l q28) ([(h, .inr (3, [.int 0, .int 20, .int 100, .int 0, .ref q17, .null, .null]))] ++ ((wBeds cA q17 u21 0 z2 z0))) hP hD hS hA hE ⟨hx, hb, hml, hown, hts⟩ ⟨va_cnB 0 hts gX3_init_X0_init_n27 rfl rfl rfl (nm_5 hE) (hts (.initialized RX0) (List.mem_of_getElem? (i := 12) rfl)) (by decide +kernel) ⟨(Nat.le_of_ble_eq_true rfl), (Nat.le_of_ble_eq_true rfl)⟩, rfl, hts (.instanceMethod yX0_init) (List.mem_of_getElem? (i := 31) rfl)⟩ rfl hl.1 rfl (Nat.le_of_ble_eq_true rfl) dX3_init_32 ⟨(Nat.le_of_ble_eq_true rfl), (Nat.le_of_ble_eq_true rfl)⟩) (fun u32 H locs hP hD hS => ?_)
  refine W.widen (k := 16) (n := 103) (Nat.le_refl _) (Nat.le_refl _) ?_
  have hP : va_P D vwCl ([(h, .inr (3, [.int 0, .int 20, .int 100, .int 0, .ref q17, .null, .null]))] ++ ((wBeds cA q17 u21 0 z2 z0) ++ ((wBars cA q28 u32 0 z2)))) H := hP
  have hD : va_D A ([(h, .inr (3, [.int 0, .int 20, .int 100, .int 0, .ref q17, .null, .null]))] ++ ((wBeds cA q17 u21 0 z2 z0) ++ ((wBars cA q28 u32 0 z2)))) := hD
  refine va_putF (D := D) (ci := 3) (v := .ref q28) (ty := .object "SedgeBarges$Barges") (C := RX3) (T := TX3) (N := 7) hx hb hts (fun _ h => List.mem_cons_of_mem _ (List.mem_append_left _ (List.mem_append_left _ (List.mem_append_left _ (List.mem_append_right _ h))))) tyX3 tyX3_ok nmX3 hown hE.K hP hD hS 0 rfl rfl 5 (by decide) (hts (.fieldLink RX3 28 "SedgeBarges$Waterway" "barges" "LSedgeBarges$Barges;") (List.mem_of_getElem? (i := 13) rfl)) (fun _ h9 => h9) rfl hin rfl (by decide +kernel) rfl rfl (Nat.le_of_ble_eq_true rfl) dX3_init_35 (fun H locs hP hD hS => ?_)
  have hP : va_P D vwCl ([(h, .inr (3, [.int 0, .int 20, .int 100, .int 0, .ref q17, .ref q28, .null]))] ++ ((wBeds cA q17 u21 0 z2 z0) ++ ((wBars cA q28 u32 0 z2)))) H := hP
  have hD : va_D A ([(h, .inr (3, [.int 0, .int 20, .int 100, .int 0, .ref q17, .ref q28, .null]))] ++ ((wBeds cA q17 u21 0 z2 z0) ++ ((wBars cA q28 u32 0 z2)))) := hD
  refine lv_aload_n hx hb dX3_init_38 rfl (lv_at hl 0 rfl) ?_
  refine va_new (ci := 2) (fs := [.null]) (C := RX2) (T := TX2) (N := 1) hx hb hts (fun _ h => List.mem_cons_of_mem _ (List.mem_append_right _ h)) tyX2 tyX2_ok hown (hts (.classLink RX3 32 RX2) (List.mem_of_getElem? (i := 14) rfl)) (hts (.instantiable RX2 1) (List.mem_of_getElem? (i := 15) rfl)) (hts (.initialized RX2) (List.mem_of_getElem? (i := 16) rfl)) hE.K hP hD hS hA rfl (fun j hj => by rcases (show j = 0 by omega) with rfl <;> rfl) (Nat.le_of_ble_eq_true rfl) (Nat.le_of_ble_eq_true rfl) dX3_init_39 (fun q39 H hP hD hS => ?_)
  refine W.widen (k := 17) (n := 104) (Nat.le_refl _) (Nat.le_refl _) ?_
  have hP : va_P D vwCl ([(h, .inr (3, [.int 0, .int 20, .int 100, .int 0, .ref q17, .ref q28, .null]))] ++ ((wBeds cA q17 u21 0 z2 z0) ++ ((wBars cA q28 u32 0 z2) ++ ([(q39, .inr (2, [.null]))])))) H := hP
  have hD : va_D A ([(h, .inr (3, [.int 0, .int 20, .int 100, .int 0, .ref q17, .ref q28, .null]))] ++ ((wBeds cA q17 u21 0 z2 z0) ++ ((wBars cA q28 u32 0 z2) ++ ([(q39, .inr (2, [.null]))])))) := hD
  refine lv_dup hx hb dX3_init_42 rfl ?_
  refine goN ([(h, .inr (3, [.int 0, .int 20, .int 100, .int 0, .ref q17, .ref q28, .null]))] ++ ((wBeds cA q17 u21 0 z2 z0) ++ ((wBars cA q28 u32 0 z2)))) hP hD hS hA (rnIN (rest := [.ref q39, .ref h]) (i_Land sa tb D cA cL l q39) ([(h, .inr (3, [.int 0, .int 20, .int 100, .int 0, .ref q17, .ref q28, .null]))] ++ ((wBeds cA q17 u21 0 z2 z0) ++ ((wBars cA q28 u32 0 z2)))) hP hD hS hA hE ⟨hx, hb, hml, hown, hts⟩ ⟨va_cnB 0 hts gX3_init_X2_init_n34 rfl rfl rfl (nm_6 hE) (hts (.initialized RX2) (List.mem_of_getElem? (i := 16) rfl)) (by decide +kernel) ⟨(Nat.le_of_ble_eq_true rfl), (Nat.le_of_ble_eq_true rfl)⟩, rfl, hts (.instanceMethod yX2_init) (List.mem_of_getElem? (i := 39) rfl)⟩ rfl hl.1 rfl (Nat.le_of_ble_eq_true rfl) dX3_init_43 ⟨(Nat.le_of_ble_eq_true rfl), (Nat.le_of_ble_eq_true rfl)⟩) (fun u43 H locs hP hD hS => ?_)
  refine W.widen (k := 18) (n := 107) (Nat.le_refl _) (Nat.le_refl _) ?_
  have hP : va_P D vwCl ([(h, .inr (3, [.int 0, .int 20, .int 100, .int 0, .ref q17, .ref q28, .null]))] ++ ((wBeds cA q17 u21 0 z2 z0) ++ ((wBars cA q28 u32 0 z2) ++ ((wLand cA q39 u43 z0))))) H := hP
  have hD : va_D A ([(h, .inr (3, [.int 0, .int 20, .int 100, .int 0, .ref q17, .ref q28, .null]))] ++ ((wBeds cA q17 u21 0 z2 z0) ++ ((wBars cA q28 u32 0 z2) ++ ((wLand cA q39 u43 z0))))) := hD
  refine va_putF (D := D) (ci := 3) (v := .ref q39) (ty := .object "SedgeBarges$Landings") (C := RX3) (T := TX3) (N := 7) hx hb hts (fun _ h => List.mem_cons_of_mem _ (List.mem_append_left _ (List.mem_append_left _ (List.mem_append_left _ (List.mem_append_right _ h))))) tyX3 tyX3_ok nmX3 hown hE.K hP hD hS 0 rfl rfl 6 (by decide) (hts (.fieldLink RX3 35 "SedgeBarges$Waterway" "landings" "LSedgeBarges$Landings;") (List.mem_of_getElem? (i := 17) rfl)) (fun _ h9 => h9) rfl hin rfl (by decide +kernel) rfl rfl (Nat.le_of_ble_eq_true rfl) dX3_init_46 (fun H locs hP hD hS => ?_)
  have hP : va_P D vwCl ([(h, .inr (3, [.int 0, .int 20, .int 100, .int 0, .ref q17, .ref q28, .ref q39]))] ++ ((wBeds cA q17 u21 0 z2 z0) ++ ((wBars cA q28 u32 0 z2) ++ ((wLand cA q39 u43 z0))))) H := hP
  have hD : va_D A ([(h, .inr (3, [.int 0, .int 20, .int 100, .int 0, .ref q17, .ref q28, .ref q39]))] ++ ((wBeds cA q17 u21 0 z2 z0) ++ ((wBars cA q28 u32 0 z2) ++ ((wLand cA q39 u43 z0))))) := hD
  exact enN (w1 := fun (u : Nat × Nat × Nat × (Nat → Nat) × (Nat → Nat) × Nat) => wWay cA (aF h u.1 u.2.1 u.2.2.1) 0 20 100 0 u.2.2.2.1 0 z2 z0 u.2.2.2.2.1 0 z2 u.2.2.2.2.2 z0) (q17, q28, q39, u21, u32, u43) hx hb hr hlocks hS hP hD (Nat.le_refl _) (Nat.le_refl _) dX3_init_49
set_option maxRecDepth 100000 in
set_option maxHeartbeats 4000000 in
theorem i_X (sa : Nat × Nat × (Nat → Int32)) (tb : Nat → Nat) (D : va_G) (cA cL : ClassId) (l : Launch) (h : Nat) : KI sa tb D cA cL l yX4_init wsX4_init ({ frames := 3, cells := 38, slots := 228, locals := 52 }) [.ref h] [(h, .inr (4, [.null, .null]))] (fun (u : Nat × Nat × (Nat × Nat × Nat × (Nat → Nat) × (Nat → Nat) × Nat) × (Nat × Nat × Nat × (Nat → Nat) × (Nat → Nat) × Nat)) => wX cA h (aF u.1 u.2.2.1.1 u.2.2.1.2.1 u.2.2.1.2.2.1) 0 20 100 0 u.2.2.1.2.2.2.1 0 z2 z0 u.2.2.1.2.2.2.2.1 0 z2 u.2.2.1.2.2.2.2.2 z0 (aF u.2.1 u.2.2.2.1 u.2.2.2.2.1 u.2.2.2.2.2.1) 0 20 100 0 u.2.2.2.2.2.2.1 0 z2 z0 u.2.2.2.2.2.2.2.1 0 z2 u.2.2.2.2.2.2.2.2 z0) 38 228 := by
  refine KI.of (cc := cX4_init) (maxL := 1) (ret := none) (by decide) rfl (Nat.le_of_ble_eq_true rfl) rfl ?_
  intro pg e s m args below meth c A hx hb hr hml hlocks hts hown hin hS hA hE hP hD ls hl
  have hown : s.vm.findClass RX4 = some m.cls := hown
  have hl : lv_has ls 1 [(0, .ref h)] := hl
  refine lv_aload_n hx hb dX4_init_0 rfl (lv_at hl 0 rfl) ?_
  refine W.objInit hx hb hown (hts (.methodLink RX4 1 objectInit) (List.mem_of_getElem? (i := 1) rfl)) (hts (.instanceMethod objectInit) (List.mem_of_getElem? (i := 2) rfl)) (hts (.code objectInit ⟨#[0xb1]⟩ 1 none) (List.mem_of_getElem? (i := 3) rfl)) rfl (by rw [hml]; exact hl.1) rfl dX4_init_1 (Nat.le_of_ble_eq_true rfl) (Nat.le_of_ble_eq_true rfl) ?_
  refine W.eq (g2 := F0 m 4 ls []) rfl ?_
  refine lv_aload_n hx hb dX4_init_4 rfl (lv_at hl 0 rfl) ?_
  refine va_new (ci := 3) (fs := [.int 0, .int 0, .int 0, .int 0, .null, .null, .null]) (C := RX3) (T := TX3) (N := 7) hx hb hts (fun _ h => List.mem_cons_of_mem _ (List.mem_append_left _ (List.mem_append_left _ (List.mem_append_left _ (List.mem_append_left _ (List.mem_append_right _ h)))))) tyX3 tyX3_ok hown (hts (.classLink RX4 7 RX3) (List.mem_of_getElem? (i := 4) rfl)) (hts (.instantiable RX3 7) (List.mem_of_getElem? (i := 5) rfl)) (hts (.initialized RX3) (List.mem_of_getElem? (i := 6) rfl)) hE.K hP hD hS hA rfl (fun j hj => by rcases (show j = 0 ∨ j = 1 ∨ j = 2 ∨ j = 3 ∨ j = 4 ∨ j = 5 ∨ j = 6 by omega) with rfl | rfl | rfl | rfl | rfl | rfl | rfl <;> rfl) (Nat.le_of_ble_eq_true rfl) (Nat.le_of_ble_eq_true rfl) dX4_init_5 (fun q5 H hP hD hS => ?_)
  refine W.widen (k := 1) (n := 7) (Nat.le_refl _) (Nat.le_refl _) ?_
  have hP : va_P D vwCl ([(h, .inr (4, [.null, .null])), (q5, .inr (3, [.int 0, .int 0, .int 0, .int 0, .null, .null, .null]))]) H := hP
  have hD : va_D A ([(h, .inr (4, [.null, .null])), (q5, .inr (3, [.int 0, .int 0, .int 0, .int 0, .null, .null, .null]))]) := hD
  refine lv_dup hx hb dX4_init_8 rfl ?_
  refine goN ([(h, .inr (4, [.null, .null]))]) hP hD hS hA (rnIN (rest := [.ref q5, .ref h]) (i_Way sa tb D cA cL l q5) ([(h, .inr (4, [.null, .null]))]) hP hD hS hA hE ⟨hx, hb, hml, hown, hts⟩ ⟨va_cnB 0 hts gX4_init_X3_init_n9 rfl rfl rfl (nm_0 hE) (hts (.initialized RX3) (List.mem_of_getElem? (i := 6) rfl)) (by decide +kernel) ⟨(Nat.le_of_ble_eq_true rfl), (Nat.le_of_ble_eq_true rfl)⟩, rfl, hts (.instanceMethod yX3_init) (List.mem_of_getElem? (i := 9) rfl)⟩ rfl hl.1 rfl (Nat.le_of_ble_eq_true rfl) dX4_init_9 ⟨(Nat.le_of_ble_eq_true rfl), (Nat.le_of_ble_eq_true rfl)⟩) (fun u9 H locs hP hD hS => ?_)
  refine W.widen (k := 19) (n := 114) (Nat.le_refl _) (Nat.le_refl _) ?_
  have hP : va_P D vwCl ([(h, .inr (4, [.null, .null]))] ++ ((wWay cA (aF q5 u9.1 u9.2.1 u9.2.2.1) 0 20 100 0 u9.2.2.2.1 0 z2 z0 u9.2.2.2.2.1 0 z2 u9.2.2.2.2.2 z0))) H := hP
  have hD : va_D A ([(h, .inr (4, [.null, .null]))] ++ ((wWay cA (aF q5 u9.1 u9.2.1 u9.2.2.1) 0 20 100 0 u9.2.2.2.1 0 z2 z0 u9.2.2.2.2.1 0 z2 u9.2.2.2.2.2 z0))) := hD
  refine va_putF (D := D) (ci := 4) (v := .ref q5) (ty := .object "SedgeBarges$Waterway") (C := RX4) (T := TX4) (N := 2) hx hb hts (fun _ h => List.mem_cons_of_mem _ (List.mem_append_left _ (List.mem_append_left _ (List.mem_append_left _ (List.mem_append_right _ h))))) tyX4 tyX4_ok nmX4 hown hE.K hP hD hS 0 rfl rfl 0 (by decide) (hts (.fieldLink RX4 10 "SedgeBarges" "now" "LSedgeBarges$Waterway;") (List.mem_of_getElem? (i := 7) rfl)) (fun _ h9 => h9) rfl hin rfl (by decide +kernel) rfl rfl (Nat.le_of_ble_eq_true rfl) dX4_init_12 (fun H locs hP hD hS => ?_)
  have hP : va_P D vwCl ([(h, .inr (4, [.ref q5, .null]))] ++ ((wWay cA (aF q5 u9.1 u9.2.1 u9.2.2.1) 0 20 100 0 u9.2.2.2.1 0 z2 z0 u9.2.2.2.2.1 0 z2 u9.2.2.2.2.2 z0))) H := hP
  have hD : va_D A ([(h, .inr (4, [.ref q5, .null]))] ++ ((wWay cA (aF q5 u9.1 u9.2.1 u9.2.2.1) 0 20 100 0 u9.2.2.2.1 0 z2 z0 u9.2.2.2.2.1 0 z2 u9.2.2.2.2.2 z0))) := hD
  refine lv_aload_n hx hb dX4_init_15 rfl (lv_at hl 0 rfl) ?_
  refine va_new (ci := 3) (fs := [.int 0, .int 0, .int 0, .int 0, .null, .null, .null]) (C := RX3) (T := TX3) (N := 7) hx hb hts (fun _ h => List.mem_cons_of_mem _ (List.mem_append_left _ (List.mem_append_left _ (List.mem_append_left _ (List.mem_append_left _ (List.mem_append_right _ h)))))) tyX3 tyX3_ok hown (hts (.classLink RX4 7 RX3) (List.mem_of_getElem? (i := 4) rfl)) (hts (.instantiable RX3 7) (List.mem_of_getElem? (i := 5) rfl)) (hts (.initialized RX3) (List.mem_of_getElem? (i := 6) rfl)) hE.K hP hD hS hA rfl (fun j hj => by rcases (show j = 0 ∨ j = 1 ∨ j = 2 ∨ j = 3 ∨ j = 4 ∨ j = 5 ∨ j = 6 by omega) with rfl | rfl | rfl | rfl | rfl | rfl | rfl <;> rfl) (Nat.le_of_ble_eq_true rfl) (Nat.le_of_ble_eq_true rfl) dX4_init_16 (fun q16 H hP hD hS => ?_)
  refine W.widen (k := 20) (n := 121) (Nat.le_refl _) (Nat.le_refl _) ?_
  have hP : va_P D vwCl ([(h, .inr (4, [.ref q5, .null]))] ++ ((wWay cA (aF q5 u9.1 u9.2.1 u9.2.2.1) 0 20 100 0 u9.2.2.2.1 0 z2 z0 u9.2.2.2.2.1 0 z2 u9.2.2.2.2.2 z0) ++ ([(q16, .inr (3, [.int 0, .int 0, .int 0, .int 0, .null, .null, .null]))]))) H := hP
  have hD : va_D A ([(h, .inr (4, [.ref q5, .null]))] ++ ((wWay cA (aF q5 u9.1 u9.2.1 u9.2.2.1) 0 20 100 0 u9.2.2.2.1 0 z2 z0 u9.2.2.2.2.1 0 z2 u9.2.2.2.2.2 z0) ++ ([(q16, .inr (3, [.int 0, .int 0, .int 0, .int 0, .null, .null, .null]))]))) := hD
  refine lv_dup hx hb dX4_init_19 rfl ?_
  refine goN ([(h, .inr (4, [.ref q5, .null]))] ++ ((wWay cA (aF q5 u9.1 u9.2.1 u9.2.2.1) 0 20 100 0 u9.2.2.2.1 0 z2 z0 u9.2.2.2.2.1 0 z2 u9.2.2.2.2.2 z0))) hP hD hS hA (rnIN (rest := [.ref q16, .ref h]) (i_Way sa tb D cA cL l q16) ([(h, .inr (4, [.ref q5, .null]))] ++ ((wWay cA (aF q5 u9.1 u9.2.1 u9.2.2.1) 0 20 100 0 u9.2.2.2.1 0 z2 z0 u9.2.2.2.2.1 0 z2 u9.2.2.2.2.2 z0))) hP hD hS hA hE ⟨hx, hb, hml, hown, hts⟩ ⟨va_cnB 0 hts gX4_init_X3_init_n9 rfl rfl rfl (nm_0 hE) (hts (.initialized RX3) (List.mem_of_getElem? (i := 6) rfl)) (by decide +kernel) ⟨(Nat.le_of_ble_eq_true rfl), (Nat.le_of_ble_eq_true rfl)⟩, rfl, hts (.instanceMethod yX3_init) (List.mem_of_getElem? (i := 9) rfl)⟩ rfl hl.1 rfl (Nat.le_of_ble_eq_true rfl) dX4_init_20 ⟨(Nat.le_of_ble_eq_true rfl), (Nat.le_of_ble_eq_true rfl)⟩) (fun u20 H locs hP hD hS => ?_)
  refine W.widen (k := 38) (n := 228) (Nat.le_refl _) (Nat.le_refl _) ?_
  have hP : va_P D vwCl ([(h, .inr (4, [.ref q5, .null]))] ++ ((wWay cA (aF q5 u9.1 u9.2.1 u9.2.2.1) 0 20 100 0 u9.2.2.2.1 0 z2 z0 u9.2.2.2.2.1 0 z2 u9.2.2.2.2.2 z0) ++ ((wWay cA (aF q16 u20.1 u20.2.1 u20.2.2.1) 0 20 100 0 u20.2.2.2.1 0 z2 z0 u20.2.2.2.2.1 0 z2 u20.2.2.2.2.2 z0)))) H := hP
  have hD : va_D A ([(h, .inr (4, [.ref q5, .null]))] ++ ((wWay cA (aF q5 u9.1 u9.2.1 u9.2.2.1) 0 20 100 0 u9.2.2.2.1 0 z2 z0 u9.2.2.2.2.1 0 z2 u9.2.2.2.2.2 z0) ++ ((wWay cA (aF q16 u20.1 u20.2.1 u20.2.2.1) 0 20 100 0 u20.2.2.2.1 0 z2 z0 u20.2.2.2.2.1 0 z2 u20.2.2.2.2.2 z0)))) := hD
  refine va_putF (D := D) (ci := 4) (v := .ref q16) (ty := .object "SedgeBarges$Waterway") (C := RX4) (T := TX4) (N := 2) hx hb hts (fun _ h => List.mem_cons_of_mem _ (List.mem_append_left _ (List.mem_append_left _ (List.mem_append_left _ (List.mem_append_right _ h))))) tyX4 tyX4_ok nmX4 hown hE.K hP hD hS 0 rfl rfl 1 (by decide) (hts (.fieldLink RX4 16 "SedgeBarges" "ahead" "LSedgeBarges$Waterway;") (List.mem_of_getElem? (i := 8) rfl)) (fun _ h9 => h9) rfl hin rfl (by decide +kernel) rfl rfl (Nat.le_of_ble_eq_true rfl) dX4_init_23 (fun H locs hP hD hS => ?_)
  have hP : va_P D vwCl ([(h, .inr (4, [.ref q5, .ref q16]))] ++ ((wWay cA (aF q5 u9.1 u9.2.1 u9.2.2.1) 0 20 100 0 u9.2.2.2.1 0 z2 z0 u9.2.2.2.2.1 0 z2 u9.2.2.2.2.2 z0) ++ ((wWay cA (aF q16 u20.1 u20.2.1 u20.2.2.1) 0 20 100 0 u20.2.2.2.1 0 z2 z0 u20.2.2.2.2.1 0 z2 u20.2.2.2.2.2 z0)))) H := hP
  have hD : va_D A ([(h, .inr (4, [.ref q5, .ref q16]))] ++ ((wWay cA (aF q5 u9.1 u9.2.1 u9.2.2.1) 0 20 100 0 u9.2.2.2.1 0 z2 z0 u9.2.2.2.2.1 0 z2 u9.2.2.2.2.2 z0) ++ ((wWay cA (aF q16 u20.1 u20.2.1 u20.2.2.1) 0 20 100 0 u20.2.2.2.1 0 z2 z0 u20.2.2.2.2.1 0 z2 u20.2.2.2.2.2 z0)))) := hD
  exact enN (w1 := fun (u : Nat × Nat × (Nat × Nat × Nat × (Nat → Nat) × (Nat → Nat) × Nat) × (Nat × Nat × Nat × (Nat → Nat) × (Nat → Nat) × Nat)) => wX cA h (aF u.1 u.2.2.1.1 u.2.2.1.2.1 u.2.2.1.2.2.1) 0 20 100 0 u.2.2.1.2.2.2.1 0 z2 z0 u.2.2.1.2.2.2.2.1 0 z2 u.2.2.1.2.2.2.2.2 z0 (aF u.2.1 u.2.2.2.1 u.2.2.2.2.1 u.2.2.2.2.2.1) 0 20 100 0 u.2.2.2.2.2.2.1 0 z2 z0 u.2.2.2.2.2.2.2.1 0 z2 u.2.2.2.2.2.2.2.2 z0) (q5, q16, u9, u20) hx hb hr hlocks hS hP hD (Nat.le_refl _) (Nat.le_refl _) dX4_init_26
