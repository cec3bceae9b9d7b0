/-! 16: the law's catching helpers -/
abbrev oL (cL : ClassId) (o : Nat) (g : Nat → Int64) : Nat × va_E := (o, .inl (cL, (1, .inr (.inl g))))
/-- a contract of a helper: it returns; a thing thrown and caught is made at most -/
def KW (sa tb : Nat → Nat) (D : va_G) (cA cL : ClassId) (l : Launch) (y : MethodName) (wy : List Cond) (rm : Room) (av : List Value) (ws : va_W) (Qc : (Nat → Prop) → Array Value → State → Outcome → State → Prop) : Prop := ∀ sz : Nat, Met l y wy rm (PcK sa tb D cA cL av ws sz) (Qc (va_A ws sz)) 1 6 (va_A ws sz)
section LAYW
variable {sa tb : Nat → Nat} {D : va_G} {cA cL : ClassId} {l : Launch} {y : MethodName} {wy wy' : List Cond} {rm : Room} {av : List Value} {ws : va_W} {Qc : (Nat → Prop) → Array Value → State → Outcome → State → Prop} {cc : ByteArray} {maxL : Nat} {ret : Option FieldType} {hh : List (Nat × Nat × Nat × Nat)}
theorem KW.of (hy : plainName y.cls = true) (hw : wy = Cond.codeWith y cc maxL ret hh :: wy') (hlen : (lg_sl av).length ≤ maxL)
    (body : ∀ (p : Program) (e : Env) (s : State) (m : MethodId) (args : Array Value) (below : List Frame) (meth : Method) (c : Code) (A : Nat → Prop), p.tables.exec = Jvm.exec → c.code = cc → meth.sig.returnType = ret → c.maxLocals = maxL → meth.locks = false → (∀ w ∈ wy, w.before args s = true) → s.vm.findClass y.cls = some m.cls → c.exceptionTable.toList = tableOf hh → va_S A s.heap s.heap [] → (∀ q : Nat, s.heap.size ≤ q → A q) → En sa tb D cA cL A s s.heap → va_P D vwCl ws s.heap → va_D A ws → ∀ ls : Array Slot, lv_has ls maxL (lv_args 0 av) →
      W p l e rm s m args below meth c s.heap [] 0 0 (MQ below (Qc A) args s 1 6 A) (F0 m 0 ls [])) : KW sa tb D cA cL l y wy rm av ws Qc := by
  intro sz
  refine MetFree.of_bodyS (code := cc) (maxLocals := maxL) (ret := ret) hy ?_ ?_
  · intro args s m h hn
    obtain ⟨m9, meth, c, hn9, h1, h2, h3, h4, -, h5, h6, -⟩ := Cond.codeWith_spec (atoms_spec (ws := wy) h _ (by rw [hw]; exact List.mem_cons_self))
    cases hn.symm.trans hn9
    exact ⟨meth, c, h1, h2, h3, h4, h5, h6⟩
  · intro p e s m args below meth c s₁ B hml hv _
    have hh0 : s₁.heap = s.heap := by rw [B.state]; rfl
    have hts := atoms_spec (ws := wy) B.pre
    have htab := vx_table (x := y) B (hts _ (by rw [hw]; exact List.mem_cons_self))
    obtain ⟨rfl, hsz, hP, hD0, hE⟩ := hv
    subst hsz
    have hl := lv_entry av (n := maxL) hlen
    have key : W p l e rm s m av.toArray below meth c s.heap [] 0 0 (MQ below (Qc (va_A ws s.heap.size)) av.toArray s 1 6 (va_A ws s.heap.size)) (entryFrame m av.toArray maxL) := by
      rw [lg_entry_eq]
      exact body p e s m _ below meth c _ B.exec B.bytes B.returns hml B.notSynchronized hts (findClass_of_methodNamed B.named) htab va_S.rf (fun q h => Or.inr h) hE hP hD0.self _ hl
    obtain ⟨t, a1, o, b1, b2, b3⟩ := key s₁ hh0 (Stand.of_body B)
    exact ⟨t, o, a1, b1, b2, ⟨b3.1, b3.2⟩⟩
end LAYW
section LAYX
variable {p : Program} {l : Launch} {e : Env} {R : Room} {s : State} {m : MethodId} {args : Array Value} {below : List Frame} {meth : Method} {c : Code} {H : Heap} {locs : List Loc} {cells slots : Nat} {Q : State → Prop}
variable {sa tb : Nat → Nat} {D : va_G} {cA cL : ClassId} {A : Nat → Prop} {cc : ByteArray} {rest st0 : List Value} {pc : Nat} {ls : Array Slot} {pre wc pos ws : va_W} {XE : String → Prop} {S : Type} {w1 : S → va_W}
/-- a call that throws, its throw at hand -/
theorem goXc (pre pos : va_W) (hP : va_P D vwCl (pre ++ (wc ++ pos)) H) (hD : va_D A (pre ++ (wc ++ pos))) (hS : va_S A s.heap H locs) (hA : ∀ q, s.heap.size ≤ q → A q)
    (hr : vx_Run p l e R s m args below meth c H locs cells slots 1 6 (F0 m pc ls st0) rest (fun _ _ _ => False) (vx_X (fun _ : Unit => True) (fun E _ t => XE E ∧ va_P D vwCl wc t.heap) (va_A wc H.size)) (va_A wc H.size))
    (kx : ∀ (E : String) (ce : Cell) (q9 : Nat) (H1 : Heap) (locs1 : List Loc), XE E → va_P D vwCl (pre ++ (wc ++ pos)) H1 → va_S A s.heap H1 locs1 → H1[q9]? = some ce → ce.vm = .none → s.vm.findClass E = some ce.cls → vx_W p l e R s m args below meth c H1 locs1 (cells + 1) (slots + 6) Q (F0 m pc ls rest) q9) :
    W p l e R s m args below meth c H locs cells slots Q (F0 m pc ls st0) := by
  intro T hT X
  rcases hr T hT X with ⟨v, st₀, t, T', L, h0, X', hL, e1, e2, hq, st⟩ | ⟨q, st₀, t, T', L, E, ce, h0, X', hL, e1, e2, ⟨u, hp, hb, hF⟩, hce, hcv, hcl, st⟩
  · exact hq.elim
  · obtain ⟨k1, k2, k3⟩ := vx_keep h0 e1 hS (fun q _ h => mid_free hD hS hA q h) (mid_free hD hS hA) hL hF
    have hb2 : va_P D vwCl wc T'.heap := by rw [e1]; exact hb.2
    obtain ⟨t2, a1, b1⟩ := kx E ce q T'.heap (locs ++ L) hb.1 (P_join hP hD k2 hb2) k3 (by rw [e1]; exact hce) hcv hcl T' rfl X'
    exact ⟨t2, st.trans a1, b1⟩
theorem l_end (pre : va_W) (q : Nat × va_E) : (pre ++ [q])[pre.length]? = some q := by simp
theorem l_put (pre : va_W) (q q' : Nat × va_E) : (pre ++ [q]).set pre.length q' = pre ++ [q'] := by simp
/-- out[0] = .. -/
theorem r_lst (hexec : p.tables.exec = Jvm.exec) (hb : c.code = cc) (hE : En sa tb D cA cL A s s.heap) {o : Nat} {g : Nat → Int64} {x : Int64} (hP : va_P D vwCl (pre ++ [oL cL o g]) H) (hD : va_D A (pre ++ [oL cL o g])) (hS : va_S A s.heap H locs) (hdg : decode cc pc = .ok (.lastore, 1))
    (kk : ∀ (H1 : Heap) (locs1 : List Loc), va_P D vwCl (pre ++ [oL cL o (vp_updL g 0 x)]) H1 → va_D A (pre ++ [oL cL o (vp_updL g 0 x)]) → va_S A s.heap H1 locs1 → W p l e R s m args below meth c H1 locs1 cells slots Q (F0 m (pc + 1) ls rest)) : W p l e R s m args below meth c H locs cells slots Q (F0 m pc ls (.long x :: .int 0 :: .ref o :: rest)) := by
  refine va_last hexec hb hE.K hP hD hS pre.length 1 (l_end pre _) rfl (by unfold vp_in; decide) hdg (fun H1 locs1 h1 h2 h3 => ?_)
  rw [l_put, show (0 : Int32).toNatClampNeg = 0 from by decide] at h1 h2
  exact kk H1 locs1 h1 h2 h3
/-- an end of a helper -/
theorem enW {post : Int32 → S → Prop} {v : Int32} (u : S) (hx : p.tables.exec = Jvm.exec) (hb : c.code = cc) (hr : meth.sig.returnType = some .int) (hlocks : meth.locks = false) (hS : va_S A s.heap H locs) (hP : va_P D vwCl (w1 u) H) (hp : post v u) (hc : cells ≤ 1) (hs : slots ≤ 6) (hdg : decode cc pc = .ok (.ireturn, 1)) : W p l e R s m args below meth c H locs cells slots (MQ below (qI D post w1 A) args s 1 6 A) (F0 m pc ls [.int v]) :=
  W.widen hc hs (W.iret hx hb hr (fun t ht hW => ⟨⟨v, u, rfl, hp, by show va_P D vwCl (w1 u) t.heap; rw [ht]; exact hP⟩, hS.F ht⟩) hS.2.2 hdg hlocks)
end LAYX

set_option maxRecDepth 100000 in
set_option maxHeartbeats 4000000 in
theorem L_bed_0 {sa tb : Nat → Nat} {D : va_G} {cA cL : ClassId} {l : Launch} {f lo b o : Nat} {p1 p2 p3 : Int32} {wc : va_W} {fs : List Value} {g : Nat → Int64} {S : Type} {post : Int32 → S → Prop} {w1 : S → va_W} (hM : KM sa tb D cA cL l yX4_bed wsX4_bed ({ frames := f, cells := 0, slots := 0, locals := lo }) [.ref b, .int p1, .int p2, .int p3] wc (qI D post w1)) (he : wc[0]? = some (b, .inr (4, fs))) (haddr : ∀ u, (w1 u).map Prod.fst = wc.map Prod.fst) : KW sa tb D cA cL l yL_bed wsL_bed ({ frames := f + 1, cells := 1, slots := 6, locals := 8 + (4 + 11) + lo }) [.ref b, .int p1, .int p2, .int p3, .ref o] (wc ++ [oL cL o g]) (qI D (fun (r : Int32) (u : Int32 × S) => r = 0 ∧ post u.1 u.2) (fun u => w1 u.2 ++ [oL cL o (vp_updL g 0 u.1.toInt64)])) := by
  refine KW.of (cc := cL_bed) (maxL := 6) (ret := some .int) (hh := [(0, 12, 15, 13), (0, 12, 19, 15), (0, 12, 23, 17)]) (by decide) rfl (Nat.le_of_ble_eq_true rfl) ?_
  intro pg e s m args below meth c A hx hb hr hml hlocks hts hown htab hS hA hE hP hD ls hl
  have hown : s.vm.findClass RL = some m.cls := hown
  have hl : lv_has ls 6 [(0, .ref b), (1, .int p1), (2, .int p2), (3, .int p3), (4, .ref o)] := hl
  refine lv_aload hx hb dL_bed_0 (lv_at hl 4 rfl) ?_
  refine lv_iconst (v := 0) hx hb dL_bed_2 (by decide) ?_
  refine lv_aload_n hx hb dL_bed_3 rfl (lv_at hl 0 rfl) ?_
  refine lv_iload_n hx hb dL_bed_4 rfl (lv_at hl 1 rfl) ?_
  refine lv_iload_n hx hb dL_bed_5 rfl (lv_at hl 2 rfl) ?_
  refine lv_iload_n hx hb dL_bed_6 rfl (lv_at hl 3 rfl) ?_
  refine goI [] [oL cL o g] hP hD hS hA (rnV (rest := [.int 0, .ref o]) hM [] [oL cL o g] hP hD hS hA hE ⟨hx, hb, hml, hown, hts⟩ (cwV 3 hts gL_bed_X4_bed rfl rfl rfl (by decide +kernel) ⟨Nat.le_refl _, Nat.le_refl _⟩) 4 0 rfl he rfl rfl hl.1 rfl (Nat.le_of_ble_eq_true rfl) dL_bed_7 ⟨Nat.zero_le _, Nat.zero_le _⟩) haddr (fun r u H locs hw hP hD hS => ?_)
  refine lv_i2l hx hb dL_bed_10 rfl ?_
  refine r_lst (pre := w1 u) hx hb hE hP hD hS dL_bed_11 (fun H locs hP hD hS => ?_)
  refine lv_goto (tgt := 27) hx hb dL_bed_12 (by decide) ?_
  refine lv_iconst (v := 0) hx hb dL_bed_27 (by decide) ?_
  exact enW (r, u) hx hb hr hlocks hS hP ⟨rfl, hw⟩ (Nat.zero_le _) (Nat.zero_le _) dL_bed_28
set_option maxRecDepth 100000 in
set_option maxHeartbeats 4000000 in
theorem L_bed_1 {sa tb : Nat → Nat} {D : va_G} {cA cL : ClassId} {l : Launch} {f lo b o : Nat} {p1 p2 p3 : Int32} {wc : va_W} {fs : List Value} {g : Nat → Int64} (hM : KX sa tb D cA cL l yX4_bed wsX4_bed ({ frames := f, cells := 1, slots := 6, locals := lo }) [.ref b, .int p1, .int p2, .int p3] wc (fun E => E = X_I)) (he : wc[0]? = some (b, .inr (4, fs))) : KW sa tb D cA cL l yL_bed wsL_bed ({ frames := f + 1, cells := 1, slots := 6, locals := 8 + (4 + 11) + lo }) [.ref b, .int p1, .int p2, .int p3, .ref o] (wc ++ [oL cL o g]) (qI D (fun (r : Int32) (_ : Unit) => r = 1) (fun _ => wc ++ [oL cL o g])) := by
  refine KW.of (cc := cL_bed) (maxL := 6) (ret := some .int) (hh := [(0, 12, 15, 13), (0, 12, 19, 15), (0, 12, 23, 17)]) (by decide) rfl (Nat.le_of_ble_eq_true rfl) ?_
  intro pg e s m args below meth c A hx hb hr hml hlocks hts hown htab hS hA hE hP hD ls hl
  have hown : s.vm.findClass RL = some m.cls := hown
  have hl : lv_has ls 6 [(0, .ref b), (1, .int p1), (2, .int p2), (3, .int p3), (4, .ref o)] := hl
  refine lv_aload hx hb dL_bed_0 (lv_at hl 4 rfl) ?_
  refine lv_iconst (v := 0) hx hb dL_bed_2 (by decide) ?_
  refine lv_aload_n hx hb dL_bed_3 rfl (lv_at hl 0 rfl) ?_
  refine lv_iload_n hx hb dL_bed_4 rfl (lv_at hl 1 rfl) ?_
  refine lv_iload_n hx hb dL_bed_5 rfl (lv_at hl 2 rfl) ?_
  refine lv_iload_n hx hb dL_bed_6 rfl (lv_at hl 3 rfl) ?_
  refine goXc [] [oL cL o g] hP hD hS hA (rnXV (rest := [.int 0, .ref o]) hM [] [oL cL o g] hP hD hS hA hE ⟨hx, hb, hml, hown, hts⟩ (cwV 3 hts gL_bed_X4_bed rfl rfl rfl (by decide +kernel) ⟨Nat.le_refl _, Nat.le_refl _⟩) 4 0 rfl he rfl rfl hl.1 rfl (Nat.le_of_ble_eq_true rfl) dL_bed_7 ⟨(Nat.le_of_ble_eq_true rfl), (Nat.le_of_ble_eq_true rfl)⟩) (fun E ce q9 H locs hX hP hS hc9 hv9 hcl9 => ?_)
  subst hX
  refine vx_catch (own := RL) (name := X_I) hown [] ⟨0, 12, 15, 13⟩ [⟨0, 12, 19, 15⟩, ⟨0, 12, 23, 17⟩] htab (fun z hz => nomatch hz) (by decide) (by decide) (hts (.classLink RL 13 X_I) (List.mem_of_getElem? (i := 1) rfl)) (va_Nw.use rfl (hE.2.2.2.2.2.1 (X_I, X_I) (by decide))) hc9 hv9 hcl9 ?_
  refine lv_astore (lv' := [(5, .ref q9), (0, .ref b), (1, .int p1), (2, .int p2), (3, .int p3), (4, .ref o)]) hx hb dL_bed_15 hl (by decide) rfl (fun ls hl => ?_)
  refine lv_iconst (v := 1) hx hb dL_bed_17 (by decide) ?_
  exact enW () hx hb hr hlocks hS hP rfl (Nat.le_of_ble_eq_true rfl) (Nat.le_of_ble_eq_true rfl) dL_bed_18
set_option maxRecDepth 100000 in
set_option maxHeartbeats 4000000 in
theorem L_bed_2 {sa tb : Nat → Nat} {D : va_G} {cA cL : ClassId} {l : Launch} {f lo b o : Nat} {p1 p2 p3 : Int32} {wc : va_W} {fs : List Value} {g : Nat → Int64} (hM : KX sa tb D cA cL l yX4_bed wsX4_bed ({ frames := f, cells := 1, slots := 6, locals := lo }) [.ref b, .int p1, .int p2, .int p3] wc (fun E => E = X_A)) (he : wc[0]? = some (b, .inr (4, fs))) : KW sa tb D cA cL l yL_bed wsL_bed ({ frames := f + 1, cells := 1, slots := 6, locals := 8 + (4 + 11) + lo }) [.ref b, .int p1, .int p2, .int p3, .ref o] (wc ++ [oL cL o g]) (qI D (fun (r : Int32) (_ : Unit) => r = 2) (fun _ => wc ++ [oL cL o g])) := by
  refine KW.of (cc := cL_bed) (maxL := 6) (ret := some .int) (hh := [(0, 12, 15, 13), (0, 12, 19, 15), (0, 12, 23, 17)]) (by decide) rfl (Nat.le_of_ble_eq_true rfl) ?_
  intro pg e s m args below meth c A hx hb hr hml hlocks hts hown htab hS hA hE hP hD ls hl
  have hown : s.vm.findClass RL = some m.cls := hown
  have hl : lv_has ls 6 [(0, .ref b), (1, .int p1), (2, .int p2), (3, .int p3), (4, .ref o)] := hl
  refine lv_aload hx hb dL_bed_0 (lv_at hl 4 rfl) ?_
  refine lv_iconst (v := 0) hx hb dL_bed_2 (by decide) ?_
  refine lv_aload_n hx hb dL_bed_3 rfl (lv_at hl 0 rfl) ?_
  refine lv_iload_n hx hb dL_bed_4 rfl (lv_at hl 1 rfl) ?_
  refine lv_iload_n hx hb dL_bed_5 rfl (lv_at hl 2 rfl) ?_
  refine lv_iload_n hx hb dL_bed_6 rfl (lv_at hl 3 rfl) ?_
  refine goXc [] [oL cL o g] hP hD hS hA (rnXV (rest := [.int 0, .ref o]) hM [] [oL cL o g] hP hD hS hA hE ⟨hx, hb, hml, hown, hts⟩ (cwV 3 hts gL_bed_X4_bed rfl rfl rfl (by decide +kernel) ⟨Nat.le_refl _, Nat.le_refl _⟩) 4 0 rfl he rfl rfl hl.1 rfl (Nat.le_of_ble_eq_true rfl) dL_bed_7 ⟨(Nat.le_of_ble_eq_true rfl), (Nat.le_of_ble_eq_true rfl)⟩) (fun E ce q9 H locs hX hP hS hc9 hv9 hcl9 => ?_)
  subst hX
  refine vx_catch (own := RL) (name := X_A) hown [⟨0, 12, 15, 13⟩] ⟨0, 12, 19, 15⟩ [⟨0, 12, 23, 17⟩] htab (List.forall_mem_cons.mpr ⟨Or.inr ⟨by decide, X_I, hts (.classLink RL 13 X_I) (List.mem_of_getElem? (i := 1) rfl), hE.2.2.2.2.2.2.1 (X_A, X_I) (by decide)⟩, fun z hz => nomatch hz⟩) (by decide) (by decide) (hts (.classLink RL 15 X_A) (List.mem_of_getElem? (i := 2) rfl)) (va_Nw.use rfl (hE.2.2.2.2.2.1 (X_A, X_A) (by decide))) hc9 hv9 hcl9 ?_
  refine lv_astore (lv' := [(5, .ref q9), (0, .ref b), (1, .int p1), (2, .int p2), (3, .int p3), (4, .ref o)]) hx hb dL_bed_19 hl (by decide) rfl (fun ls hl => ?_)
  refine lv_iconst (v := 2) hx hb dL_bed_21 (by decide) ?_
  exact enW () hx hb hr hlocks hS hP rfl (Nat.le_of_ble_eq_true rfl) (Nat.le_of_ble_eq_true rfl) dL_bed_22
set_option maxRecDepth 100000 in
set_option maxHeartbeats 4000000 in
theorem L_bed_3 {sa tb : Nat → Nat} {D : va_G} {cA cL : ClassId} {l : Launch} {f lo b o : Nat} {p1 p2 p3 : Int32} {wc : va_W} {fs : List Value} {g : Nat → Int64} (hM : KX sa tb D cA cL l yX4_bed wsX4_bed ({ frames := f, cells := 1, slots := 6, locals := lo }) [.ref b, .int p1, .int p2, .int p3] wc (fun E => E = X_S)) (he : wc[0]? = some (b, .inr (4, fs))) : KW sa tb D cA cL l yL_bed wsL_bed ({ frames := f + 1, cells := 1, slots := 6, locals := 8 + (4 + 11) + lo }) [.ref b, .int p1, .int p2, .int p3, .ref o] (wc ++ [oL cL o g]) (qI D (fun (r : Int32) (_ : Unit) => r = 3) (fun _ => wc ++ [oL cL o g])) := by
  refine KW.of (cc := cL_bed) (maxL := 6) (ret := some .int) (hh := [(0, 12, 15, 13), (0, 12, 19, 15), (0, 12, 23, 17)]) (by decide) rfl (Nat.le_of_ble_eq_true rfl) ?_
  intro pg e s m args below meth c A hx hb hr hml hlocks hts hown htab hS hA hE hP hD ls hl
  have hown : s.vm.findClass RL = some m.cls := hown
  have hl : lv_has ls 6 [(0, .ref b), (1, .int p1), (2, .int p2), (3, .int p3), (4, .ref o)] := hl
  refine lv_aload hx hb dL_bed_0 (lv_at hl 4 rfl) ?_
  refine lv_iconst (v := 0) hx hb dL_bed_2 (by decide) ?_
  refine lv_aload_n hx hb dL_bed_3 rfl (lv_at hl 0 rfl) ?_
  refine lv_iload_n hx hb dL_bed_4 rfl (lv_at hl 1 rfl) ?_
  refine lv_iload_n hx hb dL_bed_5 rfl (lv_at hl 2 rfl) ?_
  refine lv_iload_n hx hb dL_bed_6 rfl (lv_at hl 3 rfl) ?_
  refine goXc [] [oL cL o g] hP hD hS hA (rnXV (rest := [.int 0, .ref o]) hM [] [oL cL o g] hP hD hS hA hE ⟨hx, hb, hml, hown, hts⟩ (cwV 3 hts gL_bed_X4_bed rfl rfl rfl (by decide +kernel) ⟨Nat.le_refl _, Nat.le_refl _⟩) 4 0 rfl he rfl rfl hl.1 rfl (Nat.le_of_ble_eq_true rfl) dL_bed_7 ⟨(Nat.le_of_ble_eq_true rfl), (Nat.le_of_ble_eq_true rfl)⟩) (fun E ce q9 H locs hX hP hS hc9 hv9 hcl9 => ?_)
  subst hX
  refine vx_catch (own := RL) (name := X_S) hown [⟨0, 12, 15, 13⟩, ⟨0, 12, 19, 15⟩] ⟨0, 12, 23, 17⟩ [] htab (List.forall_mem_cons.mpr ⟨Or.inr ⟨by decide, X_I, hts (.classLink RL 13 X_I) (List.mem_of_getElem? (i := 1) rfl), hE.2.2.2.2.2.2.1 (X_S, X_I) (by decide)⟩, List.forall_mem_cons.mpr ⟨Or.inr ⟨by decide, X_A, hts (.classLink RL 15 X_A) (List.mem_of_getElem? (i := 2) rfl), hE.2.2.2.2.2.2.1 (X_S, X_A) (by decide)⟩, fun z hz => nomatch hz⟩⟩) (by decide) (by decide) (hts (.classLink RL 17 X_S) (List.mem_of_getElem? (i := 3) rfl)) (va_Nw.use rfl (hE.2.2.2.2.2.1 (X_S, X_S) (by decide))) hc9 hv9 hcl9 ?_
  refine lv_astore (lv' := [(5, .ref q9), (0, .ref b), (1, .int p1), (2, .int p2), (3, .int p3), (4, .ref o)]) hx hb dL_bed_23 hl (by decide) rfl (fun ls hl => ?_)
  refine lv_iconst (v := 3) hx hb dL_bed_25 (by decide) ?_
  exact enW () hx hb hr hlocks hS hP rfl (Nat.le_of_ble_eq_true rfl) (Nat.le_of_ble_eq_true rfl) dL_bed_26
set_option maxRecDepth 100000 in
set_option maxHeartbeats 4000000 in
theorem L_cut_0 {sa tb : Nat → Nat} {D : va_G} {cA cL : ClassId} {l : Launch} {f lo b o : Nat} {p1 : Int32} {wc : va_W} {fs : List Value} {g : Nat → Int64} {S : Type} {post : Int32 → S → Prop} {w1 : S → va_W} (hM : KM sa tb D cA cL l yX4_cut wsX4_cut ({ frames := f, cells := 0, slots := 0, locals := lo }) [.ref b, .int p1] wc (qI D post w1)) (he : wc[0]? = some (b, .inr (4, fs))) (haddr : ∀ u, (w1 u).map Prod.fst = wc.map Prod.fst) : KW sa tb D cA cL l yL_cut wsL_cut ({ frames := f + 1, cells := 1, slots := 6, locals := 8 + (2 + 11) + lo }) [.ref b, .int p1, .ref o] (wc ++ [oL cL o g]) (qI D (fun (r : Int32) (u : Int32 × S) => r = 0 ∧ post u.1 u.2) (fun u => w1 u.2 ++ [oL cL o (vp_updL g 0 u.1.toInt64)])) := by
  refine KW.of (cc := cL_cut) (maxL := 4) (ret := some .int) (hh := [(0, 9, 12, 13), (0, 9, 15, 17)]) (by decide) rfl (Nat.le_of_ble_eq_true rfl) ?_
  intro pg e s m args below meth c A hx hb hr hml hlocks hts hown htab hS hA hE hP hD ls hl
  have hown : s.vm.findClass RL = some m.cls := hown
  have hl : lv_has ls 4 [(0, .ref b), (1, .int p1), (2, .ref o)] := hl
  refine lv_aload_n hx hb dL_cut_0 rfl (lv_at hl 2 rfl) ?_
  refine lv_iconst (v := 0) hx hb dL_cut_1 (by decide) ?_
  refine lv_aload_n hx hb dL_cut_2 rfl (lv_at hl 0 rfl) ?_
  refine lv_iload_n hx hb dL_cut_3 rfl (lv_at hl 1 rfl) ?_
  refine goI [] [oL cL o g] hP hD hS hA (rnV (rest := [.int 0, .ref o]) hM [] [oL cL o g] hP hD hS hA hE ⟨hx, hb, hml, hown, hts⟩ (cwV 1 hts gL_cut_X4_cut rfl rfl rfl (by decide +kernel) ⟨Nat.le_refl _, Nat.le_refl _⟩) 4 0 rfl he rfl rfl hl.1 rfl (Nat.le_of_ble_eq_true rfl) dL_cut_4 ⟨Nat.zero_le _, Nat.zero_le _⟩) haddr (fun r u H locs hw hP hD hS => ?_)
  refine lv_i2l hx hb dL_cut_7 rfl ?_
  refine r_lst (pre := w1 u) hx hb hE hP hD hS dL_cut_8 (fun H locs hP hD hS => ?_)
  refine lv_goto (tgt := 18) hx hb dL_cut_9 (by decide) ?_
  refine lv_iconst (v := 0) hx hb dL_cut_18 (by decide) ?_
  exact enW (r, u) hx hb hr hlocks hS hP ⟨rfl, hw⟩ (Nat.zero_le _) (Nat.zero_le _) dL_cut_19
set_option maxRecDepth 100000 in
set_option maxHeartbeats 4000000 in
theorem L_cut_1 {sa tb : Nat → Nat} {D : va_G} {cA cL : ClassId} {l : Launch} {f lo b o : Nat} {p1 : Int32} {wc : va_W} {fs : List Value} {g : Nat → Int64} (hM : KX sa tb D cA cL l yX4_cut wsX4_cut ({ frames := f, cells := 1, slots := 6, locals := lo }) [.ref b, .int p1] wc (fun E => E = X_I)) (he : wc[0]? = some (b, .inr (4, fs))) : KW sa tb D cA cL l yL_cut wsL_cut ({ frames := f + 1, cells := 1, slots := 6, locals := 8 + (2 + 11) + lo }) [.ref b, .int p1, .ref o] (wc ++ [oL cL o g]) (qI D (fun (r : Int32) (_ : Unit) => r = 1) (fun _ => wc ++ [oL cL o g])) := by
  refine KW.of (cc := cL_cut) (maxL := 4) (ret := some .int) (hh := [(0, 9, 12, 13), (0, 9, 15, 17)]) (by decide) rfl (Nat.le_of_ble_eq_true rfl) ?_
  intro pg e s m args below meth c A hx hb hr hml hlocks hts hown htab hS hA hE hP hD ls hl
  have hown : s.vm.findClass RL = some m.cls := hown
  have hl : lv_has ls 4 [(0, .ref b), (1, .int p1), (2, .ref o)] := hl
  refine lv_aload_n hx hb dL_cut_0 rfl (lv_at hl 2 rfl) ?_
  refine lv_iconst (v := 0) hx hb dL_cut_1 (by decide) ?_
  refine lv_aload_n hx hb dL_cut_2 rfl (lv_at hl 0 rfl) ?_
  refine lv_iload_n hx hb dL_cut_3 rfl (lv_at hl 1 rfl) ?_
  refine goXc [] [oL cL o g] hP hD hS hA (rnXV (rest := [.int 0, .ref o]) hM [] [oL cL o g] hP hD hS hA hE ⟨hx, hb, hml, hown, hts⟩ (cwV 1 hts gL_cut_X4_cut rfl rfl rfl (by decide +kernel) ⟨Nat.le_refl _, Nat.le_refl _⟩) 4 0 rfl he rfl rfl hl.1 rfl (Nat.le_of_ble_eq_true rfl) dL_cut_4 ⟨(Nat.le_of_ble_eq_true rfl), (Nat.le_of_ble_eq_true rfl)⟩) (fun E ce q9 H locs hX hP hS hc9 hv9 hcl9 => ?_)
  subst hX
  refine vx_catch (own := RL) (name := X_I) hown [] ⟨0, 9, 12, 13⟩ [⟨0, 9, 15, 17⟩] htab (fun z hz => nomatch hz) (by decide) (by decide) (hts (.classLink RL 13 X_I) (List.mem_of_getElem? (i := 1) rfl)) (va_Nw.use rfl (hE.2.2.2.2.2.1 (X_I, X_I) (by decide))) hc9 hv9 hcl9 ?_
  refine lv_astore_n (lv' := [(3, .ref q9), (0, .ref b), (1, .int p1), (2, .ref o)]) hx hb dL_cut_12 rfl hl (by decide) rfl (fun ls hl => ?_)
  refine lv_iconst (v := 1) hx hb dL_cut_13 (by decide) ?_
  exact enW () hx hb hr hlocks hS hP rfl (Nat.le_of_ble_eq_true rfl) (Nat.le_of_ble_eq_true rfl) dL_cut_14
set_option maxRecDepth 100000 in
set_option maxHeartbeats 4000000 in
theorem L_cut_2 {sa tb : Nat → Nat} {D : va_G} {cA cL : ClassId} {l : Launch} {f lo b o : Nat} {p1 : Int32} {wc : va_W} {fs : List Value} {g : Nat → Int64} (hM : KX sa tb D cA cL l yX4_cut wsX4_cut ({ frames := f, cells := 1, slots := 6, locals := lo }) [.ref b, .int p1] wc (fun E => E = X_S)) (he : wc[0]? = some (b, .inr (4, fs))) : KW sa tb D cA cL l yL_cut wsL_cut ({ frames := f + 1, cells := 1, slots := 6, locals := 8 + (2 + 11) + lo }) [.ref b, .int p1, .ref o] (wc ++ [oL cL o g]) (qI D (fun (r : Int32) (_ : Unit) => r = 2) (fun _ => wc ++ [oL cL o g])) := by
  refine KW.of (cc := cL_cut) (maxL := 4) (ret := some .int) (hh := [(0, 9, 12, 13), (0, 9, 15, 17)]) (by decide) rfl (Nat.le_of_ble_eq_true rfl) ?_
  intro pg e s m args below meth c A hx hb hr hml hlocks hts hown htab hS hA hE hP hD ls hl
  have hown : s.vm.findClass RL = some m.cls := hown
  have hl : lv_has ls 4 [(0, .ref b), (1, .int p1), (2, .ref o)] := hl
  refine lv_aload_n hx hb dL_cut_0 rfl (lv_at hl 2 rfl) ?_
  refine lv_iconst (v := 0) hx hb dL_cut_1 (by decide) ?_
  refine lv_aload_n hx hb dL_cut_2 rfl (lv_at hl 0 rfl) ?_
  refine lv_iload_n hx hb dL_cut_3 rfl (lv_at hl 1 rfl) ?_
  refine goXc [] [oL cL o g] hP hD hS hA (rnXV (rest := [.int 0, .ref o]) hM [] [oL cL o g] hP hD hS hA hE ⟨hx, hb, hml, hown, hts⟩ (cwV 1 hts gL_cut_X4_cut rfl rfl rfl (by decide +kernel) ⟨Nat.le_refl _, Nat.le_refl _⟩) 4 0 rfl he rfl rfl hl.1 rfl (Nat.le_of_ble_eq_true rfl) dL_cut_4 ⟨(Nat.le_of_ble_eq_true rfl), (Nat.le_of_ble_eq_true rfl)⟩) (fun E ce q9 H locs hX hP hS hc9 hv9 hcl9 => ?_)
  subst hX
  refine vx_catch (own := RL) (name := X_S) hown [⟨0, 9, 12, 13⟩] ⟨0, 9, 15, 17⟩ [] htab (List.forall_mem_cons.mpr ⟨Or.inr ⟨by decide, X_I, hts (.classLink RL 13 X_I) (List.mem_of_getElem? (i := 1) rfl), hE.2.2.2.2.2.2.1 (X_S, X_I) (by decide)⟩, fun z hz => nomatch hz⟩) (by decide) (by decide) (hts (.classLink RL 17 X_S) (List.mem_of_getElem? (i := 2) rfl)) (va_Nw.use rfl (hE.2.2.2.2.2.1 (X_S, X_S) (by decide))) hc9 hv9 hcl9 ?_
  refine lv_astore_n (lv' := [(3, .ref q9), (0, .ref b), (1, .int p1), (2, .ref o)]) hx hb dL_cut_15 rfl hl (by decide) rfl (fun ls hl => ?_)
  refine lv_iconst (v := 2) hx hb dL_cut_16 (by decide) ?_
  exact enW () hx hb hr hlocks hS hP rfl (Nat.le_of_ble_eq_true rfl) (Nat.le_of_ble_eq_true rfl) dL_cut_17
set_option maxRecDepth 100000 in
set_option maxHeartbeats 4000000 in
theorem L_tie_0 {sa tb : Nat → Nat} {D : va_G} {cA cL : ClassId} {l : Launch} {f lo b o : Nat} {p1 : Int32} {wc : va_W} {fs : List Value} {g : Nat → Int64} {S : Type} {post : Int32 → S → Prop} {w1 : S → va_W} (hM : KM sa tb D cA cL l yX4_tie wsX4_tie ({ frames := f, cells := 0, slots := 0, locals := lo }) [.ref b, .int p1] wc (qI D post w1)) (he : wc[0]? = some (b, .inr (4, fs))) (haddr : ∀ u, (w1 u).map Prod.fst = wc.map Prod.fst) : KW sa tb D cA cL l yL_tie wsL_tie ({ frames := f + 1, cells := 1, slots := 6, locals := 8 + (3 + 11) + lo }) [.ref b, .int p1, .ref o] (wc ++ [oL cL o g]) (qI D (fun (r : Int32) (u : Int32 × S) => r = 0 ∧ post u.1 u.2) (fun u => w1 u.2 ++ [oL cL o (vp_updL g 0 u.1.toInt64)])) := by
  refine KW.of (cc := cL_tie) (maxL := 4) (ret := some .int) (hh := [(0, 9, 12, 13)]) (by decide) rfl (Nat.le_of_ble_eq_true rfl) ?_
  intro pg e s m args below meth c A hx hb hr hml hlocks hts hown htab hS hA hE hP hD ls hl
  have hown : s.vm.findClass RL = some m.cls := hown
  have hl : lv_has ls 4 [(0, .ref b), (1, .int p1), (2, .ref o)] := hl
  refine lv_aload_n hx hb dL_tie_0 rfl (lv_at hl 2 rfl) ?_
  refine lv_iconst (v := 0) hx hb dL_tie_1 (by decide) ?_
  refine lv_aload_n hx hb dL_tie_2 rfl (lv_at hl 0 rfl) ?_
  refine lv_iload_n hx hb dL_tie_3 rfl (lv_at hl 1 rfl) ?_
  refine goI [] [oL cL o g] hP hD hS hA (rnV (rest := [.int 0, .ref o]) hM [] [oL cL o g] hP hD hS hA hE ⟨hx, hb, hml, hown, hts⟩ (cwV 1 hts gL_tie_X4_tie rfl rfl rfl (by decide +kernel) ⟨Nat.le_refl _, Nat.le_refl _⟩) 4 0 rfl he rfl rfl hl.1 rfl (Nat.le_of_ble_eq_true rfl) dL_tie_4 ⟨Nat.zero_le _, Nat.zero_le _⟩) haddr (fun r u H locs hw hP hD hS => ?_)
  refine lv_i2l hx hb dL_tie_7 rfl ?_
  refine r_lst (pre := w1 u) hx hb hE hP hD hS dL_tie_8 (fun H locs hP hD hS => ?_)
  refine lv_goto (tgt := 15) hx hb dL_tie_9 (by decide) ?_
  refine lv_iconst (v := 0) hx hb dL_tie_15 (by decide) ?_
  exact enW (r, u) hx hb hr hlocks hS hP ⟨rfl, hw⟩ (Nat.zero_le _) (Nat.zero_le _) dL_tie_16
set_option maxRecDepth 100000 in
set_option maxHeartbeats 4000000 in
theorem L_tie_1 {sa tb : Nat → Nat} {D : va_G} {cA cL : ClassId} {l : Launch} {f lo b o : Nat} {p1 : Int32} {wc : va_W} {fs : List Value} {g : Nat → Int64} (hM : KX sa tb D cA cL l yX4_tie wsX4_tie ({ frames := f, cells := 1, slots := 6, locals := lo }) [.ref b, .int p1] wc (fun E => E = X_I)) (he : wc[0]? = some (b, .inr (4, fs))) : KW sa tb D cA cL l yL_tie wsL_tie ({ frames := f + 1, cells := 1, slots := 6, locals := 8 + (3 + 11) + lo }) [.ref b, .int p1, .ref o] (wc ++ [oL cL o g]) (qI D (fun (r : Int32) (_ : Unit) => r = 1) (fun _ => wc ++ [oL cL o g])) := by
  refine KW.of (cc := cL_tie) (maxL := 4) (ret := some .int) (hh := [(0, 9, 12, 13)]) (by decide) rfl (Nat.le_of_ble_eq_true rfl) ?_
  intro pg e s m args below meth c A hx hb hr hml hlocks hts hown htab hS hA hE hP hD ls hl
  have hown : s.vm.findClass RL = some m.cls := hown
  have hl : lv_has ls 4 [(0, .ref b), (1, .int p1), (2, .ref o)] := hl
  refine lv_aload_n hx hb dL_tie_0 rfl (lv_at hl 2 rfl) ?_
  refine lv_iconst (v := 0) hx hb dL_tie_1 (by decide) ?_
  refine lv_aload_n hx hb dL_tie_2 rfl (lv_at hl 0 rfl) ?_
  refine lv_iload_n hx hb dL_tie_3 rfl (lv_at hl 1 rfl) ?_
  refine goXc [] [oL cL o g] hP hD hS hA (rnXV (rest := [.int 0, .ref o]) hM [] [oL cL o g] hP hD hS hA hE ⟨hx, hb, hml, hown, hts⟩ (cwV 1 hts gL_tie_X4_tie rfl rfl rfl (by decide +kernel) ⟨Nat.le_refl _, Nat.le_refl _⟩) 4 0 rfl he rfl rfl hl.1 rfl (Nat.le_of_ble_eq_true rfl) dL_tie_4 ⟨(Nat.le_of_ble_eq_true rfl), (Nat.le_of_ble_eq_true rfl)⟩) (fun E ce q9 H locs hX hP hS hc9 hv9 hcl9 => ?_)
  subst hX
  refine vx_catch (own := RL) (name := X_I) hown [] ⟨0, 9, 12, 13⟩ [] htab (fun z hz => nomatch hz) (by decide) (by decide) (hts (.classLink RL 13 X_I) (List.mem_of_getElem? (i := 1) rfl)) (va_Nw.use rfl (hE.2.2.2.2.2.1 (X_I, X_I) (by decide))) hc9 hv9 hcl9 ?_
  refine lv_astore_n (lv' := [(3, .ref q9), (0, .ref b), (1, .int p1), (2, .ref o)]) hx hb dL_tie_12 rfl hl (by decide) rfl (fun ls hl => ?_)
  refine lv_iconst (v := 1) hx hb dL_tie_13 (by decide) ?_
  exact enW () hx hb hr hlocks hS hP rfl (Nat.le_of_ble_eq_true rfl) (Nat.le_of_ble_eq_true rfl) dL_tie_14
set_option maxRecDepth 100000 in
set_option maxHeartbeats 4000000 in
theorem L_buy_0 {sa tb : Nat → Nat} {D : va_G} {cA cL : ClassId} {l : Launch} {f lo b o : Nat} {p1 : Int32} {wc : va_W} {fs : List Value} {g : Nat → Int64} {S : Type} {post : Int32 → S → Prop} {w1 : S → va_W} (hM : KM sa tb D cA cL l yX4_buy wsX4_buy ({ frames := f, cells := 0, slots := 0, locals := lo }) [.ref b, .int p1] wc (qI D post w1)) (he : wc[0]? = some (b, .inr (4, fs))) (haddr : ∀ u, (w1 u).map Prod.fst = wc.map Prod.fst) : KW sa tb D cA cL l yL_buy wsL_buy ({ frames := f + 1, cells := 1, slots := 6, locals := 8 + (3 + 11) + lo }) [.ref b, .int p1, .ref o] (wc ++ [oL cL o g]) (qI D (fun (r : Int32) (u : Int32 × S) => r = 0 ∧ post u.1 u.2) (fun u => w1 u.2 ++ [oL cL o (vp_updL g 0 u.1.toInt64)])) := by
  refine KW.of (cc := cL_buy) (maxL := 4) (ret := some .int) (hh := [(0, 9, 12, 15), (0, 9, 15, 17)]) (by decide) rfl (Nat.le_of_ble_eq_true rfl) ?_
  intro pg e s m args below meth c A hx hb hr hml hlocks hts hown htab hS hA hE hP hD ls hl
  have hown : s.vm.findClass RL = some m.cls := hown
  have hl : lv_has ls 4 [(0, .ref b), (1, .int p1), (2, .ref o)] := hl
  refine lv_aload_n hx hb dL_buy_0 rfl (lv_at hl 2 rfl) ?_
  refine lv_iconst (v := 0) hx hb dL_buy_1 (by decide) ?_
  refine lv_aload_n hx hb dL_buy_2 rfl (lv_at hl 0 rfl) ?_
  refine lv_iload_n hx hb dL_buy_3 rfl (lv_at hl 1 rfl) ?_
  refine goI [] [oL cL o g] hP hD hS hA (rnV (rest := [.int 0, .ref o]) hM [] [oL cL o g] hP hD hS hA hE ⟨hx, hb, hml, hown, hts⟩ (cwV 1 hts gL_buy_X4_buy rfl rfl rfl (by decide +kernel) ⟨Nat.le_refl _, Nat.le_refl _⟩) 4 0 rfl he rfl rfl hl.1 rfl (Nat.le_of_ble_eq_true rfl) dL_buy_4 ⟨Nat.zero_le _, Nat.zero_le _⟩) haddr (fun r u H locs hw hP hD hS => ?_)
  refine lv_i2l hx hb dL_buy_7 rfl ?_
  refine r_lst (pre := w1 u) hx hb hE hP hD hS dL_buy_8 (fun H locs hP hD hS => ?_)
  refine lv_goto (tgt := 18) hx hb dL_buy_9 (by decide) ?_
  refine lv_iconst (v := 0) hx hb dL_buy_18 (by decide) ?_
  exact enW (r, u) hx hb hr hlocks hS hP ⟨rfl, hw⟩ (Nat.zero_le _) (Nat.zero_le _) dL_buy_19
set_option maxRecDepth 100000 in
set_option maxHeartbeats 4000000 in
theorem L_buy_1 {sa tb : Nat → Nat} {D : va_G} {cA cL : ClassId} {l : Launch} {f lo b o : Nat} {p1 : Int32} {wc : va_W} {fs : List Value} {g : Nat → Int64} (hM : KX sa tb D cA cL l yX4_buy wsX4_buy ({ frames := f, cells := 1, slots := 6, locals := lo }) [.ref b, .int p1] wc (fun E => E = X_A)) (he : wc[0]? = some (b, .inr (4, fs))) : KW sa tb D cA cL l yL_buy wsL_buy ({ frames := f + 1, cells := 1, slots := 6, locals := 8 + (3 + 11) + lo }) [.ref b, .int p1, .ref o] (wc ++ [oL cL o g]) (qI D (fun (r : Int32) (_ : Unit) => r = 1) (fun _ => wc ++ [oL cL o g])) := by
  refine KW.of (cc := cL_buy) (maxL := 4) (ret := some .int) (hh := [(0, 9, 12, 15), (0, 9, 15, 17)]) (by decide) rfl (Nat.le_of_ble_eq_true rfl) ?_
  intro pg e s m args below meth c A hx hb hr hml hlocks hts hown htab hS hA hE hP hD ls hl
  have hown : s.vm.findClass RL = some m.cls := hown
  have hl : lv_has ls 4 [(0, .ref b), (1, .int p1), (2, .ref o)] := hl
  refine lv_aload_n hx hb dL_buy_0 rfl (lv_at hl 2 rfl) ?_
  refine lv_iconst (v := 0) hx hb dL_buy_1 (by decide) ?_
  refine lv_aload_n hx hb dL_buy_2 rfl (lv_at hl 0 rfl) ?_
  refine lv_iload_n hx hb dL_buy_3 rfl (lv_at hl 1 rfl) ?_
  refine goXc [] [oL cL o g] hP hD hS hA (rnXV (rest := [.int 0, .ref o]) hM [] [oL cL o g] hP hD hS hA hE ⟨hx, hb, hml, hown, hts⟩ (cwV 1 hts gL_buy_X4_buy rfl rfl rfl (by decide +kernel) ⟨Nat.le_refl _, Nat.le_refl _⟩) 4 0 rfl he rfl rfl hl.1 rfl (Nat.le_of_ble_eq_true rfl) dL_buy_4 ⟨(Nat.le_of_ble_eq_true rfl), (Nat.le_of_ble_eq_true rfl)⟩) (fun E ce q9 H locs hX hP hS hc9 hv9 hcl9 => ?_)
  subst hX
  refine vx_catch (own := RL) (name := X_A) hown [] ⟨0, 9, 12, 15⟩ [⟨0, 9, 15, 17⟩] htab (fun z hz => nomatch hz) (by decide) (by decide) (hts (.classLink RL 15 X_A) (List.mem_of_getElem? (i := 1) rfl)) (va_Nw.use rfl (hE.2.2.2.2.2.1 (X_A, X_A) (by decide))) hc9 hv9 hcl9 ?_
  refine lv_astore_n (lv' := [(3, .ref q9), (0, .ref b), (1, .int p1), (2, .ref o)]) hx hb dL_buy_12 rfl hl (by decide) rfl (fun ls hl => ?_)
  refine lv_iconst (v := 1) hx hb dL_buy_13 (by decide) ?_
  exact enW () hx hb hr hlocks hS hP rfl (Nat.le_of_ble_eq_true rfl) (Nat.le_of_ble_eq_true rfl) dL_buy_14
set_option maxRecDepth 100000 in
set_option maxHeartbeats 4000000 in
theorem L_buy_2 {sa tb : Nat → Nat} {D : va_G} {cA cL : ClassId} {l : Launch} {f lo b o : Nat} {p1 : Int32} {wc : va_W} {fs : List Value} {g : Nat → Int64} (hM : KX sa tb D cA cL l yX4_buy wsX4_buy ({ frames := f, cells := 1, slots := 6, locals := lo }) [.ref b, .int p1] wc (fun E => E = X_S)) (he : wc[0]? = some (b, .inr (4, fs))) : KW sa tb D cA cL l yL_buy wsL_buy ({ frames := f + 1, cells := 1, slots := 6, locals := 8 + (3 + 11) + lo }) [.ref b, .int p1, .ref o] (wc ++ [oL cL o g]) (qI D (fun (r : Int32) (_ : Unit) => r = 2) (fun _ => wc ++ [oL cL o g])) := by
  refine KW.of (cc := cL_buy) (maxL := 4) (ret := some .int) (hh := [(0, 9, 12, 15), (0, 9, 15, 17)]) (by decide) rfl (Nat.le_of_ble_eq_true rfl) ?_
  intro pg e s m args below meth c A hx hb hr hml hlocks hts hown htab hS hA hE hP hD ls hl
  have hown : s.vm.findClass RL = some m.cls := hown
  have hl : lv_has ls 4 [(0, .ref b), (1, .int p1), (2, .ref o)] := hl
  refine lv_aload_n hx hb dL_buy_0 rfl (lv_at hl 2 rfl) ?_
  refine lv_iconst (v := 0) hx hb dL_buy_1 (by decide) ?_
  refine lv_aload_n hx hb dL_buy_2 rfl (lv_at hl 0 rfl) ?_
  refine lv_iload_n hx hb dL_buy_3 rfl (lv_at hl 1 rfl) ?_
  refine goXc [] [oL cL o g] hP hD hS hA (rnXV (rest := [.int 0, .ref o]) hM [] [oL cL o g] hP hD hS hA hE ⟨hx, hb, hml, hown, hts⟩ (cwV 1 hts gL_buy_X4_buy rfl rfl rfl (by decide +kernel) ⟨Nat.le_refl _, Nat.le_refl _⟩) 4 0 rfl he rfl rfl hl.1 rfl (Nat.le_of_ble_eq_true rfl) dL_buy_4 ⟨(Nat.le_of_ble_eq_true rfl), (Nat.le_of_ble_eq_true rfl)⟩) (fun E ce q9 H locs hX hP hS hc9 hv9 hcl9 => ?_)
  subst hX
  refine vx_catch (own := RL) (name := X_S) hown [⟨0, 9, 12, 15⟩] ⟨0, 9, 15, 17⟩ [] htab (List.forall_mem_cons.mpr ⟨Or.inr ⟨by decide, X_A, hts (.classLink RL 15 X_A) (List.mem_of_getElem? (i := 1) rfl), hE.2.2.2.2.2.2.1 (X_S, X_A) (by decide)⟩, fun z hz => nomatch hz⟩) (by decide) (by decide) (hts (.classLink RL 17 X_S) (List.mem_of_getElem? (i := 2) rfl)) (va_Nw.use rfl (hE.2.2.2.2.2.1 (X_S, X_S) (by decide))) hc9 hv9 hcl9 ?_
  refine lv_astore_n (lv' := [(3, .ref q9), (0, .ref b), (1, .int p1), (2, .ref o)]) hx hb dL_buy_15 rfl hl (by decide) rfl (fun ls hl => ?_)
  refine lv_iconst (v := 2) hx hb dL_buy_16 (by decide) ?_
  exact enW () hx hb hr hlocks hS hP rfl (Nat.le_of_ble_eq_true rfl) (Nat.le_of_ble_eq_true rfl) dL_buy_17
set_option maxRecDepth 100000 in
set_option maxHeartbeats 4000000 in
theorem L_about_0 {sa tb : Nat → Nat} {D : va_G} {cA cL : ClassId} {l : Launch} {f lo b o : Nat} {p1 p2 : Int32} {wc : va_W} {fs : List Value} {g : Nat → Int64} {S : Type} {post : Int32 → S → Prop} {w1 : S → va_W} (hM : KM sa tb D cA cL l yX4_about wsX4_about ({ frames := f, cells := 0, slots := 0, locals := lo }) [.ref b, .int p1, .int p2] wc (qI D post w1)) (he : wc[0]? = some (b, .inr (4, fs))) (haddr : ∀ u, (w1 u).map Prod.fst = wc.map Prod.fst) : KW sa tb D cA cL l yL_about wsL_about ({ frames := f + 1, cells := 1, slots := 6, locals := 8 + (3 + 11) + lo }) [.ref b, .int p1, .int p2, .ref o] (wc ++ [oL cL o g]) (qI D (fun (r : Int32) (u : Int32 × S) => r = 0 ∧ post u.1 u.2) (fun u => w1 u.2 ++ [oL cL o (vp_updL g 0 u.1.toInt64)])) := by
  refine KW.of (cc := cL_about) (maxL := 5) (ret := some .int) (hh := [(0, 10, 13, 13)]) (by decide) rfl (Nat.le_of_ble_eq_true rfl) ?_
  intro pg e s m args below meth c A hx hb hr hml hlocks hts hown htab hS hA hE hP hD ls hl
  have hown : s.vm.findClass RL = some m.cls := hown
  have hl : lv_has ls 5 [(0, .ref b), (1, .int p1), (2, .int p2), (3, .ref o)] := hl
  refine lv_aload_n hx hb dL_about_0 rfl (lv_at hl 3 rfl) ?_
  refine lv_iconst (v := 0) hx hb dL_about_1 (by decide) ?_
  refine lv_aload_n hx hb dL_about_2 rfl (lv_at hl 0 rfl) ?_
  refine lv_iload_n hx hb dL_about_3 rfl (lv_at hl 1 rfl) ?_
  refine lv_iload_n hx hb dL_about_4 rfl (lv_at hl 2 rfl) ?_
  refine goI [] [oL cL o g] hP hD hS hA (rnV (rest := [.int 0, .ref o]) hM [] [oL cL o g] hP hD hS hA hE ⟨hx, hb, hml, hown, hts⟩ (cwV 2 hts gL_about_X4_about rfl rfl rfl (by decide +kernel) ⟨Nat.le_refl _, Nat.le_refl _⟩) 4 0 rfl he rfl rfl hl.1 rfl (Nat.le_of_ble_eq_true rfl) dL_about_5 ⟨Nat.zero_le _, Nat.zero_le _⟩) haddr (fun r u H locs hw hP hD hS => ?_)
  refine lv_i2l hx hb dL_about_8 rfl ?_
  refine r_lst (pre := w1 u) hx hb hE hP hD hS dL_about_9 (fun H locs hP hD hS => ?_)
  refine lv_goto (tgt := 17) hx hb dL_about_10 (by decide) ?_
  refine lv_iconst (v := 0) hx hb dL_about_17 (by decide) ?_
  exact enW (r, u) hx hb hr hlocks hS hP ⟨rfl, hw⟩ (Nat.zero_le _) (Nat.zero_le _) dL_about_18
set_option maxRecDepth 100000 in
set_option maxHeartbeats 4000000 in
theorem L_about_1 {sa tb : Nat → Nat} {D : va_G} {cA cL : ClassId} {l : Launch} {f lo b o : Nat} {p1 p2 : Int32} {wc : va_W} {fs : List Value} {g : Nat → Int64} (hM : KX sa tb D cA cL l yX4_about wsX4_about ({ frames := f, cells := 1, slots := 6, locals := lo }) [.ref b, .int p1, .int p2] wc (fun E => E = X_I)) (he : wc[0]? = some (b, .inr (4, fs))) : KW sa tb D cA cL l yL_about wsL_about ({ frames := f + 1, cells := 1, slots := 6, locals := 8 + (3 + 11) + lo }) [.ref b, .int p1, .int p2, .ref o] (wc ++ [oL cL o g]) (qI D (fun (r : Int32) (_ : Unit) => r = 1) (fun _ => wc ++ [oL cL o g])) := by
  refine KW.of (cc := cL_about) (maxL := 5) (ret := some .int) (hh := [(0, 10, 13, 13)]) (by decide) rfl (Nat.le_of_ble_eq_true rfl) ?_
  intro pg e s m args below meth c A hx hb hr hml hlocks hts hown htab hS hA hE hP hD ls hl
  have hown : s.vm.findClass RL = some m.cls := hown
  have hl : lv_has ls 5 [(0, .ref b), (1, .int p1), (2, .int p2), (3, .ref o)] := hl
  refine lv_aload_n hx hb dL_about_0 rfl (lv_at hl 3 rfl) ?_
  refine lv_iconst (v := 0) hx hb dL_about_1 (by decide) ?_
  refine lv_aload_n hx hb dL_about_2 rfl (lv_at hl 0 rfl) ?_
  refine lv_iload_n hx hb dL_about_3 rfl (lv_at hl 1 rfl) ?_
  refine lv_iload_n hx hb dL_about_4 rfl (lv_at hl 2 rfl) ?_
  refine goXc [] [oL cL o g] hP hD hS hA (rnXV (rest := [.int 0, .ref o]) hM [] [oL cL o g] hP hD hS hA hE ⟨hx, hb, hml, hown, hts⟩ (cwV 2 hts gL_about_X4_about rfl rfl rfl (by decide +kernel) ⟨Nat.le_refl _, Nat.le_refl _⟩) 4 0 rfl he rfl rfl hl.1 rfl (Nat.le_of_ble_eq_true rfl) dL_about_5 ⟨(Nat.le_of_ble_eq_true rfl), (Nat.le_of_ble_eq_true rfl)⟩) (fun E ce q9 H locs hX hP hS hc9 hv9 hcl9 => ?_)
  subst hX
  refine vx_catch (own := RL) (name := X_I) hown [] ⟨0, 10, 13, 13⟩ [] htab (fun z hz => nomatch hz) (by decide) (by decide) (hts (.classLink RL 13 X_I) (List.mem_of_getElem? (i := 1) rfl)) (va_Nw.use rfl (hE.2.2.2.2.2.1 (X_I, X_I) (by decide))) hc9 hv9 hcl9 ?_
  refine lv_astore (lv' := [(4, .ref q9), (0, .ref b), (1, .int p1), (2, .int p2), (3, .ref o)]) hx hb dL_about_13 hl (by decide) rfl (fun ls hl => ?_)
  refine lv_iconst (v := 1) hx hb dL_about_15 (by decide) ?_
  exact enW () hx hb hr hlocks hS hP rfl (Nat.le_of_ble_eq_true rfl) (Nat.le_of_ble_eq_true rfl) dL_about_16
set_option maxRecDepth 100000 in
set_option maxHeartbeats 4000000 in
theorem L_best_0 {sa tb : Nat → Nat} {D : va_G} {cA cL : ClassId} {l : Launch} {f lo b o : Nat} {p1 : Int32} {wc : va_W} {fs : List Value} {g : Nat → Int64} {S : Type} {post : Int32 → S → Prop} {w1 : S → va_W} (hM : KM sa tb D cA cL l yX4_best wsX4_best ({ frames := f, cells := 0, slots := 0, locals := lo }) [.ref b, .int p1] wc (qI D post w1)) (he : wc[0]? = some (b, .inr (4, fs))) (haddr : ∀ u, (w1 u).map Prod.fst = wc.map Prod.fst) : KW sa tb D cA cL l yL_best wsL_best ({ frames := f + 1, cells := 1, slots := 6, locals := 8 + (6 + 11) + lo }) [.ref b, .int p1, .ref o] (wc ++ [oL cL o g]) (qI D (fun (r : Int32) (u : Int32 × S) => r = 0 ∧ post u.1 u.2) (fun u => w1 u.2 ++ [oL cL o (vp_updL g 0 u.1.toInt64)])) := by
  refine KW.of (cc := cL_best) (maxL := 4) (ret := some .int) (hh := [(0, 9, 12, 13)]) (by decide) rfl (Nat.le_of_ble_eq_true rfl) ?_
  intro pg e s m args below meth c A hx hb hr hml hlocks hts hown htab hS hA hE hP hD ls hl
  have hown : s.vm.findClass RL = some m.cls := hown
  have hl : lv_has ls 4 [(0, .ref b), (1, .int p1), (2, .ref o)] := hl
  refine lv_aload_n hx hb dL_best_0 rfl (lv_at hl 2 rfl) ?_
  refine lv_iconst (v := 0) hx hb dL_best_1 (by decide) ?_
  refine lv_aload_n hx hb dL_best_2 rfl (lv_at hl 0 rfl) ?_
  refine lv_iload_n hx hb dL_best_3 rfl (lv_at hl 1 rfl) ?_
  refine goI [] [oL cL o g] hP hD hS hA (rnV (rest := [.int 0, .ref o]) hM [] [oL cL o g] hP hD hS hA hE ⟨hx, hb, hml, hown, hts⟩ (cwV 1 hts gL_best_X4_best rfl rfl rfl (by decide +kernel) ⟨Nat.le_refl _, Nat.le_refl _⟩) 4 0 rfl he rfl rfl hl.1 rfl (Nat.le_of_ble_eq_true rfl) dL_best_4 ⟨Nat.zero_le _, Nat.zero_le _⟩) haddr (fun r u H locs hw hP hD hS => ?_)
  refine lv_i2l hx hb dL_best_7 rfl ?_
  refine r_lst (pre := w1 u) hx hb hE hP hD hS dL_best_8 (fun H locs hP hD hS => ?_)
  refine lv_goto (tgt := 15) hx hb dL_best_9 (by decide) ?_
  refine lv_iconst (v := 0) hx hb dL_best_15 (by decide) ?_
  exact enW (r, u) hx hb hr hlocks hS hP ⟨rfl, hw⟩ (Nat.zero_le _) (Nat.zero_le _) dL_best_16
set_option maxRecDepth 100000 in
set_option maxHeartbeats 4000000 in
theorem L_best_1 {sa tb : Nat → Nat} {D : va_G} {cA cL : ClassId} {l : Launch} {f lo b o : Nat} {p1 : Int32} {wc : va_W} {fs : List Value} {g : Nat → Int64} (hM : KX sa tb D cA cL l yX4_best wsX4_best ({ frames := f, cells := 1, slots := 6, locals := lo }) [.ref b, .int p1] wc (fun E => E = X_I)) (he : wc[0]? = some (b, .inr (4, fs))) : KW sa tb D cA cL l yL_best wsL_best ({ frames := f + 1, cells := 1, slots := 6, locals := 8 + (6 + 11) + lo }) [.ref b, .int p1, .ref o] (wc ++ [oL cL o g]) (qI D (fun (r : Int32) (_ : Unit) => r = 1) (fun _ => wc ++ [oL cL o g])) := by
  refine KW.of (cc := cL_best) (maxL := 4) (ret := some .int) (hh := [(0, 9, 12, 13)]) (by decide) rfl (Nat.le_of_ble_eq_true rfl) ?_
  intro pg e s m args below meth c A hx hb hr hml hlocks hts hown htab hS hA hE hP hD ls hl
  have hown : s.vm.findClass RL = some m.cls := hown
  have hl : lv_has ls 4 [(0, .ref b), (1, .int p1), (2, .ref o)] := hl
  refine lv_aload_n hx hb dL_best_0 rfl (lv_at hl 2 rfl) ?_
  refine lv_iconst (v := 0) hx hb dL_best_1 (by decide) ?_
  refine lv_aload_n hx hb dL_best_2 rfl (lv_at hl 0 rfl) ?_
  refine lv_iload_n hx hb dL_best_3 rfl (lv_at hl 1 rfl) ?_
  refine goXc [] [oL cL o g] hP hD hS hA (rnXV (rest := [.int 0, .ref o]) hM [] [oL cL o g] hP hD hS hA hE ⟨hx, hb, hml, hown, hts⟩ (cwV 1 hts gL_best_X4_best rfl rfl rfl (by decide +kernel) ⟨Nat.le_refl _, Nat.le_refl _⟩) 4 0 rfl he rfl rfl hl.1 rfl (Nat.le_of_ble_eq_true rfl) dL_best_4 ⟨(Nat.le_of_ble_eq_true rfl), (Nat.le_of_ble_eq_true rfl)⟩) (fun E ce q9 H locs hX hP hS hc9 hv9 hcl9 => ?_)
  subst hX
  refine vx_catch (own := RL) (name := X_I) hown [] ⟨0, 9, 12, 13⟩ [] htab (fun z hz => nomatch hz) (by decide) (by decide) (hts (.classLink RL 13 X_I) (List.mem_of_getElem? (i := 1) rfl)) (va_Nw.use rfl (hE.2.2.2.2.2.1 (X_I, X_I) (by decide))) hc9 hv9 hcl9 ?_
  refine lv_astore_n (lv' := [(3, .ref q9), (0, .ref b), (1, .int p1), (2, .ref o)]) hx hb dL_best_12 rfl hl (by decide) rfl (fun ls hl => ?_)
  refine lv_iconst (v := 1) hx hb dL_best_13 (by decide) ?_
  exact enW () hx hb hr hlocks hS hP rfl (Nat.le_of_ble_eq_true rfl) (Nat.le_of_ble_eq_true rfl) dL_best_14
set_option maxRecDepth 100000 in
set_option maxHeartbeats 4000000 in
theorem L_barge_0 {sa tb : Nat → Nat} {D : va_G} {cA cL : ClassId} {l : Launch} {f lo b o : Nat} {p1 : Int32} {wc : va_W} {fs : List Value} {g : Nat → Int64} {S : Type} {post : Int32 → S → Prop} {w1 : S → va_W} (hM : KM sa tb D cA cL l yX4_barge wsX4_barge ({ frames := f, cells := 0, slots := 0, locals := lo }) [.ref b, .int p1] wc (qI D post w1)) (he : wc[0]? = some (b, .inr (4, fs))) (haddr : ∀ u, (w1 u).map Prod.fst = wc.map Prod.fst) : KW sa tb D cA cL l yL_barge wsL_barge ({ frames := f + 1, cells := 1, slots := 6, locals := 8 + (2 + 11) + lo }) [.ref b, .int p1, .ref o] (wc ++ [oL cL o g]) (qI D (fun (r : Int32) (u : Int32 × S) => r = 0 ∧ post u.1 u.2) (fun u => w1 u.2 ++ [oL cL o (vp_updL g 0 u.1.toInt64)])) := by
  refine KW.of (cc := cL_barge) (maxL := 4) (ret := some .int) (hh := [(0, 9, 12, 13), (0, 9, 15, 17)]) (by decide) rfl (Nat.le_of_ble_eq_true rfl) ?_
  intro pg e s m args below meth c A hx hb hr hml hlocks hts hown htab hS hA hE hP hD ls hl
  have hown : s.vm.findClass RL = some m.cls := hown
  have hl : lv_has ls 4 [(0, .ref b), (1, .int p1), (2, .ref o)] := hl
  refine lv_aload_n hx hb dL_barge_0 rfl (lv_at hl 2 rfl) ?_
  refine lv_iconst (v := 0) hx hb dL_barge_1 (by decide) ?_
  refine lv_aload_n hx hb dL_barge_2 rfl (lv_at hl 0 rfl) ?_
  refine lv_iload_n hx hb dL_barge_3 rfl (lv_at hl 1 rfl) ?_
  refine goI [] [oL cL o g] hP hD hS hA (rnV (rest := [.int 0, .ref o]) hM [] [oL cL o g] hP hD hS hA hE ⟨hx, hb, hml, hown, hts⟩ (cwV 1 hts gL_barge_X4_barge rfl rfl rfl (by decide +kernel) ⟨Nat.le_refl _, Nat.le_refl _⟩) 4 0 rfl he rfl rfl hl.1 rfl (Nat.le_of_ble_eq_true rfl) dL_barge_4 ⟨Nat.zero_le _, Nat.zero_le _⟩) haddr (fun r u H locs hw hP hD hS => ?_)
  refine lv_i2l hx hb dL_barge_7 rfl ?_
  refine r_lst (pre := w1 u) hx hb hE hP hD hS dL_barge_8 (fun H locs hP hD hS => ?_)
  refine lv_goto (tgt := 18) hx hb dL_barge_9 (by decide) ?_
  refine lv_iconst (v := 0) hx hb dL_barge_18 (by decide) ?_
  exact enW (r, u) hx hb hr hlocks hS hP ⟨rfl, hw⟩ (Nat.zero_le _) (Nat.zero_le _) dL_barge_19
set_option maxRecDepth 100000 in
set_option maxHeartbeats 4000000 in
theorem L_barge_1 {sa tb : Nat → Nat} {D : va_G} {cA cL : ClassId} {l : Launch} {f lo b o : Nat} {p1 : Int32} {wc : va_W} {fs : List Value} {g : Nat → Int64} (hM : KX sa tb D cA cL l yX4_barge wsX4_barge ({ frames := f, cells := 1, slots := 6, locals := lo }) [.ref b, .int p1] wc (fun E => E = X_I)) (he : wc[0]? = some (b, .inr (4, fs))) : KW sa tb D cA cL l yL_barge wsL_barge ({ frames := f + 1, cells := 1, slots := 6, locals := 8 + (2 + 11) + lo }) [.ref b, .int p1, .ref o] (wc ++ [oL cL o g]) (qI D (fun (r : Int32) (_ : Unit) => r = 1) (fun _ => wc ++ [oL cL o g])) := by
  refine KW.of (cc := cL_barge) (maxL := 4) (ret := some .int) (hh := [(0, 9, 12, 13), (0, 9, 15, 17)]) (by decide) rfl (Nat.le_of_ble_eq_true rfl) ?_
  intro pg e s m args below meth c A hx hb hr hml hlocks hts hown htab hS hA hE hP hD ls hl
  have hown : s.vm.findClass RL = some m.cls := hown
  have hl : lv_has ls 4 [(0, .ref b), (1, .int p1), (2, .ref o)] := hl
  refine lv_aload_n hx hb dL_barge_0 rfl (lv_at hl 2 rfl) ?_
  refine lv_iconst (v := 0) hx hb dL_barge_1 (by decide) ?_
  refine lv_aload_n hx hb dL_barge_2 rfl (lv_at hl 0 rfl) ?_
  refine lv_iload_n hx hb dL_barge_3 rfl (lv_at hl 1 rfl) ?_
  refine goXc [] [oL cL o g] hP hD hS hA (rnXV (rest := [.int 0, .ref o]) hM [] [oL cL o g] hP hD hS hA hE ⟨hx, hb, hml, hown, hts⟩ (cwV 1 hts gL_barge_X4_barge rfl rfl rfl (by decide +kernel) ⟨Nat.le_refl _, Nat.le_refl _⟩) 4 0 rfl he rfl rfl hl.1 rfl (Nat.le_of_ble_eq_true rfl) dL_barge_4 ⟨(Nat.le_of_ble_eq_true rfl), (Nat.le_of_ble_eq_true rfl)⟩) (fun E ce q9 H locs hX hP hS hc9 hv9 hcl9 => ?_)
  subst hX
  refine vx_catch (own := RL) (name := X_I) hown [] ⟨0, 9, 12, 13⟩ [⟨0, 9, 15, 17⟩] htab (fun z hz => nomatch hz) (by decide) (by decide) (hts (.classLink RL 13 X_I) (List.mem_of_getElem? (i := 1) rfl)) (va_Nw.use rfl (hE.2.2.2.2.2.1 (X_I, X_I) (by decide))) hc9 hv9 hcl9 ?_
  refine lv_astore_n (lv' := [(3, .ref q9), (0, .ref b), (1, .int p1), (2, .ref o)]) hx hb dL_barge_12 rfl hl (by decide) rfl (fun ls hl => ?_)
  refine lv_iconst (v := 1) hx hb dL_barge_13 (by decide) ?_
  exact enW () hx hb hr hlocks hS hP rfl (Nat.le_of_ble_eq_true rfl) (Nat.le_of_ble_eq_true rfl) dL_barge_14
set_option maxRecDepth 100000 in
set_option maxHeartbeats 4000000 in
theorem L_barge_2 {sa tb : Nat → Nat} {D : va_G} {cA cL : ClassId} {l : Launch} {f lo b o : Nat} {p1 : Int32} {wc : va_W} {fs : List Value} {g : Nat → Int64} (hM : KX sa tb D cA cL l yX4_barge wsX4_barge ({ frames := f, cells := 1, slots := 6, locals := lo }) [.ref b, .int p1] wc (fun E => E = X_S)) (he : wc[0]? = some (b, .inr (4, fs))) : KW sa tb D cA cL l yL_barge wsL_barge ({ frames := f + 1, cells := 1, slots := 6, locals := 8 + (2 + 11) + lo }) [.ref b, .int p1, .ref o] (wc ++ [oL cL o g]) (qI D (fun (r : Int32) (_ : Unit) => r = 2) (fun _ => wc ++ [oL cL o g])) := by
  refine KW.of (cc := cL_barge) (maxL := 4) (ret := some .int) (hh := [(0, 9, 12, 13), (0, 9, 15, 17)]) (by decide) rfl (Nat.le_of_ble_eq_true rfl) ?_
  intro pg e s m args below meth c A hx hb hr hml hlocks hts hown htab hS hA hE hP hD ls hl
  have hown : s.vm.findClass RL = some m.cls := hown
  have hl : lv_has ls 4 [(0, .ref b), (1, .int p1), (2, .ref o)] := hl
  refine lv_aload_n hx hb dL_barge_0 rfl (lv_at hl 2 rfl) ?_
  refine lv_iconst (v := 0) hx hb dL_barge_1 (by decide) ?_
  refine lv_aload_n hx hb dL_barge_2 rfl (lv_at hl 0 rfl) ?_
  refine lv_iload_n hx hb dL_barge_3 rfl (lv_at hl 1 rfl) ?_
  refine goXc [] [oL cL o g] hP hD hS hA (rnXV (rest := [.int 0, .ref o]) hM [] [oL cL o g] hP hD hS hA hE ⟨hx, hb, hml, hown, hts⟩ (cwV 1 hts gL_barge_X4_barge rfl rfl rfl (by decide +kernel) ⟨Nat.le_refl _, Nat.le_refl _⟩) 4 0 rfl he rfl rfl hl.1 rfl (Nat.le_of_ble_eq_true rfl) dL_barge_4 ⟨(Nat.le_of_ble_eq_true rfl), (Nat.le_of_ble_eq_true rfl)⟩) (fun E ce q9 H locs hX hP hS hc9 hv9 hcl9 => ?_)
  subst hX
  refine vx_catch (own := RL) (name := X_S) hown [⟨0, 9, 12, 13⟩] ⟨0, 9, 15, 17⟩ [] htab (List.forall_mem_cons.mpr ⟨Or.inr ⟨by decide, X_I, hts (.classLink RL 13 X_I) (List.mem_of_getElem? (i := 1) rfl), hE.2.2.2.2.2.2.1 (X_S, X_I) (by decide)⟩, fun z hz => nomatch hz⟩) (by decide) (by decide) (hts (.classLink RL 17 X_S) (List.mem_of_getElem? (i := 2) rfl)) (va_Nw.use rfl (hE.2.2.2.2.2.1 (X_S, X_S) (by decide))) hc9 hv9 hcl9 ?_
  refine lv_astore_n (lv' := [(3, .ref q9), (0, .ref b), (1, .int p1), (2, .ref o)]) hx hb dL_barge_15 rfl hl (by decide) rfl (fun ls hl => ?_)
  refine lv_iconst (v := 2) hx hb dL_barge_16 (by decide) ?_
  exact enW () hx hb hr hlocks hS hP rfl (Nat.le_of_ble_eq_true rfl) (Nat.le_of_ble_eq_true rfl) dL_barge_17
set_option maxRecDepth 100000 in
set_option maxHeartbeats 4000000 in
theorem L_sail_0 {sa tb : Nat → Nat} {D : va_G} {cA cL : ClassId} {l : Launch} {f lo b o : Nat} {p1 p2 : Int32} {wc : va_W} {fs : List Value} {g : Nat → Int64} {S : Type} {post : Int32 → S → Prop} {w1 : S → va_W} (hM : KM sa tb D cA cL l yX4_sail wsX4_sail ({ frames := f, cells := 0, slots := 0, locals := lo }) [.ref b, .int p1, .int p2] wc (qI D post w1)) (he : wc[0]? = some (b, .inr (4, fs))) (haddr : ∀ u, (w1 u).map Prod.fst = wc.map Prod.fst) : KW sa tb D cA cL l yL_sail wsL_sail ({ frames := f + 1, cells := 1, slots := 6, locals := 8 + (3 + 11) + lo }) [.ref b, .int p1, .int p2, .ref o] (wc ++ [oL cL o g]) (qI D (fun (r : Int32) (u : Int32 × S) => r = 0 ∧ post u.1 u.2) (fun u => w1 u.2 ++ [oL cL o (vp_updL g 0 u.1.toInt64)])) := by
  refine KW.of (cc := cL_sail) (maxL := 5) (ret := some .int) (hh := [(0, 10, 13, 13)]) (by decide) rfl (Nat.le_of_ble_eq_true rfl) ?_
  intro pg e s m args below meth c A hx hb hr hml hlocks hts hown htab hS hA hE hP hD ls hl
  have hown : s.vm.findClass RL = some m.cls := hown
  have hl : lv_has ls 5 [(0, .ref b), (1, .int p1), (2, .int p2), (3, .ref o)] := hl
  refine lv_aload_n hx hb dL_sail_0 rfl (lv_at hl 3 rfl) ?_
  refine lv_iconst (v := 0) hx hb dL_sail_1 (by decide) ?_
  refine lv_aload_n hx hb dL_sail_2 rfl (lv_at hl 0 rfl) ?_
  refine lv_iload_n hx hb dL_sail_3 rfl (lv_at hl 1 rfl) ?_
  refine lv_iload_n hx hb dL_sail_4 rfl (lv_at hl 2 rfl) ?_
  refine goI [] [oL cL o g] hP hD hS hA (rnV (rest := [.int 0, .ref o]) hM [] [oL cL o g] hP hD hS hA hE ⟨hx, hb, hml, hown, hts⟩ (cwV 2 hts gL_sail_X4_sail rfl rfl rfl (by decide +kernel) ⟨Nat.le_refl _, Nat.le_refl _⟩) 4 0 rfl he rfl rfl hl.1 rfl (Nat.le_of_ble_eq_true rfl) dL_sail_5 ⟨Nat.zero_le _, Nat.zero_le _⟩) haddr (fun r u H locs hw hP hD hS => ?_)
  refine lv_i2l hx hb dL_sail_8 rfl ?_
  refine r_lst (pre := w1 u) hx hb hE hP hD hS dL_sail_9 (fun H locs hP hD hS => ?_)
  refine lv_goto (tgt := 17) hx hb dL_sail_10 (by decide) ?_
  refine lv_iconst (v := 0) hx hb dL_sail_17 (by decide) ?_
  exact enW (r, u) hx hb hr hlocks hS hP ⟨rfl, hw⟩ (Nat.zero_le _) (Nat.zero_le _) dL_sail_18
set_option maxRecDepth 100000 in
set_option maxHeartbeats 4000000 in
theorem L_sail_1 {sa tb : Nat → Nat} {D : va_G} {cA cL : ClassId} {l : Launch} {f lo b o : Nat} {p1 p2 : Int32} {wc : va_W} {fs : List Value} {g : Nat → Int64} (hM : KX sa tb D cA cL l yX4_sail wsX4_sail ({ frames := f, cells := 1, slots := 6, locals := lo }) [.ref b, .int p1, .int p2] wc (fun E => E = X_I)) (he : wc[0]? = some (b, .inr (4, fs))) : KW sa tb D cA cL l yL_sail wsL_sail ({ frames := f + 1, cells := 1, slots := 6, locals := 8 + (3 + 11) + lo }) [.ref b, .int p1, .int p2, .ref o] (wc ++ [oL cL o g]) (qI D (fun (r : Int32) (_ : Unit) => r = 1) (fun _ => wc ++ [oL cL o g])) := by
  refine KW.of (cc := cL_sail) (maxL := 5) (ret := some .int) (hh := [(0, 10, 13, 13)]) (by decide) rfl (Nat.le_of_ble_eq_true rfl) ?_
  intro pg e s m args below meth c A hx hb hr hml hlocks hts hown htab hS hA hE hP hD ls hl
  have hown : s.vm.findClass RL = some m.cls := hown
  have hl : lv_has ls 5 [(0, .ref b), (1, .int p1), (2, .int p2), (3, .ref o)] := hl
  refine lv_aload_n hx hb dL_sail_0 rfl (lv_at hl 3 rfl) ?_
  refine lv_iconst (v := 0) hx hb dL_sail_1 (by decide) ?_
  refine lv_aload_n hx hb dL_sail_2 rfl (lv_at hl 0 rfl) ?_
  refine lv_iload_n hx hb dL_sail_3 rfl (lv_at hl 1 rfl) ?_
  refine lv_iload_n hx hb dL_sail_4 rfl (lv_at hl 2 rfl) ?_
  refine goXc [] [oL cL o g] hP hD hS hA (rnXV (rest := [.int 0, .ref o]) hM [] [oL cL o g] hP hD hS hA hE ⟨hx, hb, hml, hown, hts⟩ (cwV 2 hts gL_sail_X4_sail rfl rfl rfl (by decide +kernel) ⟨Nat.le_refl _, Nat.le_refl _⟩) 4 0 rfl he rfl rfl hl.1 rfl (Nat.le_of_ble_eq_true rfl) dL_sail_5 ⟨(Nat.le_of_ble_eq_true rfl), (Nat.le_of_ble_eq_true rfl)⟩) (fun E ce q9 H locs hX hP hS hc9 hv9 hcl9 => ?_)
  subst hX
  refine vx_catch (own := RL) (name := X_I) hown [] ⟨0, 10, 13, 13⟩ [] htab (fun z hz => nomatch hz) (by decide) (by decide) (hts (.classLink RL 13 X_I) (List.mem_of_getElem? (i := 1) rfl)) (va_Nw.use rfl (hE.2.2.2.2.2.1 (X_I, X_I) (by decide))) hc9 hv9 hcl9 ?_
  refine lv_astore (lv' := [(4, .ref q9), (0, .ref b), (1, .int p1), (2, .int p2), (3, .ref o)]) hx hb dL_sail_13 hl (by decide) rfl (fun ls hl => ?_)
  refine lv_iconst (v := 1) hx hb dL_sail_15 (by decide) ?_
  exact enW () hx hb hr hlocks hS hP rfl (Nat.le_of_ble_eq_true rfl) (Nat.le_of_ble_eq_true rfl) dL_sail_16
set_option maxRecDepth 100000 in
set_option maxHeartbeats 4000000 in
theorem L_load_0 {sa tb : Nat → Nat} {D : va_G} {cA cL : ClassId} {l : Launch} {f lo b o : Nat} {p1 p2 : Int32} {wc : va_W} {fs : List Value} {g : Nat → Int64} {S : Type} {post : Int32 → S → Prop} {w1 : S → va_W} (hM : KM sa tb D cA cL l yX4_load wsX4_load ({ frames := f, cells := 0, slots := 0, locals := lo }) [.ref b, .int p1, .int p2] wc (qI D post w1)) (he : wc[0]? = some (b, .inr (4, fs))) (haddr : ∀ u, (w1 u).map Prod.fst = wc.map Prod.fst) : KW sa tb D cA cL l yL_load wsL_load ({ frames := f + 1, cells := 1, slots := 6, locals := 8 + (3 + 11) + lo }) [.ref b, .int p1, .int p2, .ref o] (wc ++ [oL cL o g]) (qI D (fun (r : Int32) (u : Int32 × S) => r = 0 ∧ post u.1 u.2) (fun u => w1 u.2 ++ [oL cL o (vp_updL g 0 u.1.toInt64)])) := by
  refine KW.of (cc := cL_load) (maxL := 5) (ret := some .int) (hh := [(0, 10, 13, 13), (0, 10, 17, 17)]) (by decide) rfl (Nat.le_of_ble_eq_true rfl) ?_
  intro pg e s m args below meth c A hx hb hr hml hlocks hts hown htab hS hA hE hP hD ls hl
  have hown : s.vm.findClass RL = some m.cls := hown
  have hl : lv_has ls 5 [(0, .ref b), (1, .int p1), (2, .int p2), (3, .ref o)] := hl
  refine lv_aload_n hx hb dL_load_0 rfl (lv_at hl 3 rfl) ?_
  refine lv_iconst (v := 0) hx hb dL_load_1 (by decide) ?_
  refine lv_aload_n hx hb dL_load_2 rfl (lv_at hl 0 rfl) ?_
  refine lv_iload_n hx hb dL_load_3 rfl (lv_at hl 1 rfl) ?_
  refine lv_iload_n hx hb dL_load_4 rfl (lv_at hl 2 rfl) ?_
  refine goI [] [oL cL o g] hP hD hS hA (rnV (rest := [.int 0, .ref o]) hM [] [oL cL o g] hP hD hS hA hE ⟨hx, hb, hml, hown, hts⟩ (cwV 2 hts gL_load_X4_load rfl rfl rfl (by decide +kernel) ⟨Nat.le_refl _, Nat.le_refl _⟩) 4 0 rfl he rfl rfl hl.1 rfl (Nat.le_of_ble_eq_true rfl) dL_load_5 ⟨Nat.zero_le _, Nat.zero_le _⟩) haddr (fun r u H locs hw hP hD hS => ?_)
  refine lv_i2l hx hb dL_load_8 rfl ?_
  refine r_lst (pre := w1 u) hx hb hE hP hD hS dL_load_9 (fun H locs hP hD hS => ?_)
  refine lv_goto (tgt := 21) hx hb dL_load_10 (by decide) ?_
  refine lv_iconst (v := 0) hx hb dL_load_21 (by decide) ?_
  exact enW (r, u) hx hb hr hlocks hS hP ⟨rfl, hw⟩ (Nat.zero_le _) (Nat.zero_le _) dL_load_22
set_option maxRecDepth 100000 in
set_option maxHeartbeats 4000000 in
theorem L_load_1 {sa tb : Nat → Nat} {D : va_G} {cA cL : ClassId} {l : Launch} {f lo b o : Nat} {p1 p2 : Int32} {wc : va_W} {fs : List Value} {g : Nat → Int64} (hM : KX sa tb D cA cL l yX4_load wsX4_load ({ frames := f, cells := 1, slots := 6, locals := lo }) [.ref b, .int p1, .int p2] wc (fun E => E = X_I)) (he : wc[0]? = some (b, .inr (4, fs))) : KW sa tb D cA cL l yL_load wsL_load ({ frames := f + 1, cells := 1, slots := 6, locals := 8 + (3 + 11) + lo }) [.ref b, .int p1, .int p2, .ref o] (wc ++ [oL cL o g]) (qI D (fun (r : Int32) (_ : Unit) => r = 1) (fun _ => wc ++ [oL cL o g])) := by
  refine KW.of (cc := cL_load) (maxL := 5) (ret := some .int) (hh := [(0, 10, 13, 13), (0, 10, 17, 17)]) (by decide) rfl (Nat.le_of_ble_eq_true rfl) ?_
  intro pg e s m args below meth c A hx hb hr hml hlocks hts hown htab hS hA hE hP hD ls hl
  have hown : s.vm.findClass RL = some m.cls := hown
  have hl : lv_has ls 5 [(0, .ref b), (1, .int p1), (2, .int p2), (3, .ref o)] := hl
  refine lv_aload_n hx hb dL_load_0 rfl (lv_at hl 3 rfl) ?_
  refine lv_iconst (v := 0) hx hb dL_load_1 (by decide) ?_
  refine lv_aload_n hx hb dL_load_2 rfl (lv_at hl 0 rfl) ?_
  refine lv_iload_n hx hb dL_load_3 rfl (lv_at hl 1 rfl) ?_
  refine lv_iload_n hx hb dL_load_4 rfl (lv_at hl 2 rfl) ?_
  refine goXc [] [oL cL o g] hP hD hS hA (rnXV (rest := [.int 0, .ref o]) hM [] [oL cL o g] hP hD hS hA hE ⟨hx, hb, hml, hown, hts⟩ (cwV 2 hts gL_load_X4_load rfl rfl rfl (by decide +kernel) ⟨Nat.le_refl _, Nat.le_refl _⟩) 4 0 rfl he rfl rfl hl.1 rfl (Nat.le_of_ble_eq_true rfl) dL_load_5 ⟨(Nat.le_of_ble_eq_true rfl), (Nat.le_of_ble_eq_true rfl)⟩) (fun E ce q9 H locs hX hP hS hc9 hv9 hcl9 => ?_)
  subst hX
  refine vx_catch (own := RL) (name := X_I) hown [] ⟨0, 10, 13, 13⟩ [⟨0, 10, 17, 17⟩] htab (fun z hz => nomatch hz) (by decide) (by decide) (hts (.classLink RL 13 X_I) (List.mem_of_getElem? (i := 1) rfl)) (va_Nw.use rfl (hE.2.2.2.2.2.1 (X_I, X_I) (by decide))) hc9 hv9 hcl9 ?_
  refine lv_astore (lv' := [(4, .ref q9), (0, .ref b), (1, .int p1), (2, .int p2), (3, .ref o)]) hx hb dL_load_13 hl (by decide) rfl (fun ls hl => ?_)
  refine lv_iconst (v := 1) hx hb dL_load_15 (by decide) ?_
  exact enW () hx hb hr hlocks hS hP rfl (Nat.le_of_ble_eq_true rfl) (Nat.le_of_ble_eq_true rfl) dL_load_16
set_option maxRecDepth 100000 in
set_option maxHeartbeats 4000000 in
theorem L_load_2 {sa tb : Nat → Nat} {D : va_G} {cA cL : ClassId} {l : Launch} {f lo b o : Nat} {p1 p2 : Int32} {wc : va_W} {fs : List Value} {g : Nat → Int64} (hM : KX sa tb D cA cL l yX4_load wsX4_load ({ frames := f, cells := 1, slots := 6, locals := lo }) [.ref b, .int p1, .int p2] wc (fun E => E = X_S)) (he : wc[0]? = some (b, .inr (4, fs))) : KW sa tb D cA cL l yL_load wsL_load ({ frames := f + 1, cells := 1, slots := 6, locals := 8 + (3 + 11) + lo }) [.ref b, .int p1, .int p2, .ref o] (wc ++ [oL cL o g]) (qI D (fun (r : Int32) (_ : Unit) => r = 2) (fun _ => wc ++ [oL cL o g])) := by
  refine KW.of (cc := cL_load) (maxL := 5) (ret := some .int) (hh := [(0, 10, 13, 13), (0, 10, 17, 17)]) (by decide) rfl (Nat.le_of_ble_eq_true rfl) ?_
  intro pg e s m args below meth c A hx hb hr hml hlocks hts hown htab hS hA hE hP hD ls hl
  have hown : s.vm.findClass RL = some m.cls := hown
  have hl : lv_has ls 5 [(0, .ref b), (1, .int p1), (2, .int p2), (3, .ref o)] := hl
  refine lv_aload_n hx hb dL_load_0 rfl (lv_at hl 3 rfl) ?_
  refine lv_iconst (v := 0) hx hb dL_load_1 (by decide) ?_
  refine lv_aload_n hx hb dL_load_2 rfl (lv_at hl 0 rfl) ?_
  refine lv_iload_n hx hb dL_load_3 rfl (lv_at hl 1 rfl) ?_
  refine lv_iload_n hx hb dL_load_4 rfl (lv_at hl 2 rfl) ?_
  refine goXc [] [oL cL o g] hP hD hS hA (rnXV (rest := [.int 0, .ref o]) hM [] [oL cL o g] hP hD hS hA hE ⟨hx, hb, hml, hown, hts⟩ (cwV 2 hts gL_load_X4_load rfl rfl rfl (by decide +kernel) ⟨Nat.le_refl _, Nat.le_refl _⟩) 4 0 rfl he rfl rfl hl.1 rfl (Nat.le_of_ble_eq_true rfl) dL_load_5 ⟨(Nat.le_of_ble_eq_true rfl), (Nat.le_of_ble_eq_true rfl)⟩) (fun E ce q9 H locs hX hP hS hc9 hv9 hcl9 => ?_)
  subst hX
  refine vx_catch (own := RL) (name := X_S) hown [⟨0, 10, 13, 13⟩] ⟨0, 10, 17, 17⟩ [] htab (List.forall_mem_cons.mpr ⟨Or.inr ⟨by decide, X_I, hts (.classLink RL 13 X_I) (List.mem_of_getElem? (i := 1) rfl), hE.2.2.2.2.2.2.1 (X_S, X_I) (by decide)⟩, fun z hz => nomatch hz⟩) (by decide) (by decide) (hts (.classLink RL 17 X_S) (List.mem_of_getElem? (i := 2) rfl)) (va_Nw.use rfl (hE.2.2.2.2.2.1 (X_S, X_S) (by decide))) hc9 hv9 hcl9 ?_
  refine lv_astore (lv' := [(4, .ref q9), (0, .ref b), (1, .int p1), (2, .int p2), (3, .ref o)]) hx hb dL_load_17 hl (by decide) rfl (fun ls hl => ?_)
  refine lv_iconst (v := 2) hx hb dL_load_19 (by decide) ?_
  exact enW () hx hb hr hlocks hS hP rfl (Nat.le_of_ble_eq_true rfl) (Nat.le_of_ble_eq_true rfl) dL_load_20
set_option maxRecDepth 100000 in
set_option maxHeartbeats 4000000 in
theorem L_sell_0 {sa tb : Nat → Nat} {D : va_G} {cA cL : ClassId} {l : Launch} {f lo b o : Nat} {p1 : Int32} {wc : va_W} {fs : List Value} {g : Nat → Int64} {S : Type} {post : Int32 → S → Prop} {w1 : S → va_W} (hM : KM sa tb D cA cL l yX4_sell wsX4_sell ({ frames := f, cells := 0, slots := 0, locals := lo }) [.ref b, .int p1] wc (qI D post w1)) (he : wc[0]? = some (b, .inr (4, fs))) (haddr : ∀ u, (w1 u).map Prod.fst = wc.map Prod.fst) : KW sa tb D cA cL l yL_sell wsL_sell ({ frames := f + 1, cells := 1, slots := 6, locals := 8 + (3 + 11) + lo }) [.ref b, .int p1, .ref o] (wc ++ [oL cL o g]) (qI D (fun (r : Int32) (u : Int32 × S) => r = 0 ∧ post u.1 u.2) (fun u => w1 u.2 ++ [oL cL o (vp_updL g 0 u.1.toInt64)])) := by
  refine KW.of (cc := cL_sell) (maxL := 4) (ret := some .int) (hh := [(0, 9, 12, 13), (0, 9, 15, 17)]) (by decide) rfl (Nat.le_of_ble_eq_true rfl) ?_
  intro pg e s m args below meth c A hx hb hr hml hlocks hts hown htab hS hA hE hP hD ls hl
  have hown : s.vm.findClass RL = some m.cls := hown
  have hl : lv_has ls 4 [(0, .ref b), (1, .int p1), (2, .ref o)] := hl
  refine lv_aload_n hx hb dL_sell_0 rfl (lv_at hl 2 rfl) ?_
  refine lv_iconst (v := 0) hx hb dL_sell_1 (by decide) ?_
  refine lv_aload_n hx hb dL_sell_2 rfl (lv_at hl 0 rfl) ?_
  refine lv_iload_n hx hb dL_sell_3 rfl (lv_at hl 1 rfl) ?_
  refine goI [] [oL cL o g] hP hD hS hA (rnV (rest := [.int 0, .ref o]) hM [] [oL cL o g] hP hD hS hA hE ⟨hx, hb, hml, hown, hts⟩ (cwV 1 hts gL_sell_X4_sell rfl rfl rfl (by decide +kernel) ⟨Nat.le_refl _, Nat.le_refl _⟩) 4 0 rfl he rfl rfl hl.1 rfl (Nat.le_of_ble_eq_true rfl) dL_sell_4 ⟨Nat.zero_le _, Nat.zero_le _⟩) haddr (fun r u H locs hw hP hD hS => ?_)
  refine lv_i2l hx hb dL_sell_7 rfl ?_
  refine r_lst (pre := w1 u) hx hb hE hP hD hS dL_sell_8 (fun H locs hP hD hS => ?_)
  refine lv_goto (tgt := 18) hx hb dL_sell_9 (by decide) ?_
  refine lv_iconst (v := 0) hx hb dL_sell_18 (by decide) ?_
  exact enW (r, u) hx hb hr hlocks hS hP ⟨rfl, hw⟩ (Nat.zero_le _) (Nat.zero_le _) dL_sell_19
set_option maxRecDepth 100000 in
set_option maxHeartbeats 4000000 in
theorem L_sell_1 {sa tb : Nat → Nat} {D : va_G} {cA cL : ClassId} {l : Launch} {f lo b o : Nat} {p1 : Int32} {wc : va_W} {fs : List Value} {g : Nat → Int64} (hM : KX sa tb D cA cL l yX4_sell wsX4_sell ({ frames := f, cells := 1, slots := 6, locals := lo }) [.ref b, .int p1] wc (fun E => E = X_I)) (he : wc[0]? = some (b, .inr (4, fs))) : KW sa tb D cA cL l yL_sell wsL_sell ({ frames := f + 1, cells := 1, slots := 6, locals := 8 + (3 + 11) + lo }) [.ref b, .int p1, .ref o] (wc ++ [oL cL o g]) (qI D (fun (r : Int32) (_ : Unit) => r = 1) (fun _ => wc ++ [oL cL o g])) := by
  refine KW.of (cc := cL_sell) (maxL := 4) (ret := some .int) (hh := [(0, 9, 12, 13), (0, 9, 15, 17)]) (by decide) rfl (Nat.le_of_ble_eq_true rfl) ?_
  intro pg e s m args below meth c A hx hb hr hml hlocks hts hown htab hS hA hE hP hD ls hl
  have hown : s.vm.findClass RL = some m.cls := hown
  have hl : lv_has ls 4 [(0, .ref b), (1, .int p1), (2, .ref o)] := hl
  refine lv_aload_n hx hb dL_sell_0 rfl (lv_at hl 2 rfl) ?_
  refine lv_iconst (v := 0) hx hb dL_sell_1 (by decide) ?_
  refine lv_aload_n hx hb dL_sell_2 rfl (lv_at hl 0 rfl) ?_
  refine lv_iload_n hx hb dL_sell_3 rfl (lv_at hl 1 rfl) ?_
  refine goXc [] [oL cL o g] hP hD hS hA (rnXV (rest := [.int 0, .ref o]) hM [] [oL cL o g] hP hD hS hA hE ⟨hx, hb, hml, hown, hts⟩ (cwV 1 hts gL_sell_X4_sell rfl rfl rfl (by decide +kernel) ⟨Nat.le_refl _, Nat.le_refl _⟩) 4 0 rfl he rfl rfl hl.1 rfl (Nat.le_of_ble_eq_true rfl) dL_sell_4 ⟨(Nat.le_of_ble_eq_true rfl), (Nat.le_of_ble_eq_true rfl)⟩) (fun E ce q9 H locs hX hP hS hc9 hv9 hcl9 => ?_)
  subst hX
  refine vx_catch (own := RL) (name := X_I) hown [] ⟨0, 9, 12, 13⟩ [⟨0, 9, 15, 17⟩] htab (fun z hz => nomatch hz) (by decide) (by decide) (hts (.classLink RL 13 X_I) (List.mem_of_getElem? (i := 1) rfl)) (va_Nw.use rfl (hE.2.2.2.2.2.1 (X_I, X_I) (by decide))) hc9 hv9 hcl9 ?_
  refine lv_astore_n (lv' := [(3, .ref q9), (0, .ref b), (1, .int p1), (2, .ref o)]) hx hb dL_sell_12 rfl hl (by decide) rfl (fun ls hl => ?_)
  refine lv_iconst (v := 1) hx hb dL_sell_13 (by decide) ?_
  exact enW () hx hb hr hlocks hS hP rfl (Nat.le_of_ble_eq_true rfl) (Nat.le_of_ble_eq_true rfl) dL_sell_14
set_option maxRecDepth 100000 in
set_option maxHeartbeats 4000000 in
theorem L_sell_2 {sa tb : Nat → Nat} {D : va_G} {cA cL : ClassId} {l : Launch} {f lo b o : Nat} {p1 : Int32} {wc : va_W} {fs : List Value} {g : Nat → Int64} (hM : KX sa tb D cA cL l yX4_sell wsX4_sell ({ frames := f, cells := 1, slots := 6, locals := lo }) [.ref b, .int p1] wc (fun E => E = X_S)) (he : wc[0]? = some (b, .inr (4, fs))) : KW sa tb D cA cL l yL_sell wsL_sell ({ frames := f + 1, cells := 1, slots := 6, locals := 8 + (3 + 11) + lo }) [.ref b, .int p1, .ref o] (wc ++ [oL cL o g]) (qI D (fun (r : Int32) (_ : Unit) => r = 2) (fun _ => wc ++ [oL cL o g])) := by
  refine KW.of (cc := cL_sell) (maxL := 4) (ret := some .int) (hh := [(0, 9, 12, 13), (0, 9, 15, 17)]) (by decide) rfl (Nat.le_of_ble_eq_true rfl) ?_
  intro pg e s m args below meth c A hx hb hr hml hlocks hts hown htab hS hA hE hP hD ls hl
  have hown : s.vm.findClass RL = some m.cls := hown
  have hl : lv_has ls 4 [(0, .ref b), (1, .int p1), (2, .ref o)] := hl
  refine lv_aload_n hx hb dL_sell_0 rfl (lv_at hl 2 rfl) ?_
  refine lv_iconst (v := 0) hx hb dL_sell_1 (by decide) ?_
  refine lv_aload_n hx hb dL_sell_2 rfl (lv_at hl 0 rfl) ?_
  refine lv_iload_n hx hb dL_sell_3 rfl (lv_at hl 1 rfl) ?_
  refine goXc [] [oL cL o g] hP hD hS hA (rnXV (rest := [.int 0, .ref o]) hM [] [oL cL o g] hP hD hS hA hE ⟨hx, hb, hml, hown, hts⟩ (cwV 1 hts gL_sell_X4_sell rfl rfl rfl (by decide +kernel) ⟨Nat.le_refl _, Nat.le_refl _⟩) 4 0 rfl he rfl rfl hl.1 rfl (Nat.le_of_ble_eq_true rfl) dL_sell_4 ⟨(Nat.le_of_ble_eq_true rfl), (Nat.le_of_ble_eq_true rfl)⟩) (fun E ce q9 H locs hX hP hS hc9 hv9 hcl9 => ?_)
  subst hX
  refine vx_catch (own := RL) (name := X_S) hown [⟨0, 9, 12, 13⟩] ⟨0, 9, 15, 17⟩ [] htab (List.forall_mem_cons.mpr ⟨Or.inr ⟨by decide, X_I, hts (.classLink RL 13 X_I) (List.mem_of_getElem? (i := 1) rfl), hE.2.2.2.2.2.2.1 (X_S, X_I) (by decide)⟩, fun z hz => nomatch hz⟩) (by decide) (by decide) (hts (.classLink RL 17 X_S) (List.mem_of_getElem? (i := 2) rfl)) (va_Nw.use rfl (hE.2.2.2.2.2.1 (X_S, X_S) (by decide))) hc9 hv9 hcl9 ?_
  refine lv_astore_n (lv' := [(3, .ref q9), (0, .ref b), (1, .int p1), (2, .ref o)]) hx hb dL_sell_15 rfl hl (by decide) rfl (fun ls hl => ?_)
  refine lv_iconst (v := 2) hx hb dL_sell_16 (by decide) ?_
  exact enW () hx hb hr hlocks hS hP rfl (Nat.le_of_ble_eq_true rfl) (Nat.le_of_ble_eq_true rfl) dL_sell_17
set_option maxRecDepth 100000 in
set_option maxHeartbeats 4000000 in
theorem L_told_0 {sa tb : Nat → Nat} {D : va_G} {cA cL : ClassId} {l : Launch} {f lo b o : Nat} {p1 p2 : Int32} {wc : va_W} {fs : List Value} {g : Nat → Int64} {S : Type} {post : Int32 → S → Prop} {w1 : S → va_W} (hM : KM sa tb D cA cL l yX4_told wsX4_told ({ frames := f, cells := 0, slots := 0, locals := lo }) [.ref b, .int p1, .int p2] wc (qI D post w1)) (he : wc[0]? = some (b, .inr (4, fs))) (haddr : ∀ u, (w1 u).map Prod.fst = wc.map Prod.fst) : KW sa tb D cA cL l yL_told wsL_told ({ frames := f + 1, cells := 1, slots := 6, locals := 8 + (3 + 11) + lo }) [.ref b, .int p1, .int p2, .ref o] (wc ++ [oL cL o g]) (qI D (fun (r : Int32) (u : Int32 × S) => r = 0 ∧ post u.1 u.2) (fun u => w1 u.2 ++ [oL cL o (vp_updL g 0 u.1.toInt64)])) := by
  refine KW.of (cc := cL_told) (maxL := 5) (ret := some .int) (hh := [(0, 10, 13, 13)]) (by decide) rfl (Nat.le_of_ble_eq_true rfl) ?_
  intro pg e s m args below meth c A hx hb hr hml hlocks hts hown htab hS hA hE hP hD ls hl
  have hown : s.vm.findClass RL = some m.cls := hown
  have hl : lv_has ls 5 [(0, .ref b), (1, .int p1), (2, .int p2), (3, .ref o)] := hl
  refine lv_aload_n hx hb dL_told_0 rfl (lv_at hl 3 rfl) ?_
  refine lv_iconst (v := 0) hx hb dL_told_1 (by decide) ?_
  refine lv_aload_n hx hb dL_told_2 rfl (lv_at hl 0 rfl) ?_
  refine lv_iload_n hx hb dL_told_3 rfl (lv_at hl 1 rfl) ?_
  refine lv_iload_n hx hb dL_told_4 rfl (lv_at hl 2 rfl) ?_
  refine goI [] [oL cL o g] hP hD hS hA (rnV (rest := [.int 0, .ref o]) hM [] [oL cL o g] hP hD hS hA hE ⟨hx, hb, hml, hown, hts⟩ (cwV 2 hts gL_told_X4_told rfl rfl rfl (by decide +kernel) ⟨Nat.le_refl _, Nat.le_refl _⟩) 4 0 rfl he rfl rfl hl.1 rfl (Nat.le_of_ble_eq_true rfl) dL_told_5 ⟨Nat.zero_le _, Nat.zero_le _⟩) haddr (fun r u H locs hw hP hD hS => ?_)
  refine lv_i2l hx hb dL_told_8 rfl ?_
  refine r_lst (pre := w1 u) hx hb hE hP hD hS dL_told_9 (fun H locs hP hD hS => ?_)
  refine lv_goto (tgt := 17) hx hb dL_told_10 (by decide) ?_
  refine lv_iconst (v := 0) hx hb dL_told_17 (by decide) ?_
  exact enW (r, u) hx hb hr hlocks hS hP ⟨rfl, hw⟩ (Nat.zero_le _) (Nat.zero_le _) dL_told_18
set_option maxRecDepth 100000 in
set_option maxHeartbeats 4000000 in
theorem L_told_1 {sa tb : Nat → Nat} {D : va_G} {cA cL : ClassId} {l : Launch} {f lo b o : Nat} {p1 p2 : Int32} {wc : va_W} {fs : List Value} {g : Nat → Int64} (hM : KX sa tb D cA cL l yX4_told wsX4_told ({ frames := f, cells := 1, slots := 6, locals := lo }) [.ref b, .int p1, .int p2] wc (fun E => E = X_I)) (he : wc[0]? = some (b, .inr (4, fs))) : KW sa tb D cA cL l yL_told wsL_told ({ frames := f + 1, cells := 1, slots := 6, locals := 8 + (3 + 11) + lo }) [.ref b, .int p1, .int p2, .ref o] (wc ++ [oL cL o g]) (qI D (fun (r : Int32) (_ : Unit) => r = 1) (fun _ => wc ++ [oL cL o g])) := by
  refine KW.of (cc := cL_told) (maxL := 5) (ret := some .int) (hh := [(0, 10, 13, 13)]) (by decide) rfl (Nat.le_of_ble_eq_true rfl) ?_
  intro pg e s m args below meth c A hx hb hr hml hlocks hts hown htab hS hA hE hP hD ls hl
  have hown : s.vm.findClass RL = some m.cls := hown
  have hl : lv_has ls 5 [(0, .ref b), (1, .int p1), (2, .int p2), (3, .ref o)] := hl
  refine lv_aload_n hx hb dL_told_0 rfl (lv_at hl 3 rfl) ?_
  refine lv_iconst (v := 0) hx hb dL_told_1 (by decide) ?_
  refine lv_aload_n hx hb dL_told_2 rfl (lv_at hl 0 rfl) ?_
  refine lv_iload_n hx hb dL_told_3 rfl (lv_at hl 1 rfl) ?_
  refine lv_iload_n hx hb dL_told_4 rfl (lv_at hl 2 rfl) ?_
  refine goXc [] [oL cL o g] hP hD hS hA (rnXV (rest := [.int 0, .ref o]) hM [] [oL cL o g] hP hD hS hA hE ⟨hx, hb, hml, hown, hts⟩ (cwV 2 hts gL_told_X4_told rfl rfl rfl (by decide +kernel) ⟨Nat.le_refl _, Nat.le_refl _⟩) 4 0 rfl he rfl rfl hl.1 rfl (Nat.le_of_ble_eq_true rfl) dL_told_5 ⟨(Nat.le_of_ble_eq_true rfl), (Nat.le_of_ble_eq_true rfl)⟩) (fun E ce q9 H locs hX hP hS hc9 hv9 hcl9 => ?_)
  subst hX
  refine vx_catch (own := RL) (name := X_I) hown [] ⟨0, 10, 13, 13⟩ [] htab (fun z hz => nomatch hz) (by decide) (by decide) (hts (.classLink RL 13 X_I) (List.mem_of_getElem? (i := 1) rfl)) (va_Nw.use rfl (hE.2.2.2.2.2.1 (X_I, X_I) (by decide))) hc9 hv9 hcl9 ?_
  refine lv_astore (lv' := [(4, .ref q9), (0, .ref b), (1, .int p1), (2, .int p2), (3, .ref o)]) hx hb dL_told_13 hl (by decide) rfl (fun ls hl => ?_)
  refine lv_iconst (v := 1) hx hb dL_told_15 (by decide) ?_
  exact enW () hx hb hr hlocks hS hP rfl (Nat.le_of_ble_eq_true rfl) (Nat.le_of_ble_eq_true rfl) dL_told_16
set_option maxRecDepth 100000 in
set_option maxHeartbeats 4000000 in
theorem L_landing_0 {sa tb : Nat → Nat} {D : va_G} {cA cL : ClassId} {l : Launch} {f lo b o : Nat} {p1 p2 : Int32} {wc : va_W} {fs : List Value} {g : Nat → Int64} {S : Type} {post : Int32 → S → Prop} {w1 : S → va_W} (hM : KM sa tb D cA cL l yX4_landing wsX4_landing ({ frames := f, cells := 0, slots := 0, locals := lo }) [.ref b, .int p1, .int p2] wc (qI D post w1)) (he : wc[0]? = some (b, .inr (4, fs))) (haddr : ∀ u, (w1 u).map Prod.fst = wc.map Prod.fst) : KW sa tb D cA cL l yL_landing wsL_landing ({ frames := f + 1, cells := 1, slots := 6, locals := 8 + (3 + 11) + lo }) [.ref b, .int p1, .int p2, .ref o] (wc ++ [oL cL o g]) (qI D (fun (r : Int32) (u : Int32 × S) => r = 0 ∧ post u.1 u.2) (fun u => w1 u.2 ++ [oL cL o (vp_updL g 0 u.1.toInt64)])) := by
  refine KW.of (cc := cL_landing) (maxL := 5) (ret := some .int) (hh := [(0, 10, 13, 13)]) (by decide) rfl (Nat.le_of_ble_eq_true rfl) ?_
  intro pg e s m args below meth c A hx hb hr hml hlocks hts hown htab hS hA hE hP hD ls hl
  have hown : s.vm.findClass RL = some m.cls := hown
  have hl : lv_has ls 5 [(0, .ref b), (1, .int p1), (2, .int p2), (3, .ref o)] := hl
  refine lv_aload_n hx hb dL_landing_0 rfl (lv_at hl 3 rfl) ?_
  refine lv_iconst (v := 0) hx hb dL_landing_1 (by decide) ?_
  refine lv_aload_n hx hb dL_landing_2 rfl (lv_at hl 0 rfl) ?_
  refine lv_iload_n hx hb dL_landing_3 rfl (lv_at hl 1 rfl) ?_
  refine lv_iload_n hx hb dL_landing_4 rfl (lv_at hl 2 rfl) ?_
  refine goI [] [oL cL o g] hP hD hS hA (rnV (rest := [.int 0, .ref o]) hM [] [oL cL o g] hP hD hS hA hE ⟨hx, hb, hml, hown, hts⟩ (cwV 2 hts gL_landing_X4_landing rfl rfl rfl (by decide +kernel) ⟨Nat.le_refl _, Nat.le_refl _⟩) 4 0 rfl he rfl rfl hl.1 rfl (Nat.le_of_ble_eq_true rfl) dL_landing_5 ⟨Nat.zero_le _, Nat.zero_le _⟩) haddr (fun r u H locs hw hP hD hS => ?_)
  refine lv_i2l hx hb dL_landing_8 rfl ?_
  refine r_lst (pre := w1 u) hx hb hE hP hD hS dL_landing_9 (fun H locs hP hD hS => ?_)
  refine lv_goto (tgt := 17) hx hb dL_landing_10 (by decide) ?_
  refine lv_iconst (v := 0) hx hb dL_landing_17 (by decide) ?_
  exact enW (r, u) hx hb hr hlocks hS hP ⟨rfl, hw⟩ (Nat.zero_le _) (Nat.zero_le _) dL_landing_18
set_option maxRecDepth 100000 in
set_option maxHeartbeats 4000000 in
theorem L_landing_1 {sa tb : Nat → Nat} {D : va_G} {cA cL : ClassId} {l : Launch} {f lo b o : Nat} {p1 p2 : Int32} {wc : va_W} {fs : List Value} {g : Nat → Int64} (hM : KX sa tb D cA cL l yX4_landing wsX4_landing ({ frames := f, cells := 1, slots := 6, locals := lo }) [.ref b, .int p1, .int p2] wc (fun E => E = X_I)) (he : wc[0]? = some (b, .inr (4, fs))) : KW sa tb D cA cL l yL_landing wsL_landing ({ frames := f + 1, cells := 1, slots := 6, locals := 8 + (3 + 11) + lo }) [.ref b, .int p1, .int p2, .ref o] (wc ++ [oL cL o g]) (qI D (fun (r : Int32) (_ : Unit) => r = 1) (fun _ => wc ++ [oL cL o g])) := by
  refine KW.of (cc := cL_landing) (maxL := 5) (ret := some .int) (hh := [(0, 10, 13, 13)]) (by decide) rfl (Nat.le_of_ble_eq_true rfl) ?_
  intro pg e s m args below meth c A hx hb hr hml hlocks hts hown htab hS hA hE hP hD ls hl
  have hown : s.vm.findClass RL = some m.cls := hown
  have hl : lv_has ls 5 [(0, .ref b), (1, .int p1), (2, .int p2), (3, .ref o)] := hl
  refine lv_aload_n hx hb dL_landing_0 rfl (lv_at hl 3 rfl) ?_
  refine lv_iconst (v := 0) hx hb dL_landing_1 (by decide) ?_
  refine lv_aload_n hx hb dL_landing_2 rfl (lv_at hl 0 rfl) ?_
  refine lv_iload_n hx hb dL_landing_3 rfl (lv_at hl 1 rfl) ?_
  refine lv_iload_n hx hb dL_landing_4 rfl (lv_at hl 2 rfl) ?_
  refine goXc [] [oL cL o g] hP hD hS hA (rnXV (rest := [.int 0, .ref o]) hM [] [oL cL o g] hP hD hS hA hE ⟨hx, hb, hml, hown, hts⟩ (cwV 2 hts gL_landing_X4_landing rfl rfl rfl (by decide +kernel) ⟨Nat.le_refl _, Nat.le_refl _⟩) 4 0 rfl he rfl rfl hl.1 rfl (Nat.le_of_ble_eq_true rfl) dL_landing_5 ⟨(Nat.le_of_ble_eq_true rfl), (Nat.le_of_ble_eq_true rfl)⟩) (fun E ce q9 H locs hX hP hS hc9 hv9 hcl9 => ?_)
  subst hX
  refine vx_catch (own := RL) (name := X_I) hown [] ⟨0, 10, 13, 13⟩ [] htab (fun z hz => nomatch hz) (by decide) (by decide) (hts (.classLink RL 13 X_I) (List.mem_of_getElem? (i := 1) rfl)) (va_Nw.use rfl (hE.2.2.2.2.2.1 (X_I, X_I) (by decide))) hc9 hv9 hcl9 ?_
  refine lv_astore (lv' := [(4, .ref q9), (0, .ref b), (1, .int p1), (2, .int p2), (3, .ref o)]) hx hb dL_landing_13 hl (by decide) rfl (fun ls hl => ?_)
  refine lv_iconst (v := 1) hx hb dL_landing_15 (by decide) ?_
  exact enW () hx hb hr hlocks hS hP rfl (Nat.le_of_ble_eq_true rfl) (Nat.le_of_ble_eq_true rfl) dL_landing_16
set_option maxRecDepth 100000 in
set_option maxHeartbeats 4000000 in
theorem L_would_0 {sa tb : Nat → Nat} {D : va_G} {cA cL : ClassId} {l : Launch} {f lo b o : Nat} {p1 p2 : Int32} {wc : va_W} {fs : List Value} {g : Nat → Int64} {S : Type} {post : Int32 → S → Prop} {w1 : S → va_W} (hM : KM sa tb D cA cL l yX4_would wsX4_would ({ frames := f, cells := 0, slots := 0, locals := lo }) [.ref b, .int p1, .int p2] wc (qI D post w1)) (he : wc[0]? = some (b, .inr (4, fs))) (haddr : ∀ u, (w1 u).map Prod.fst = wc.map Prod.fst) : KW sa tb D cA cL l yL_would wsL_would ({ frames := f + 1, cells := 1, slots := 6, locals := 8 + (4 + 11) + lo }) [.ref b, .int p1, .int p2, .ref o] (wc ++ [oL cL o g]) (qI D (fun (r : Int32) (u : Int32 × S) => r = 0 ∧ post u.1 u.2) (fun u => w1 u.2 ++ [oL cL o (vp_updL g 0 u.1.toInt64)])) := by
  refine KW.of (cc := cL_would) (maxL := 5) (ret := some .int) (hh := [(0, 10, 13, 13)]) (by decide) rfl (Nat.le_of_ble_eq_true rfl) ?_
  intro pg e s m args below meth c A hx hb hr hml hlocks hts hown htab hS hA hE hP hD ls hl
  have hown : s.vm.findClass RL = some m.cls := hown
  have hl : lv_has ls 5 [(0, .ref b), (1, .int p1), (2, .int p2), (3, .ref o)] := hl
  refine lv_aload_n hx hb dL_would_0 rfl (lv_at hl 3 rfl) ?_
  refine lv_iconst (v := 0) hx hb dL_would_1 (by decide) ?_
  refine lv_aload_n hx hb dL_would_2 rfl (lv_at hl 0 rfl) ?_
  refine lv_iload_n hx hb dL_would_3 rfl (lv_at hl 1 rfl) ?_
  refine lv_iload_n hx hb dL_would_4 rfl (lv_at hl 2 rfl) ?_
  refine goI [] [oL cL o g] hP hD hS hA (rnV (rest := [.int 0, .ref o]) hM [] [oL cL o g] hP hD hS hA hE ⟨hx, hb, hml, hown, hts⟩ (cwV 2 hts gL_would_X4_would rfl rfl rfl (by decide +kernel) ⟨Nat.le_refl _, Nat.le_refl _⟩) 4 0 rfl he rfl rfl hl.1 rfl (Nat.le_of_ble_eq_true rfl) dL_would_5 ⟨Nat.zero_le _, Nat.zero_le _⟩) haddr (fun r u H locs hw hP hD hS => ?_)
  refine lv_i2l hx hb dL_would_8 rfl ?_
  refine r_lst (pre := w1 u) hx hb hE hP hD hS dL_would_9 (fun H locs hP hD hS => ?_)
  refine lv_goto (tgt := 17) hx hb dL_would_10 (by decide) ?_
  refine lv_iconst (v := 0) hx hb dL_would_17 (by decide) ?_
  exact enW (r, u) hx hb hr hlocks hS hP ⟨rfl, hw⟩ (Nat.zero_le _) (Nat.zero_le _) dL_would_18
set_option maxRecDepth 100000 in
set_option maxHeartbeats 4000000 in
theorem L_would_1 {sa tb : Nat → Nat} {D : va_G} {cA cL : ClassId} {l : Launch} {f lo b o : Nat} {p1 p2 : Int32} {wc : va_W} {fs : List Value} {g : Nat → Int64} (hM : KX sa tb D cA cL l yX4_would wsX4_would ({ frames := f, cells := 1, slots := 6, locals := lo }) [.ref b, .int p1, .int p2] wc (fun E => E = X_I)) (he : wc[0]? = some (b, .inr (4, fs))) : KW sa tb D cA cL l yL_would wsL_would ({ frames := f + 1, cells := 1, slots := 6, locals := 8 + (4 + 11) + lo }) [.ref b, .int p1, .int p2, .ref o] (wc ++ [oL cL o g]) (qI D (fun (r : Int32) (_ : Unit) => r = 1) (fun _ => wc ++ [oL cL o g])) := by
  refine KW.of (cc := cL_would) (maxL := 5) (ret := some .int) (hh := [(0, 10, 13, 13)]) (by decide) rfl (Nat.le_of_ble_eq_true rfl) ?_
  intro pg e s m args below meth c A hx hb hr hml hlocks hts hown htab hS hA hE hP hD ls hl
  have hown : s.vm.findClass RL = some m.cls := hown
  have hl : lv_has ls 5 [(0, .ref b), (1, .int p1), (2, .int p2), (3, .ref o)] := hl
  refine lv_aload_n hx hb dL_would_0 rfl (lv_at hl 3 rfl) ?_
  refine lv_iconst (v := 0) hx hb dL_would_1 (by decide) ?_
  refine lv_aload_n hx hb dL_would_2 rfl (lv_at hl 0 rfl) ?_
  refine lv_iload_n hx hb dL_would_3 rfl (lv_at hl 1 rfl) ?_
  refine lv_iload_n hx hb dL_would_4 rfl (lv_at hl 2 rfl) ?_
  refine goXc [] [oL cL o g] hP hD hS hA (rnXV (rest := [.int 0, .ref o]) hM [] [oL cL o g] hP hD hS hA hE ⟨hx, hb, hml, hown, hts⟩ (cwV 2 hts gL_would_X4_would rfl rfl rfl (by decide +kernel) ⟨Nat.le_refl _, Nat.le_refl _⟩) 4 0 rfl he rfl rfl hl.1 rfl (Nat.le_of_ble_eq_true rfl) dL_would_5 ⟨(Nat.le_of_ble_eq_true rfl), (Nat.le_of_ble_eq_true rfl)⟩) (fun E ce q9 H locs hX hP hS hc9 hv9 hcl9 => ?_)
  subst hX
  refine vx_catch (own := RL) (name := X_I) hown [] ⟨0, 10, 13, 13⟩ [] htab (fun z hz => nomatch hz) (by decide) (by decide) (hts (.classLink RL 13 X_I) (List.mem_of_getElem? (i := 1) rfl)) (va_Nw.use rfl (hE.2.2.2.2.2.1 (X_I, X_I) (by decide))) hc9 hv9 hcl9 ?_
  refine lv_astore (lv' := [(4, .ref q9), (0, .ref b), (1, .int p1), (2, .int p2), (3, .ref o)]) hx hb dL_would_13 hl (by decide) rfl (fun ls hl => ?_)
  refine lv_iconst (v := 1) hx hb dL_would_15 (by decide) ?_
  exact enW () hx hb hr hlocks hS hP rfl (Nat.le_of_ble_eq_true rfl) (Nat.le_of_ble_eq_true rfl) dL_would_16
set_option maxRecDepth 100000 in
set_option maxHeartbeats 4000000 in
theorem L_advise_0 {sa tb : Nat → Nat} {D : va_G} {cA cL : ClassId} {l : Launch} {f lo b o : Nat} {p1 : Int32} {wc : va_W} {fs : List Value} {g : Nat → Int64} {S : Type} {post : Int32 → S → Prop} {w1 : S → va_W} (hM : KM sa tb D cA cL l yX4_advise wsX4_advise ({ frames := f, cells := 0, slots := 0, locals := lo }) [.ref b, .int p1] wc (qI D post w1)) (he : wc[0]? = some (b, .inr (4, fs))) (haddr : ∀ u, (w1 u).map Prod.fst = wc.map Prod.fst) : KW sa tb D cA cL l yL_advise wsL_advise ({ frames := f + 1, cells := 1, slots := 6, locals := 8 + (6 + 11) + lo }) [.ref b, .int p1, .ref o] (wc ++ [oL cL o g]) (qI D (fun (r : Int32) (u : Int32 × S) => r = 0 ∧ post u.1 u.2) (fun u => w1 u.2 ++ [oL cL o (vp_updL g 0 u.1.toInt64)])) := by
  refine KW.of (cc := cL_advise) (maxL := 4) (ret := some .int) (hh := [(0, 9, 12, 13)]) (by decide) rfl (Nat.le_of_ble_eq_true rfl) ?_
  intro pg e s m args below meth c A hx hb hr hml hlocks hts hown htab hS hA hE hP hD ls hl
  have hown : s.vm.findClass RL = some m.cls := hown
  have hl : lv_has ls 4 [(0, .ref b), (1, .int p1), (2, .ref o)] := hl
  refine lv_aload_n hx hb dL_advise_0 rfl (lv_at hl 2 rfl) ?_
  refine lv_iconst (v := 0) hx hb dL_advise_1 (by decide) ?_
  refine lv_aload_n hx hb dL_advise_2 rfl (lv_at hl 0 rfl) ?_
  refine lv_iload_n hx hb dL_advise_3 rfl (lv_at hl 1 rfl) ?_
  refine goI [] [oL cL o g] hP hD hS hA (rnV (rest := [.int 0, .ref o]) hM [] [oL cL o g] hP hD hS hA hE ⟨hx, hb, hml, hown, hts⟩ (cwV 1 hts gL_advise_X4_advise rfl rfl rfl (by decide +kernel) ⟨Nat.le_refl _, Nat.le_refl _⟩) 4 0 rfl he rfl rfl hl.1 rfl (Nat.le_of_ble_eq_true rfl) dL_advise_4 ⟨Nat.zero_le _, Nat.zero_le _⟩) haddr (fun r u H locs hw hP hD hS => ?_)
  refine lv_i2l hx hb dL_advise_7 rfl ?_
  refine r_lst (pre := w1 u) hx hb hE hP hD hS dL_advise_8 (fun H locs hP hD hS => ?_)
  refine lv_goto (tgt := 15) hx hb dL_advise_9 (by decide) ?_
  refine lv_iconst (v := 0) hx hb dL_advise_15 (by decide) ?_
  exact enW (r, u) hx hb hr hlocks hS hP ⟨rfl, hw⟩ (Nat.zero_le _) (Nat.zero_le _) dL_advise_16
set_option maxRecDepth 100000 in
set_option maxHeartbeats 4000000 in
theorem L_advise_1 {sa tb : Nat → Nat} {D : va_G} {cA cL : ClassId} {l : Launch} {f lo b o : Nat} {p1 : Int32} {wc : va_W} {fs : List Value} {g : Nat → Int64} (hM : KX sa tb D cA cL l yX4_advise wsX4_advise ({ frames := f, cells := 1, slots := 6, locals := lo }) [.ref b, .int p1] wc (fun E => E = X_I)) (he : wc[0]? = some (b, .inr (4, fs))) : KW sa tb D cA cL l yL_advise wsL_advise ({ frames := f + 1, cells := 1, slots := 6, locals := 8 + (6 + 11) + lo }) [.ref b, .int p1, .ref o] (wc ++ [oL cL o g]) (qI D (fun (r : Int32) (_ : Unit) => r = 1) (fun _ => wc ++ [oL cL o g])) := by
  refine KW.of (cc := cL_advise) (maxL := 4) (ret := some .int) (hh := [(0, 9, 12, 13)]) (by decide) rfl (Nat.le_of_ble_eq_true rfl) ?_
  intro pg e s m args below meth c A hx hb hr hml hlocks hts hown htab hS hA hE hP hD ls hl
  have hown : s.vm.findClass RL = some m.cls := hown
  have hl : lv_has ls 4 [(0, .ref b), (1, .int p1), (2, .ref o)] := hl
  refine lv_aload_n hx hb dL_advise_0 rfl (lv_at hl 2 rfl) ?_
  refine lv_iconst (v := 0) hx hb dL_advise_1 (by decide) ?_
  refine lv_aload_n hx hb dL_advise_2 rfl (lv_at hl 0 rfl) ?_
  refine lv_iload_n hx hb dL_advise_3 rfl (lv_at hl 1 rfl) ?_
  refine goXc [] [oL cL o g] hP hD hS hA (rnXV (rest := [.int 0, .ref o]) hM [] [oL cL o g] hP hD hS hA hE ⟨hx, hb, hml, hown, hts⟩ (cwV 1 hts gL_advise_X4_advise rfl rfl rfl (by decide +kernel) ⟨Nat.le_refl _, Nat.le_refl _⟩) 4 0 rfl he rfl rfl hl.1 rfl (Nat.le_of_ble_eq_true rfl) dL_advise_4 ⟨(Nat.le_of_ble_eq_true rfl), (Nat.le_of_ble_eq_true rfl)⟩) (fun E ce q9 H locs hX hP hS hc9 hv9 hcl9 => ?_)
  subst hX
  refine vx_catch (own := RL) (name := X_I) hown [] ⟨0, 9, 12, 13⟩ [] htab (fun z hz => nomatch hz) (by decide) (by decide) (hts (.classLink RL 13 X_I) (List.mem_of_getElem? (i := 1) rfl)) (va_Nw.use rfl (hE.2.2.2.2.2.1 (X_I, X_I) (by decide))) hc9 hv9 hcl9 ?_
  refine lv_astore_n (lv' := [(3, .ref q9), (0, .ref b), (1, .int p1), (2, .ref o)]) hx hb dL_advise_12 rfl hl (by decide) rfl (fun ls hl => ?_)
  refine lv_iconst (v := 1) hx hb dL_advise_13 (by decide) ?_
  exact enW () hx hb hr hlocks hS hP rfl (Nat.le_of_ble_eq_true rfl) (Nat.le_of_ble_eq_true rfl) dL_advise_14
set_option maxRecDepth 100000 in
set_option maxHeartbeats 4000000 in
theorem L_count_0 {sa tb : Nat → Nat} {D : va_G} {cA cL : ClassId} {l : Launch} {f lo b o : Nat} {p1 : Int32} {wc : va_W} {fs : List Value} {g : Nat → Int64} {S : Type} {post : Int32 → S → Prop} {w1 : S → va_W} (hM : KM sa tb D cA cL l yX4_count wsX4_count ({ frames := f, cells := 0, slots := 0, locals := lo }) [.ref b, .int p1] wc (qI D post w1)) (he : wc[0]? = some (b, .inr (4, fs))) (haddr : ∀ u, (w1 u).map Prod.fst = wc.map Prod.fst) : KW sa tb D cA cL l yL_count wsL_count ({ frames := f + 1, cells := 1, slots := 6, locals := 8 + (2 + 11) + lo }) [.ref b, .int p1, .ref o] (wc ++ [oL cL o g]) (qI D (fun (r : Int32) (u : Int32 × S) => r = 0 ∧ post u.1 u.2) (fun u => w1 u.2 ++ [oL cL o (vp_updL g 0 u.1.toInt64)])) := by
  refine KW.of (cc := cL_count) (maxL := 4) (ret := some .int) (hh := [(0, 9, 12, 13)]) (by decide) rfl (Nat.le_of_ble_eq_true rfl) ?_
  intro pg e s m args below meth c A hx hb hr hml hlocks hts hown htab hS hA hE hP hD ls hl
  have hown : s.vm.findClass RL = some m.cls := hown
  have hl : lv_has ls 4 [(0, .ref b), (1, .int p1), (2, .ref o)] := hl
  refine lv_aload_n hx hb dL_count_0 rfl (lv_at hl 2 rfl) ?_
  refine lv_iconst (v := 0) hx hb dL_count_1 (by decide) ?_
  refine lv_aload_n hx hb dL_count_2 rfl (lv_at hl 0 rfl) ?_
  refine lv_iload_n hx hb dL_count_3 rfl (lv_at hl 1 rfl) ?_
  refine goI [] [oL cL o g] hP hD hS hA (rnV (rest := [.int 0, .ref o]) hM [] [oL cL o g] hP hD hS hA hE ⟨hx, hb, hml, hown, hts⟩ (cwV 1 hts gL_count_X4_count rfl rfl rfl (by decide +kernel) ⟨Nat.le_refl _, Nat.le_refl _⟩) 4 0 rfl he rfl rfl hl.1 rfl (Nat.le_of_ble_eq_true rfl) dL_count_4 ⟨Nat.zero_le _, Nat.zero_le _⟩) haddr (fun r u H locs hw hP hD hS => ?_)
  refine lv_i2l hx hb dL_count_7 rfl ?_
  refine r_lst (pre := w1 u) hx hb hE hP hD hS dL_count_8 (fun H locs hP hD hS => ?_)
  refine lv_goto (tgt := 15) hx hb dL_count_9 (by decide) ?_
  refine lv_iconst (v := 0) hx hb dL_count_15 (by decide) ?_
  exact enW (r, u) hx hb hr hlocks hS hP ⟨rfl, hw⟩ (Nat.zero_le _) (Nat.zero_le _) dL_count_16
set_option maxRecDepth 100000 in
set_option maxHeartbeats 4000000 in
theorem L_count_1 {sa tb : Nat → Nat} {D : va_G} {cA cL : ClassId} {l : Launch} {f lo b o : Nat} {p1 : Int32} {wc : va_W} {fs : List Value} {g : Nat → Int64} (hM : KX sa tb D cA cL l yX4_count wsX4_count ({ frames := f, cells := 1, slots := 6, locals := lo }) [.ref b, .int p1] wc (fun E => E = X_I)) (he : wc[0]? = some (b, .inr (4, fs))) : KW sa tb D cA cL l yL_count wsL_count ({ frames := f + 1, cells := 1, slots := 6, locals := 8 + (2 + 11) + lo }) [.ref b, .int p1, .ref o] (wc ++ [oL cL o g]) (qI D (fun (r : Int32) (_ : Unit) => r = 1) (fun _ => wc ++ [oL cL o g])) := by
  refine KW.of (cc := cL_count) (maxL := 4) (ret := some .int) (hh := [(0, 9, 12, 13)]) (by decide) rfl (Nat.le_of_ble_eq_true rfl) ?_
  intro pg e s m args below meth c A hx hb hr hml hlocks hts hown htab hS hA hE hP hD ls hl
  have hown : s.vm.findClass RL = some m.cls := hown
  have hl : lv_has ls 4 [(0, .ref b), (1, .int p1), (2, .ref o)] := hl
  refine lv_aload_n hx hb dL_count_0 rfl (lv_at hl 2 rfl) ?_
  refine lv_iconst (v := 0) hx hb dL_count_1 (by decide) ?_
  refine lv_aload_n hx hb dL_count_2 rfl (lv_at hl 0 rfl) ?_
  refine lv_iload_n hx hb dL_count_3 rfl (lv_at hl 1 rfl) ?_
  refine goXc [] [oL cL o g] hP hD hS hA (rnXV (rest := [.int 0, .ref o]) hM [] [oL cL o g] hP hD hS hA hE ⟨hx, hb, hml, hown, hts⟩ (cwV 1 hts gL_count_X4_count rfl rfl rfl (by decide +kernel) ⟨Nat.le_refl _, Nat.le_refl _⟩) 4 0 rfl he rfl rfl hl.1 rfl (Nat.le_of_ble_eq_true rfl) dL_count_4 ⟨(Nat.le_of_ble_eq_true rfl), (Nat.le_of_ble_eq_true rfl)⟩) (fun E ce q9 H locs hX hP hS hc9 hv9 hcl9 => ?_)
  subst hX
  refine vx_catch (own := RL) (name := X_I) hown [] ⟨0, 9, 12, 13⟩ [] htab (fun z hz => nomatch hz) (by decide) (by decide) (hts (.classLink RL 13 X_I) (List.mem_of_getElem? (i := 1) rfl)) (va_Nw.use rfl (hE.2.2.2.2.2.1 (X_I, X_I) (by decide))) hc9 hv9 hcl9 ?_
  refine lv_astore_n (lv' := [(3, .ref q9), (0, .ref b), (1, .int p1), (2, .ref o)]) hx hb dL_count_12 rfl hl (by decide) rfl (fun ls hl => ?_)
  refine lv_iconst (v := 1) hx hb dL_count_13 (by decide) ?_
  exact enW () hx hb hr hlocks hS hP rfl (Nat.le_of_ble_eq_true rfl) (Nat.le_of_ble_eq_true rfl) dL_count_14
set_option maxRecDepth 100000 in
set_option maxHeartbeats 4000000 in
theorem L_pass_0 {sa tb : Nat → Nat} {D : va_G} {cA cL : ClassId} {l : Launch} {f lo b o : Nat} {p1 : Int32} {wc : va_W} {fs : List Value} {g : Nat → Int64} {S : Type} {post : Int32 → S → Prop} {w1 : S → va_W} (hM : KM sa tb D cA cL l yX4_pass wsX4_pass ({ frames := f, cells := 0, slots := 0, locals := lo }) [.ref b, .int p1] wc (qI D post w1)) (he : wc[0]? = some (b, .inr (4, fs))) (haddr : ∀ u, (w1 u).map Prod.fst = wc.map Prod.fst) : KW sa tb D cA cL l yL_pass wsL_pass ({ frames := f + 1, cells := 1, slots := 6, locals := 8 + (2 + 11) + lo }) [.ref b, .int p1, .ref o] (wc ++ [oL cL o g]) (qI D (fun (r : Int32) (u : Int32 × S) => r = 0 ∧ post u.1 u.2) (fun u => w1 u.2 ++ [oL cL o (vp_updL g 0 u.1.toInt64)])) := by
  refine KW.of (cc := cL_pass) (maxL := 4) (ret := some .int) (hh := [(0, 9, 12, 15)]) (by decide) rfl (Nat.le_of_ble_eq_true rfl) ?_
  intro pg e s m args below meth c A hx hb hr hml hlocks hts hown htab hS hA hE hP hD ls hl
  have hown : s.vm.findClass RL = some m.cls := hown
  have hl : lv_has ls 4 [(0, .ref b), (1, .int p1), (2, .ref o)] := hl
  refine lv_aload_n hx hb dL_pass_0 rfl (lv_at hl 2 rfl) ?_
  refine lv_iconst (v := 0) hx hb dL_pass_1 (by decide) ?_
  refine lv_aload_n hx hb dL_pass_2 rfl (lv_at hl 0 rfl) ?_
  refine lv_iload_n hx hb dL_pass_3 rfl (lv_at hl 1 rfl) ?_
  refine goI [] [oL cL o g] hP hD hS hA (rnV (rest := [.int 0, .ref o]) hM [] [oL cL o g] hP hD hS hA hE ⟨hx, hb, hml, hown, hts⟩ (cwV 1 hts gL_pass_X4_pass rfl rfl rfl (by decide +kernel) ⟨Nat.le_refl _, Nat.le_refl _⟩) 4 0 rfl he rfl rfl hl.1 rfl (Nat.le_of_ble_eq_true rfl) dL_pass_4 ⟨Nat.zero_le _, Nat.zero_le _⟩) haddr (fun r u H locs hw hP hD hS => ?_)
  refine lv_i2l hx hb dL_pass_7 rfl ?_
  refine r_lst (pre := w1 u) hx hb hE hP hD hS dL_pass_8 (fun H locs hP hD hS => ?_)
  refine lv_goto (tgt := 15) hx hb dL_pass_9 (by decide) ?_
  refine lv_iconst (v := 0) hx hb dL_pass_15 (by decide) ?_
  exact enW (r, u) hx hb hr hlocks hS hP ⟨rfl, hw⟩ (Nat.zero_le _) (Nat.zero_le _) dL_pass_16
set_option maxRecDepth 100000 in
set_option maxHeartbeats 4000000 in
theorem L_pass_1 {sa tb : Nat → Nat} {D : va_G} {cA cL : ClassId} {l : Launch} {f lo b o : Nat} {p1 : Int32} {wc : va_W} {fs : List Value} {g : Nat → Int64} (hM : KX sa tb D cA cL l yX4_pass wsX4_pass ({ frames := f, cells := 1, slots := 6, locals := lo }) [.ref b, .int p1] wc (fun E => E = X_A)) (he : wc[0]? = some (b, .inr (4, fs))) : KW sa tb D cA cL l yL_pass wsL_pass ({ frames := f + 1, cells := 1, slots := 6, locals := 8 + (2 + 11) + lo }) [.ref b, .int p1, .ref o] (wc ++ [oL cL o g]) (qI D (fun (r : Int32) (_ : Unit) => r = 1) (fun _ => wc ++ [oL cL o g])) := by
  refine KW.of (cc := cL_pass) (maxL := 4) (ret := some .int) (hh := [(0, 9, 12, 15)]) (by decide) rfl (Nat.le_of_ble_eq_true rfl) ?_
  intro pg e s m args below meth c A hx hb hr hml hlocks hts hown htab hS hA hE hP hD ls hl
  have hown : s.vm.findClass RL = some m.cls := hown
  have hl : lv_has ls 4 [(0, .ref b), (1, .int p1), (2, .ref o)] := hl
  refine lv_aload_n hx hb dL_pass_0 rfl (lv_at hl 2 rfl) ?_
  refine lv_iconst (v := 0) hx hb dL_pass_1 (by decide) ?_
  refine lv_aload_n hx hb dL_pass_2 rfl (lv_at hl 0 rfl) ?_
  refine lv_iload_n hx hb dL_pass_3 rfl (lv_at hl 1 rfl) ?_
  refine goXc [] [oL cL o g] hP hD hS hA (rnXV (rest := [.int 0, .ref o]) hM [] [oL cL o g] hP hD hS hA hE ⟨hx, hb, hml, hown, hts⟩ (cwV 1 hts gL_pass_X4_pass rfl rfl rfl (by decide +kernel) ⟨Nat.le_refl _, Nat.le_refl _⟩) 4 0 rfl he rfl rfl hl.1 rfl (Nat.le_of_ble_eq_true rfl) dL_pass_4 ⟨(Nat.le_of_ble_eq_true rfl), (Nat.le_of_ble_eq_true rfl)⟩) (fun E ce q9 H locs hX hP hS hc9 hv9 hcl9 => ?_)
  subst hX
  refine vx_catch (own := RL) (name := X_A) hown [] ⟨0, 9, 12, 15⟩ [] htab (fun z hz => nomatch hz) (by decide) (by decide) (hts (.classLink RL 15 X_A) (List.mem_of_getElem? (i := 1) rfl)) (va_Nw.use rfl (hE.2.2.2.2.2.1 (X_A, X_A) (by decide))) hc9 hv9 hcl9 ?_
  refine lv_astore_n (lv' := [(3, .ref q9), (0, .ref b), (1, .int p1), (2, .ref o)]) hx hb dL_pass_12 rfl hl (by decide) rfl (fun ls hl => ?_)
  refine lv_iconst (v := 1) hx hb dL_pass_13 (by decide) ?_
  exact enW () hx hb hr hlocks hS hP rfl (Nat.le_of_ble_eq_true rfl) (Nat.le_of_ble_eq_true rfl) dL_pass_14
set_option maxRecDepth 100000 in
set_option maxHeartbeats 4000000 in
theorem L_foresee_0 {sa tb : Nat → Nat} {D : va_G} {cA cL : ClassId} {l : Launch} {f lo b o : Nat} {p1 p2 : Int32} {wc : va_W} {fs : List Value} {g : Nat → Int64} {S : Type} {post : Int32 → S → Prop} {w1 : S → va_W} (hM : KM sa tb D cA cL l yX4_foresee wsX4_foresee ({ frames := f, cells := 0, slots := 0, locals := lo }) [.ref b, .int p1, .int p2] wc (qI D post w1)) (he : wc[0]? = some (b, .inr (4, fs))) (haddr : ∀ u, (w1 u).map Prod.fst = wc.map Prod.fst) : KW sa tb D cA cL l yL_foresee wsL_foresee ({ frames := f + 1, cells := 1, slots := 6, locals := 8 + (3 + 11) + lo }) [.ref b, .int p1, .int p2, .ref o] (wc ++ [oL cL o g]) (qI D (fun (r : Int32) (u : Int32 × S) => r = 0 ∧ post u.1 u.2) (fun u => w1 u.2 ++ [oL cL o (vp_updL g 0 u.1.toInt64)])) := by
  refine KW.of (cc := cL_foresee) (maxL := 5) (ret := some .int) (hh := [(0, 10, 13, 15), (0, 10, 17, 13)]) (by decide) rfl (Nat.le_of_ble_eq_true rfl) ?_
  intro pg e s m args below meth c A hx hb hr hml hlocks hts hown htab hS hA hE hP hD ls hl
  have hown : s.vm.findClass RL = some m.cls := hown
  have hl : lv_has ls 5 [(0, .ref b), (1, .int p1), (2, .int p2), (3, .ref o)] := hl
  refine lv_aload_n hx hb dL_foresee_0 rfl (lv_at hl 3 rfl) ?_
  refine lv_iconst (v := 0) hx hb dL_foresee_1 (by decide) ?_
  refine lv_aload_n hx hb dL_foresee_2 rfl (lv_at hl 0 rfl) ?_
  refine lv_iload_n hx hb dL_foresee_3 rfl (lv_at hl 1 rfl) ?_
  refine lv_iload_n hx hb dL_foresee_4 rfl (lv_at hl 2 rfl) ?_
  refine goI [] [oL cL o g] hP hD hS hA (rnV (rest := [.int 0, .ref o]) hM [] [oL cL o g] hP hD hS hA hE ⟨hx, hb, hml, hown, hts⟩ (cwV 2 hts gL_foresee_X4_foresee rfl rfl rfl (by decide +kernel) ⟨Nat.le_refl _, Nat.le_refl _⟩) 4 0 rfl he rfl rfl hl.1 rfl (Nat.le_of_ble_eq_true rfl) dL_foresee_5 ⟨Nat.zero_le _, Nat.zero_le _⟩) haddr (fun r u H locs hw hP hD hS => ?_)
  refine lv_i2l hx hb dL_foresee_8 rfl ?_
  refine r_lst (pre := w1 u) hx hb hE hP hD hS dL_foresee_9 (fun H locs hP hD hS => ?_)
  refine lv_goto (tgt := 21) hx hb dL_foresee_10 (by decide) ?_
  refine lv_iconst (v := 0) hx hb dL_foresee_21 (by decide) ?_
  exact enW (r, u) hx hb hr hlocks hS hP ⟨rfl, hw⟩ (Nat.zero_le _) (Nat.zero_le _) dL_foresee_22
set_option maxRecDepth 100000 in
set_option maxHeartbeats 4000000 in
theorem L_foresee_1 {sa tb : Nat → Nat} {D : va_G} {cA cL : ClassId} {l : Launch} {f lo b o : Nat} {p1 p2 : Int32} {wc : va_W} {fs : List Value} {g : Nat → Int64} (hM : KX sa tb D cA cL l yX4_foresee wsX4_foresee ({ frames := f, cells := 1, slots := 6, locals := lo }) [.ref b, .int p1, .int p2] wc (fun E => E = X_A)) (he : wc[0]? = some (b, .inr (4, fs))) : KW sa tb D cA cL l yL_foresee wsL_foresee ({ frames := f + 1, cells := 1, slots := 6, locals := 8 + (3 + 11) + lo }) [.ref b, .int p1, .int p2, .ref o] (wc ++ [oL cL o g]) (qI D (fun (r : Int32) (_ : Unit) => r = 1) (fun _ => wc ++ [oL cL o g])) := by
  refine KW.of (cc := cL_foresee) (maxL := 5) (ret := some .int) (hh := [(0, 10, 13, 15), (0, 10, 17, 13)]) (by decide) rfl (Nat.le_of_ble_eq_true rfl) ?_
  intro pg e s m args below meth c A hx hb hr hml hlocks hts hown htab hS hA hE hP hD ls hl
  have hown : s.vm.findClass RL = some m.cls := hown
  have hl : lv_has ls 5 [(0, .ref b), (1, .int p1), (2, .int p2), (3, .ref o)] := hl
  refine lv_aload_n hx hb dL_foresee_0 rfl (lv_at hl 3 rfl) ?_
  refine lv_iconst (v := 0) hx hb dL_foresee_1 (by decide) ?_
  refine lv_aload_n hx hb dL_foresee_2 rfl (lv_at hl 0 rfl) ?_
  refine lv_iload_n hx hb dL_foresee_3 rfl (lv_at hl 1 rfl) ?_
  refine lv_iload_n hx hb dL_foresee_4 rfl (lv_at hl 2 rfl) ?_
  refine goXc [] [oL cL o g] hP hD hS hA (rnXV (rest := [.int 0, .ref o]) hM [] [oL cL o g] hP hD hS hA hE ⟨hx, hb, hml, hown, hts⟩ (cwV 2 hts gL_foresee_X4_foresee rfl rfl rfl (by decide +kernel) ⟨Nat.le_refl _, Nat.le_refl _⟩) 4 0 rfl he rfl rfl hl.1 rfl (Nat.le_of_ble_eq_true rfl) dL_foresee_5 ⟨(Nat.le_of_ble_eq_true rfl), (Nat.le_of_ble_eq_true rfl)⟩) (fun E ce q9 H locs hX hP hS hc9 hv9 hcl9 => ?_)
  subst hX
  refine vx_catch (own := RL) (name := X_A) hown [] ⟨0, 10, 13, 15⟩ [⟨0, 10, 17, 13⟩] htab (fun z hz => nomatch hz) (by decide) (by decide) (hts (.classLink RL 15 X_A) (List.mem_of_getElem? (i := 1) rfl)) (va_Nw.use rfl (hE.2.2.2.2.2.1 (X_A, X_A) (by decide))) hc9 hv9 hcl9 ?_
  refine lv_astore (lv' := [(4, .ref q9), (0, .ref b), (1, .int p1), (2, .int p2), (3, .ref o)]) hx hb dL_foresee_13 hl (by decide) rfl (fun ls hl => ?_)
  refine lv_iconst (v := 1) hx hb dL_foresee_15 (by decide) ?_
  exact enW () hx hb hr hlocks hS hP rfl (Nat.le_of_ble_eq_true rfl) (Nat.le_of_ble_eq_true rfl) dL_foresee_16
set_option maxRecDepth 100000 in
set_option maxHeartbeats 4000000 in
theorem L_foresee_2 {sa tb : Nat → Nat} {D : va_G} {cA cL : ClassId} {l : Launch} {f lo b o : Nat} {p1 p2 : Int32} {wc : va_W} {fs : List Value} {g : Nat → Int64} (hM : KX sa tb D cA cL l yX4_foresee wsX4_foresee ({ frames := f, cells := 1, slots := 6, locals := lo }) [.ref b, .int p1, .int p2] wc (fun E => E = X_I)) (he : wc[0]? = some (b, .inr (4, fs))) : KW sa tb D cA cL l yL_foresee wsL_foresee ({ frames := f + 1, cells := 1, slots := 6, locals := 8 + (3 + 11) + lo }) [.ref b, .int p1, .int p2, .ref o] (wc ++ [oL cL o g]) (qI D (fun (r : Int32) (_ : Unit) => r = 2) (fun _ => wc ++ [oL cL o g])) := by
  refine KW.of (cc := cL_foresee) (maxL := 5) (ret := some .int) (hh := [(0, 10, 13, 15), (0, 10, 17, 13)]) (by decide) rfl (Nat.le_of_ble_eq_true rfl) ?_
  intro pg e s m args below meth c A hx hb hr hml hlocks hts hown htab hS hA hE hP hD ls hl
  have hown : s.vm.findClass RL = some m.cls := hown
  have hl : lv_has ls 5 [(0, .ref b), (1, .int p1), (2, .int p2), (3, .ref o)] := hl
  refine lv_aload_n hx hb dL_foresee_0 rfl (lv_at hl 3 rfl) ?_
  refine lv_iconst (v := 0) hx hb dL_foresee_1 (by decide) ?_
  refine lv_aload_n hx hb dL_foresee_2 rfl (lv_at hl 0 rfl) ?_
  refine lv_iload_n hx hb dL_foresee_3 rfl (lv_at hl 1 rfl) ?_
  refine lv_iload_n hx hb dL_foresee_4 rfl (lv_at hl 2 rfl) ?_
  refine goXc [] [oL cL o g] hP hD hS hA (rnXV (rest := [.int 0, .ref o]) hM [] [oL cL o g] hP hD hS hA hE ⟨hx, hb, hml, hown, hts⟩ (cwV 2 hts gL_foresee_X4_foresee rfl rfl rfl (by decide +kernel) ⟨Nat.le_refl _, Nat.le_refl _⟩) 4 0 rfl he rfl rfl hl.1 rfl (Nat.le_of_ble_eq_true rfl) dL_foresee_5 ⟨(Nat.le_of_ble_eq_true rfl), (Nat.le_of_ble_eq_true rfl)⟩) (fun E ce q9 H locs hX hP hS hc9 hv9 hcl9 => ?_)
  subst hX
  refine vx_catch (own := RL) (name := X_I) hown [⟨0, 10, 13, 15⟩] ⟨0, 10, 17, 13⟩ [] htab (List.forall_mem_cons.mpr ⟨Or.inr ⟨by decide, X_A, hts (.classLink RL 15 X_A) (List.mem_of_getElem? (i := 1) rfl), hE.2.2.2.2.2.2.1 (X_I, X_A) (by decide)⟩, fun z hz => nomatch hz⟩) (by decide) (by decide) (hts (.classLink RL 13 X_I) (List.mem_of_getElem? (i := 2) rfl)) (va_Nw.use rfl (hE.2.2.2.2.2.1 (X_I, X_I) (by decide))) hc9 hv9 hcl9 ?_
  refine lv_astore (lv' := [(4, .ref q9), (0, .ref b), (1, .int p1), (2, .int p2), (3, .ref o)]) hx hb dL_foresee_17 hl (by decide) rfl (fun ls hl => ?_)
  refine lv_iconst (v := 2) hx hb dL_foresee_19 (by decide) ?_
  exact enW () hx hb hr hlocks hS hP rfl (Nat.le_of_ble_eq_true rfl) (Nat.le_of_ble_eq_true rfl) dL_foresee_20
