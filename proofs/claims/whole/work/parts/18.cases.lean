/-! 18: the law's walk, case by case of its switch -/
section LAYL
variable {p : Program} {l : Launch} {e : Env} {R : Room} {s : State} {m : MethodId} {args : Array Value} {below : List Frame} {meth : Method} {c : Code} {H : Heap} {locs : List Loc} {cells slots : Nat} {Q : State → Prop}
variable {sa tb : Nat → Nat} {D : va_G} {cA cL : ClassId} {A : Nat → Prop} {y : MethodName} {wy : List Cond} {rm : Room} {Qc : (Nat → Prop) → Array Value → State → Outcome → State → Prop} {cc bytes : ByteArray} {maxL nL n index : Nat} {ret : Option FieldType} {Ts : List Cond} {own : String} {As rest st0 : List Value} {pc : Nat} {ls : Array Slot} {pre wc pos : va_W} {hh : List (Nat × Nat × Nat × Nat)} {S : Type} {w1 : S → va_W} {a : Array Value}
theorem rnSW (hM : KW sa tb D cA cL l y wy rm As wc Qc) (pre pos : va_W) (hP : va_P D vwCl (pre ++ (wc ++ pos)) H) (hD : va_D A (pre ++ (wc ++ pos))) (hS : va_S A s.heap H locs) (hA : ∀ q, s.heap.size ≤ q → A q) (hE : En sa tb D cA cL A s s.heap) (hCF : CallFix p m c cc nL s args Ts own)
    (cw : vx_CSW R s args own index y bytes maxL ret hh wy rm 1 6 n) (hn : As.length = n) (hsize : ls.size = nL) (hst : st0 = As.reverse ++ rest) (hW : (rest.map fun v => v.category).sum ≤ 8) (hdg : decode cc pc = .ok (.invokestatic index, 3)) (hf : cells + 1 ≤ R.cells ∧ slots + 6 ≤ R.slots) :
    va_Run p l e R s m args below meth c H locs cells slots 1 6 (F0 m pc ls st0) rest (Qc (va_A wc H.size) As.toArray) (va_A wc H.size) :=
  vx_runSW hCF (hM H.size) cw ⟨PcK.blind, PcKu hP hD hS hA hE⟩ rfl hn hsize hst (lv_room hW) hdg hf
theorem goIw {post : Int32 → S → Prop} (pre pos : va_W) (hP : va_P D vwCl (pre ++ (wc ++ pos)) H) (hD : va_D A (pre ++ (wc ++ pos))) (hS : va_S A s.heap H locs) (hA : ∀ q, s.heap.size ≤ q → A q) (hr : va_Run p l e R s m args below meth c H locs cells slots 1 6 (F0 m pc ls st0) rest (qI D post w1 (va_A wc H.size) a) (va_A wc H.size)) (haddr : ∀ u, (w1 u).map Prod.fst = wc.map Prod.fst)
    (kk : ∀ (r : Int32) (u : S) (H1 : Heap) (locs1 : List Loc), post r u → va_P D vwCl (pre ++ (w1 u ++ pos)) H1 → va_D A (pre ++ (w1 u ++ pos)) → va_S A s.heap H1 locs1 → W p l e R s m args below meth c H1 locs1 (cells + 1) (slots + 6) Q (F0 m (pc + 3) ls (.int r :: rest))) : W p l e R s m args below meth c H locs cells slots Q (F0 m pc ls st0) := by
  refine va_calli hr hS (fun q _ h => mid_free hD hS hA q h) (mid_free hD hS hA) (fun r u t H1 locs1 ht hvm hw hB hz hk hS1 => ?_)
  rw [ht] at hB
  exact kk r u H1 locs1 hw (P_join hP hD hk hB) (hD.addr (by simp [List.map_append, haddr u])) hS1
/-- script[i + j] -/
theorem r_arg (hx : p.tables.exec = Jvm.exec) (hb : c.code = cc) {b L i : Nat} {xs : Nat → Int32} {nL k0 k4 : Nat} {lv : List (Nat × Value)} (hX : va_X b L xs s s.heap) (hbl : b < s.heap.size) (hbA : ¬ A b) (hS : va_S A s.heap H locs) (hL : L ≤ 2048) (hl : lv_has ls nL lv) (h0 : lv[k0]? = some (0, .ref b)) (h4 : lv[k4]? = some (4, .int (nI i))) (j : Nat) {jv : Int32} (hj : nI j = jv) {ji : Int} (hji : Int32.ofInt ji = jv) (hi : i + j < L)
    (d0 : decode cc pc = .ok (.aload_n 0, 1)) (d1 : decode cc (pc + 1) = .ok (.iload 4, 2)) (d3 : decode cc (pc + 3) = .ok (.iconst ji, 1)) (d4 : decode cc (pc + 4) = .ok (.iadd, 1)) (d5 : decode cc (pc + 5) = .ok (.iaload, 1))
    (kk : W p l e R s m args below meth c H locs cells slots Q (F0 m (pc + 6) ls (.int (xs (i + j)) :: rest))) : W p l e R s m args below meth c H locs cells slots Q (F0 m pc ls rest) := by
  refine lv_aload_n hx hb d0 rfl (lv_at hl k0 h0) ?_
  refine lv_iload hx hb d1 (lv_at hl k4 h4) ?_
  refine lv_iconst (v := jv) hx hb d3 hji ?_
  subst hj
  refine rn_add hx hb d4 ?_
  refine va_sld hx hb hX hbl hbA hS (vp_in_nI hi (by omega)) d5 ?_
  rw [nI_clamp (by omega)]
  exact kk
theorem l_at (pre : va_W) (q : Nat × va_E) (pos : va_W) : ((pre ++ [q]) ++ pos)[pre.length]? = some q := by
  rw [List.append_assoc]
  exact l_mid pre [q] pos 0 q rfl
/-- out[0] -/
theorem r_lld (hexec : p.tables.exec = Jvm.exec) (hb : c.code = cc) (hE : En sa tb D cA cL A s s.heap) {o : Nat} {g : Nat → Int64} (hP : va_P D vwCl ((pre ++ [oL cL o g]) ++ pos) H) (hdg : decode cc pc = .ok (.laload, 1))
    (kk : W p l e R s m args below meth c H locs cells slots Q (F0 m (pc + 1) ls (.long (g 0) :: rest))) : W p l e R s m args below meth c H locs cells slots Q (F0 m pc ls (.int 0 :: .ref o :: rest)) :=
  va_lald hexec hb hE.K hP pre.length 1 (l_at pre _ pos) rfl (by unfold vp_in; decide) hdg (by rw [show (0 : Int32).toNatClampNeg = 0 from by decide]; exact kk)
end LAYL
theorem cmp_same (d : Int64) : lg_cmp d d = 0 := by
  unfold lg_cmp
  simp
/-- what holds at every place of the law's walk -/
def LawC (p : Program) (s : State) (m : MethodId) (c : Code) (b L : Nat) (xs : Nat → Int32) (sa tb : Nat → Nat) (D : va_G) (cA cL : ClassId) (A : Nat → Prop) : Prop :=
  p.tables.exec = Jvm.exec ∧ c.code = cL_law ∧ c.maxLocals = 9 ∧ s.vm.findClass RL = some m.cls ∧ (∀ w ∈ wsL_law, w.before #[.ref b] s = true) ∧ va_X b L xs s s.heap ∧ b < s.heap.size ∧ ¬ A b ∧ (∀ q, s.heap.size ≤ q → A q) ∧ En sa tb D cA cL A s s.heap ∧ L ≤ 2048
abbrev lvL (b x h o i : Nat) : List (Nat × Value) := [(0, .ref b), (1, .ref x), (2, .ref h), (3, .ref o), (4, .int (nI i))]
/-- from the end of a case on: both sides hold one value again -/
def KonL (p : Program) (l : Launch) (e : Env) (s : State) (m : MethodId) (b : Nat) (below : List Frame) (meth : Method) (c : Code) (D : va_G) (cA cL : ClassId) (A : Nat → Prop) (x h o i cells slots : Nat) (Q : State → Prop) : Prop :=
  ∀ (W' : va_W) (H1 : Heap) (locs1 : List Loc) (ls1 : Array Slot), Good cA cL x h o W' → va_P D vwCl W' H1 → va_D A W' → va_S A s.heap H1 locs1 → lv_has ls1 9 (lvL b x h o i) → W p l e room_1 s m #[.ref b] below meth c H1 locs1 cells slots Q (F0 m 1243 ls1 [])

set_option maxRecDepth 100000 in
set_option maxHeartbeats 4000000 in
theorem J_bed {p : Program} {l : Launch} {e : Env} {s : State} {m : MethodId} {b : Nat} {below : List Frame} {meth : Method} {c : Code} {H : Heap} {locs : List Loc} {cells slots : Nat} {Q : State → Prop} {sa tb : Nat → Nat} {D : va_G} {cA cL : ClassId} {A : Nat → Prop} {L : Nat} {xs : Nat → Int32} {x h o i : Nat} {ls : Array Slot} {Wd : va_W} (hj : Step9 sa tb D cA cL l x h o yL_bed wsL_bed yX5_bed wsX5_bed [.int (xs (i + 1)), .int (xs (i + 2)), .int (xs (i + 3))] Wd) (C : LawC p s m c b L xs sa tb D cA cL A) (hc : cells + 1 ≤ 1088) (hs : slots + 6 ≤ 8705) (hi : i + 3 < L) (hP : va_P D vwCl Wd H) (hD : va_D A Wd) (hS : va_S A s.heap H locs) (hl : lv_has ls 9 (lvL b x h o i)) (K : KonL p l e s m b below meth c D cA cL A x h o i (cells + 1) (slots + 6) Q) : W p l e room_1 s m #[.ref b] below meth c H locs cells slots Q (F0 m 128 ls []) := by
  obtain ⟨hx, hb, hml, hown, hts, hX, hbl, hbA, hA, hE, hL⟩ := C
  obtain ⟨f1, lo1, f2, lo2, wx, wm, g, fs5, S1, post1, w1, S2, post2, w2, rfl, he5, ⟨b1, b2, b3, b4⟩, hM1, hM2, ha1, ha2, hrel⟩ := hj
  refine lv_aload_n hx hb dL_law_128 rfl (lv_at hl 1 rfl) ?_
  refine r_arg hx hb hX hbl hbA hS hL hl (k0 := 0) (k4 := 4) rfl rfl 1 (jv := 1) (by decide) (by decide) (by omega) dL_law_129 dL_law_130 dL_law_132 dL_law_133 dL_law_134 ?_
  refine r_arg hx hb hX hbl hbA hS hL hl (k0 := 0) (k4 := 4) rfl rfl 2 (jv := 2) (by decide) (by decide) (by omega) dL_law_135 dL_law_136 dL_law_138 dL_law_139 dL_law_140 ?_
  refine r_arg hx hb hX hbl hbA hS hL hl (k0 := 0) (k4 := 4) rfl rfl 3 (jv := 3) (by decide) (by decide) (by omega) dL_law_141 dL_law_142 dL_law_144 dL_law_145 dL_law_146 ?_
  refine lv_aload_n hx hb dL_law_147 rfl (lv_at hl 3 rfl) ?_
  refine goIw [] wm hP hD hS hA (rnSW (rest := []) hM1 [] wm hP hD hS hA hE ⟨hx, hb, hml, hown, hts⟩ (vx_cwSW (bytes := cL_bed) (maxL := 6) (ret := some .int) (hh := [(0, 12, 15, 13), (0, 12, 19, 15), (0, 12, 23, 17)]) 5 hts gL_law_L_bed rfl rfl rfl (by decide +kernel) ⟨by show f1 + 1 ≤ 12; omega, by show 8 + (6 + 11) + lo1 ≤ 434; omega⟩) rfl hl.1 rfl (Nat.le_of_ble_eq_true rfl) dL_law_148 ⟨hc, hs⟩) ha1 (fun k u H locs hw1 hP hD hS => ?_)
  refine lv_istore (lv' := (5, .int k) :: lvL b x h o i) hx hb dL_law_151 hl (by decide) rfl (fun ls hl => ?_)
  refine lv_aload_n hx hb dL_law_153 rfl (lv_at hl 3 rfl) ?_
  refine r_arg hx hb hX hbl hbA hS hL hl (k0 := 1) (k4 := 5) rfl rfl 1 (jv := 1) (by decide) (by decide) (by omega) dL_law_154 dL_law_155 dL_law_157 dL_law_158 dL_law_159 ?_
  refine r_arg hx hb hX hbl hbA hS hL hl (k0 := 1) (k4 := 5) rfl rfl 2 (jv := 2) (by decide) (by decide) (by omega) dL_law_160 dL_law_161 dL_law_163 dL_law_164 dL_law_165 ?_
  refine r_arg hx hb hX hbl hbA hS hL hl (k0 := 1) (k4 := 5) rfl rfl 3 (jv := 3) (by decide) (by decide) (by omega) dL_law_166 dL_law_167 dL_law_169 dL_law_170 dL_law_171 ?_
  have hP2 : va_P D vwCl (w1 u ++ (wm ++ [])) H := by rw [List.append_nil]; exact hP
  have hD2 : va_D A (w1 u ++ (wm ++ [])) := by rw [List.append_nil]; exact hD
  refine goI (w1 u) [] hP2 hD2 hS hA (rnV (rest := []) hM2 (w1 u) [] hP2 hD2 hS hA hE ⟨hx, hb, hml, hown, hts⟩ (cwV 3 hts gL_law_X5_bed rfl rfl rfl (by decide +kernel) ⟨by show f2 + 1 ≤ 12; omega, by show 8 + (5 + 11) + lo2 ≤ 434; omega⟩) 5 0 rfl he5 rfl rfl hl.1 rfl (Nat.le_of_ble_eq_true rfl) dL_law_172 ⟨hc, hs⟩) ha2 (fun r v H locs hw2 hP hD hS => ?_)
  refine lv_istore (lv' := (6, .int r) :: (5, .int k) :: lvL b x h o i) hx hb dL_law_175 hl (by decide) rfl (fun ls hl => ?_)
  obtain ⟨wx, g, mm, dy, co, ti, ro, n, nb, wr, q1, q2, hout, hG⟩ := hrel k u r v hw1 hw2
  rw [List.append_nil, q1, q2] at hP hD
  have hP2 : va_P D vwCl ((wx ++ [oL cL o g]) ++ ([oMod h mm k dy co ti ro n nb] ++ wr)) H := hP
  have hD2 : va_D A ((wx ++ [oL cL o g]) ++ ([oMod h mm k dy co ti ro n nb] ++ wr)) := hD
  refine lv_aload_n hx hb dL_law_177 rfl (lv_at hl 4 rfl) ?_
  refine goI (wx ++ [oL cL o g]) wr hP2 hD2 hS hA (rnV (rest := []) (m_thrown sa tb D cA cL l h mm k dy co ti ro n nb) (wx ++ [oL cL o g]) wr hP2 hD2 hS hA hE ⟨hx, hb, hml, hown, hts⟩ (cwV 0 hts gL_law_X5_thrown rfl rfl rfl (by decide +kernel) ⟨(Nat.le_of_ble_eq_true rfl), (Nat.le_of_ble_eq_true rfl)⟩) 5 0 rfl rfl rfl rfl hl.1 rfl (Nat.le_of_ble_eq_true rfl) dL_law_178 ⟨hc, hs⟩) (fun _ => rfl) (fun r2 u2 H locs hw3 hP hD hS => ?_)
  rw [show r2 = k from hw3]
  refine lv_iload hx hb dL_law_181 (lv_at hl 1 rfl) ?_
  refine lv_icmp_eq (tgt := 188) hx hb dL_law_183 (by decide) (fun _ => ?_) (fun z => absurd rfl z)
  refine lv_iload hx hb dL_law_188 (lv_at hl 1 rfl) ?_
  have hend : W p l e room_1 s m #[.ref b] below meth c H locs (cells + 1) (slots + 6) Q (F0 m 205 ls []) := by
    refine lv_goto (tgt := 1243) hx hb dL_law_205 (by decide) ?_
    exact K _ H locs ls hG hP hD hS (lv_sub hl [2, 3, 4, 5, 6] rfl)
  refine lv_if_ne (tgt := 205) hx hb dL_law_190 (by decide) (fun _ => hend) (fun k0 => ?_)
  refine lv_aload_n hx hb dL_law_193 rfl (lv_at hl 5 rfl) ?_
  refine lv_iconst (v := 0) hx hb dL_law_194 (by decide) ?_
  refine r_lld (pre := wx) (pos := [oMod h mm k dy co ti ro n nb] ++ wr) hx hb hE hP dL_law_195 ?_
  refine lv_iload hx hb dL_law_196 (lv_at hl 0 rfl) ?_
  refine lv_i2l hx hb dL_law_198 rfl ?_
  refine W.lcmp hx hb dL_law_199 ?_
  rw [hout k0, cmp_same]
  exact lv_if_eq (tgt := 205) hx hb dL_law_200 (by decide) (fun _ => hend) (fun z => absurd rfl z)
set_option maxRecDepth 100000 in
set_option maxHeartbeats 4000000 in
theorem J_cut {p : Program} {l : Launch} {e : Env} {s : State} {m : MethodId} {b : Nat} {below : List Frame} {meth : Method} {c : Code} {H : Heap} {locs : List Loc} {cells slots : Nat} {Q : State → Prop} {sa tb : Nat → Nat} {D : va_G} {cA cL : ClassId} {A : Nat → Prop} {L : Nat} {xs : Nat → Int32} {x h o i : Nat} {ls : Array Slot} {Wd : va_W} (hj : Step9 sa tb D cA cL l x h o yL_cut wsL_cut yX5_cut wsX5_cut [.int (xs (i + 1))] Wd) (C : LawC p s m c b L xs sa tb D cA cL A) (hc : cells + 1 ≤ 1088) (hs : slots + 6 ≤ 8705) (hi : i + 3 < L) (hP : va_P D vwCl Wd H) (hD : va_D A Wd) (hS : va_S A s.heap H locs) (hl : lv_has ls 9 (lvL b x h o i)) (K : KonL p l e s m b below meth c D cA cL A x h o i (cells + 1) (slots + 6) Q) : W p l e room_1 s m #[.ref b] below meth c H locs cells slots Q (F0 m 208 ls []) := by
  obtain ⟨hx, hb, hml, hown, hts, hX, hbl, hbA, hA, hE, hL⟩ := C
  obtain ⟨f1, lo1, f2, lo2, wx, wm, g, fs5, S1, post1, w1, S2, post2, w2, rfl, he5, ⟨b1, b2, b3, b4⟩, hM1, hM2, ha1, ha2, hrel⟩ := hj
  refine lv_aload_n hx hb dL_law_208 rfl (lv_at hl 1 rfl) ?_
  refine r_arg hx hb hX hbl hbA hS hL hl (k0 := 0) (k4 := 4) rfl rfl 1 (jv := 1) (by decide) (by decide) (by omega) dL_law_209 dL_law_210 dL_law_212 dL_law_213 dL_law_214 ?_
  refine lv_aload_n hx hb dL_law_215 rfl (lv_at hl 3 rfl) ?_
  refine goIw [] wm hP hD hS hA (rnSW (rest := []) hM1 [] wm hP hD hS hA hE ⟨hx, hb, hml, hown, hts⟩ (vx_cwSW (bytes := cL_cut) (maxL := 4) (ret := some .int) (hh := [(0, 9, 12, 13), (0, 9, 15, 17)]) 3 hts gL_law_L_cut rfl rfl rfl (by decide +kernel) ⟨by show f1 + 1 ≤ 12; omega, by show 8 + (4 + 11) + lo1 ≤ 434; omega⟩) rfl hl.1 rfl (Nat.le_of_ble_eq_true rfl) dL_law_216 ⟨hc, hs⟩) ha1 (fun k u H locs hw1 hP hD hS => ?_)
  refine lv_istore (lv' := (5, .int k) :: lvL b x h o i) hx hb dL_law_219 hl (by decide) rfl (fun ls hl => ?_)
  refine lv_aload_n hx hb dL_law_221 rfl (lv_at hl 3 rfl) ?_
  refine r_arg hx hb hX hbl hbA hS hL hl (k0 := 1) (k4 := 5) rfl rfl 1 (jv := 1) (by decide) (by decide) (by omega) dL_law_222 dL_law_223 dL_law_225 dL_law_226 dL_law_227 ?_
  have hP2 : va_P D vwCl (w1 u ++ (wm ++ [])) H := by rw [List.append_nil]; exact hP
  have hD2 : va_D A (w1 u ++ (wm ++ [])) := by rw [List.append_nil]; exact hD
  refine goI (w1 u) [] hP2 hD2 hS hA (rnV (rest := []) hM2 (w1 u) [] hP2 hD2 hS hA hE ⟨hx, hb, hml, hown, hts⟩ (cwV 1 hts gL_law_X5_cut rfl rfl rfl (by decide +kernel) ⟨by show f2 + 1 ≤ 12; omega, by show 8 + (5 + 11) + lo2 ≤ 434; omega⟩) 5 0 rfl he5 rfl rfl hl.1 rfl (Nat.le_of_ble_eq_true rfl) dL_law_228 ⟨hc, hs⟩) ha2 (fun r v H locs hw2 hP hD hS => ?_)
  refine lv_istore (lv' := (6, .int r) :: (5, .int k) :: lvL b x h o i) hx hb dL_law_231 hl (by decide) rfl (fun ls hl => ?_)
  obtain ⟨wx, g, mm, dy, co, ti, ro, n, nb, wr, q1, q2, hout, hG⟩ := hrel k u r v hw1 hw2
  rw [List.append_nil, q1, q2] at hP hD
  have hP2 : va_P D vwCl ((wx ++ [oL cL o g]) ++ ([oMod h mm k dy co ti ro n nb] ++ wr)) H := hP
  have hD2 : va_D A ((wx ++ [oL cL o g]) ++ ([oMod h mm k dy co ti ro n nb] ++ wr)) := hD
  refine lv_aload_n hx hb dL_law_233 rfl (lv_at hl 4 rfl) ?_
  refine goI (wx ++ [oL cL o g]) wr hP2 hD2 hS hA (rnV (rest := []) (m_thrown sa tb D cA cL l h mm k dy co ti ro n nb) (wx ++ [oL cL o g]) wr hP2 hD2 hS hA hE ⟨hx, hb, hml, hown, hts⟩ (cwV 0 hts gL_law_X5_thrown rfl rfl rfl (by decide +kernel) ⟨(Nat.le_of_ble_eq_true rfl), (Nat.le_of_ble_eq_true rfl)⟩) 5 0 rfl rfl rfl rfl hl.1 rfl (Nat.le_of_ble_eq_true rfl) dL_law_234 ⟨hc, hs⟩) (fun _ => rfl) (fun r2 u2 H locs hw3 hP hD hS => ?_)
  rw [show r2 = k from hw3]
  refine lv_iload hx hb dL_law_237 (lv_at hl 1 rfl) ?_
  refine lv_icmp_eq (tgt := 244) hx hb dL_law_239 (by decide) (fun _ => ?_) (fun z => absurd rfl z)
  refine lv_iload hx hb dL_law_244 (lv_at hl 1 rfl) ?_
  have hend : W p l e room_1 s m #[.ref b] below meth c H locs (cells + 1) (slots + 6) Q (F0 m 261 ls []) := by
    refine lv_goto (tgt := 1243) hx hb dL_law_261 (by decide) ?_
    exact K _ H locs ls hG hP hD hS (lv_sub hl [2, 3, 4, 5, 6] rfl)
  refine lv_if_ne (tgt := 261) hx hb dL_law_246 (by decide) (fun _ => hend) (fun k0 => ?_)
  refine lv_aload_n hx hb dL_law_249 rfl (lv_at hl 5 rfl) ?_
  refine lv_iconst (v := 0) hx hb dL_law_250 (by decide) ?_
  refine r_lld (pre := wx) (pos := [oMod h mm k dy co ti ro n nb] ++ wr) hx hb hE hP dL_law_251 ?_
  refine lv_iload hx hb dL_law_252 (lv_at hl 0 rfl) ?_
  refine lv_i2l hx hb dL_law_254 rfl ?_
  refine W.lcmp hx hb dL_law_255 ?_
  rw [hout k0, cmp_same]
  exact lv_if_eq (tgt := 261) hx hb dL_law_256 (by decide) (fun _ => hend) (fun z => absurd rfl z)
set_option maxRecDepth 100000 in
set_option maxHeartbeats 4000000 in
theorem J_tie {p : Program} {l : Launch} {e : Env} {s : State} {m : MethodId} {b : Nat} {below : List Frame} {meth : Method} {c : Code} {H : Heap} {locs : List Loc} {cells slots : Nat} {Q : State → Prop} {sa tb : Nat → Nat} {D : va_G} {cA cL : ClassId} {A : Nat → Prop} {L : Nat} {xs : Nat → Int32} {x h o i : Nat} {ls : Array Slot} {Wd : va_W} (hj : Step9 sa tb D cA cL l x h o yL_tie wsL_tie yX5_tie wsX5_tie [.int (xs (i + 1))] Wd) (C : LawC p s m c b L xs sa tb D cA cL A) (hc : cells + 1 ≤ 1088) (hs : slots + 6 ≤ 8705) (hi : i + 3 < L) (hP : va_P D vwCl Wd H) (hD : va_D A Wd) (hS : va_S A s.heap H locs) (hl : lv_has ls 9 (lvL b x h o i)) (K : KonL p l e s m b below meth c D cA cL A x h o i (cells + 1) (slots + 6) Q) : W p l e room_1 s m #[.ref b] below meth c H locs cells slots Q (F0 m 264 ls []) := by
  obtain ⟨hx, hb, hml, hown, hts, hX, hbl, hbA, hA, hE, hL⟩ := C
  obtain ⟨f1, lo1, f2, lo2, wx, wm, g, fs5, S1, post1, w1, S2, post2, w2, rfl, he5, ⟨b1, b2, b3, b4⟩, hM1, hM2, ha1, ha2, hrel⟩ := hj
  refine lv_aload_n hx hb dL_law_264 rfl (lv_at hl 1 rfl) ?_
  refine r_arg hx hb hX hbl hbA hS hL hl (k0 := 0) (k4 := 4) rfl rfl 1 (jv := 1) (by decide) (by decide) (by omega) dL_law_265 dL_law_266 dL_law_268 dL_law_269 dL_law_270 ?_
  refine lv_aload_n hx hb dL_law_271 rfl (lv_at hl 3 rfl) ?_
  refine goIw [] wm hP hD hS hA (rnSW (rest := []) hM1 [] wm hP hD hS hA hE ⟨hx, hb, hml, hown, hts⟩ (vx_cwSW (bytes := cL_tie) (maxL := 4) (ret := some .int) (hh := [(0, 9, 12, 13)]) 3 hts gL_law_L_tie rfl rfl rfl (by decide +kernel) ⟨by show f1 + 1 ≤ 12; omega, by show 8 + (4 + 11) + lo1 ≤ 434; omega⟩) rfl hl.1 rfl (Nat.le_of_ble_eq_true rfl) dL_law_272 ⟨hc, hs⟩) ha1 (fun k u H locs hw1 hP hD hS => ?_)
  refine lv_istore (lv' := (5, .int k) :: lvL b x h o i) hx hb dL_law_275 hl (by decide) rfl (fun ls hl => ?_)
  refine lv_aload_n hx hb dL_law_277 rfl (lv_at hl 3 rfl) ?_
  refine r_arg hx hb hX hbl hbA hS hL hl (k0 := 1) (k4 := 5) rfl rfl 1 (jv := 1) (by decide) (by decide) (by omega) dL_law_278 dL_law_279 dL_law_281 dL_law_282 dL_law_283 ?_
  have hP2 : va_P D vwCl (w1 u ++ (wm ++ [])) H := by rw [List.append_nil]; exact hP
  have hD2 : va_D A (w1 u ++ (wm ++ [])) := by rw [List.append_nil]; exact hD
  refine goI (w1 u) [] hP2 hD2 hS hA (rnV (rest := []) hM2 (w1 u) [] hP2 hD2 hS hA hE ⟨hx, hb, hml, hown, hts⟩ (cwV 1 hts gL_law_X5_tie rfl rfl rfl (by decide +kernel) ⟨by show f2 + 1 ≤ 12; omega, by show 8 + (2 + 11) + lo2 ≤ 434; omega⟩) 5 0 rfl he5 rfl rfl hl.1 rfl (Nat.le_of_ble_eq_true rfl) dL_law_284 ⟨hc, hs⟩) ha2 (fun r v H locs hw2 hP hD hS => ?_)
  refine lv_istore (lv' := (6, .int r) :: (5, .int k) :: lvL b x h o i) hx hb dL_law_287 hl (by decide) rfl (fun ls hl => ?_)
  obtain ⟨wx, g, mm, dy, co, ti, ro, n, nb, wr, q1, q2, hout, hG⟩ := hrel k u r v hw1 hw2
  rw [List.append_nil, q1, q2] at hP hD
  have hP2 : va_P D vwCl ((wx ++ [oL cL o g]) ++ ([oMod h mm k dy co ti ro n nb] ++ wr)) H := hP
  have hD2 : va_D A ((wx ++ [oL cL o g]) ++ ([oMod h mm k dy co ti ro n nb] ++ wr)) := hD
  refine lv_aload_n hx hb dL_law_289 rfl (lv_at hl 4 rfl) ?_
  refine goI (wx ++ [oL cL o g]) wr hP2 hD2 hS hA (rnV (rest := []) (m_thrown sa tb D cA cL l h mm k dy co ti ro n nb) (wx ++ [oL cL o g]) wr hP2 hD2 hS hA hE ⟨hx, hb, hml, hown, hts⟩ (cwV 0 hts gL_law_X5_thrown rfl rfl rfl (by decide +kernel) ⟨(Nat.le_of_ble_eq_true rfl), (Nat.le_of_ble_eq_true rfl)⟩) 5 0 rfl rfl rfl rfl hl.1 rfl (Nat.le_of_ble_eq_true rfl) dL_law_290 ⟨hc, hs⟩) (fun _ => rfl) (fun r2 u2 H locs hw3 hP hD hS => ?_)
  rw [show r2 = k from hw3]
  refine lv_iload hx hb dL_law_293 (lv_at hl 1 rfl) ?_
  refine lv_icmp_eq (tgt := 300) hx hb dL_law_295 (by decide) (fun _ => ?_) (fun z => absurd rfl z)
  refine lv_iload hx hb dL_law_300 (lv_at hl 1 rfl) ?_
  have hend : W p l e room_1 s m #[.ref b] below meth c H locs (cells + 1) (slots + 6) Q (F0 m 317 ls []) := by
    refine lv_goto (tgt := 1243) hx hb dL_law_317 (by decide) ?_
    exact K _ H locs ls hG hP hD hS (lv_sub hl [2, 3, 4, 5, 6] rfl)
  refine lv_if_ne (tgt := 317) hx hb dL_law_302 (by decide) (fun _ => hend) (fun k0 => ?_)
  refine lv_aload_n hx hb dL_law_305 rfl (lv_at hl 5 rfl) ?_
  refine lv_iconst (v := 0) hx hb dL_law_306 (by decide) ?_
  refine r_lld (pre := wx) (pos := [oMod h mm k dy co ti ro n nb] ++ wr) hx hb hE hP dL_law_307 ?_
  refine lv_iload hx hb dL_law_308 (lv_at hl 0 rfl) ?_
  refine lv_i2l hx hb dL_law_310 rfl ?_
  refine W.lcmp hx hb dL_law_311 ?_
  rw [hout k0, cmp_same]
  exact lv_if_eq (tgt := 317) hx hb dL_law_312 (by decide) (fun _ => hend) (fun z => absurd rfl z)
set_option maxRecDepth 100000 in
set_option maxHeartbeats 4000000 in
theorem J_buy {p : Program} {l : Launch} {e : Env} {s : State} {m : MethodId} {b : Nat} {below : List Frame} {meth : Method} {c : Code} {H : Heap} {locs : List Loc} {cells slots : Nat} {Q : State → Prop} {sa tb : Nat → Nat} {D : va_G} {cA cL : ClassId} {A : Nat → Prop} {L : Nat} {xs : Nat → Int32} {x h o i : Nat} {ls : Array Slot} {Wd : va_W} (hj : Step9 sa tb D cA cL l x h o yL_buy wsL_buy yX5_buy wsX5_buy [.int (xs (i + 1))] Wd) (C : LawC p s m c b L xs sa tb D cA cL A) (hc : cells + 1 ≤ 1088) (hs : slots + 6 ≤ 8705) (hi : i + 3 < L) (hP : va_P D vwCl Wd H) (hD : va_D A Wd) (hS : va_S A s.heap H locs) (hl : lv_has ls 9 (lvL b x h o i)) (K : KonL p l e s m b below meth c D cA cL A x h o i (cells + 1) (slots + 6) Q) : W p l e room_1 s m #[.ref b] below meth c H locs cells slots Q (F0 m 320 ls []) := by
  obtain ⟨hx, hb, hml, hown, hts, hX, hbl, hbA, hA, hE, hL⟩ := C
  obtain ⟨f1, lo1, f2, lo2, wx, wm, g, fs5, S1, post1, w1, S2, post2, w2, rfl, he5, ⟨b1, b2, b3, b4⟩, hM1, hM2, ha1, ha2, hrel⟩ := hj
  refine lv_aload_n hx hb dL_law_320 rfl (lv_at hl 1 rfl) ?_
  refine r_arg hx hb hX hbl hbA hS hL hl (k0 := 0) (k4 := 4) rfl rfl 1 (jv := 1) (by decide) (by decide) (by omega) dL_law_321 dL_law_322 dL_law_324 dL_law_325 dL_law_326 ?_
  refine lv_aload_n hx hb dL_law_327 rfl (lv_at hl 3 rfl) ?_
  refine goIw [] wm hP hD hS hA (rnSW (rest := []) hM1 [] wm hP hD hS hA hE ⟨hx, hb, hml, hown, hts⟩ (vx_cwSW (bytes := cL_buy) (maxL := 4) (ret := some .int) (hh := [(0, 9, 12, 15), (0, 9, 15, 17)]) 3 hts gL_law_L_buy rfl rfl rfl (by decide +kernel) ⟨by show f1 + 1 ≤ 12; omega, by show 8 + (4 + 11) + lo1 ≤ 434; omega⟩) rfl hl.1 rfl (Nat.le_of_ble_eq_true rfl) dL_law_328 ⟨hc, hs⟩) ha1 (fun k u H locs hw1 hP hD hS => ?_)
  refine lv_istore (lv' := (5, .int k) :: lvL b x h o i) hx hb dL_law_331 hl (by decide) rfl (fun ls hl => ?_)
  refine lv_aload_n hx hb dL_law_333 rfl (lv_at hl 3 rfl) ?_
  refine r_arg hx hb hX hbl hbA hS hL hl (k0 := 1) (k4 := 5) rfl rfl 1 (jv := 1) (by decide) (by decide) (by omega) dL_law_334 dL_law_335 dL_law_337 dL_law_338 dL_law_339 ?_
  have hP2 : va_P D vwCl (w1 u ++ (wm ++ [])) H := by rw [List.append_nil]; exact hP
  have hD2 : va_D A (w1 u ++ (wm ++ [])) := by rw [List.append_nil]; exact hD
  refine goI (w1 u) [] hP2 hD2 hS hA (rnV (rest := []) hM2 (w1 u) [] hP2 hD2 hS hA hE ⟨hx, hb, hml, hown, hts⟩ (cwV 1 hts gL_law_X5_buy rfl rfl rfl (by decide +kernel) ⟨by show f2 + 1 ≤ 12; omega, by show 8 + (2 + 11) + lo2 ≤ 434; omega⟩) 5 0 rfl he5 rfl rfl hl.1 rfl (Nat.le_of_ble_eq_true rfl) dL_law_340 ⟨hc, hs⟩) ha2 (fun r v H locs hw2 hP hD hS => ?_)
  refine lv_istore (lv' := (6, .int r) :: (5, .int k) :: lvL b x h o i) hx hb dL_law_343 hl (by decide) rfl (fun ls hl => ?_)
  obtain ⟨wx, g, mm, dy, co, ti, ro, n, nb, wr, q1, q2, hout, hG⟩ := hrel k u r v hw1 hw2
  rw [List.append_nil, q1, q2] at hP hD
  have hP2 : va_P D vwCl ((wx ++ [oL cL o g]) ++ ([oMod h mm k dy co ti ro n nb] ++ wr)) H := hP
  have hD2 : va_D A ((wx ++ [oL cL o g]) ++ ([oMod h mm k dy co ti ro n nb] ++ wr)) := hD
  refine lv_aload_n hx hb dL_law_345 rfl (lv_at hl 4 rfl) ?_
  refine goI (wx ++ [oL cL o g]) wr hP2 hD2 hS hA (rnV (rest := []) (m_thrown sa tb D cA cL l h mm k dy co ti ro n nb) (wx ++ [oL cL o g]) wr hP2 hD2 hS hA hE ⟨hx, hb, hml, hown, hts⟩ (cwV 0 hts gL_law_X5_thrown rfl rfl rfl (by decide +kernel) ⟨(Nat.le_of_ble_eq_true rfl), (Nat.le_of_ble_eq_true rfl)⟩) 5 0 rfl rfl rfl rfl hl.1 rfl (Nat.le_of_ble_eq_true rfl) dL_law_346 ⟨hc, hs⟩) (fun _ => rfl) (fun r2 u2 H locs hw3 hP hD hS => ?_)
  rw [show r2 = k from hw3]
  refine lv_iload hx hb dL_law_349 (lv_at hl 1 rfl) ?_
  refine lv_icmp_eq (tgt := 356) hx hb dL_law_351 (by decide) (fun _ => ?_) (fun z => absurd rfl z)
  refine lv_iload hx hb dL_law_356 (lv_at hl 1 rfl) ?_
  have hend : W p l e room_1 s m #[.ref b] below meth c H locs (cells + 1) (slots + 6) Q (F0 m 373 ls []) := by
    refine lv_goto (tgt := 1243) hx hb dL_law_373 (by decide) ?_
    exact K _ H locs ls hG hP hD hS (lv_sub hl [2, 3, 4, 5, 6] rfl)
  refine lv_if_ne (tgt := 373) hx hb dL_law_358 (by decide) (fun _ => hend) (fun k0 => ?_)
  refine lv_aload_n hx hb dL_law_361 rfl (lv_at hl 5 rfl) ?_
  refine lv_iconst (v := 0) hx hb dL_law_362 (by decide) ?_
  refine r_lld (pre := wx) (pos := [oMod h mm k dy co ti ro n nb] ++ wr) hx hb hE hP dL_law_363 ?_
  refine lv_iload hx hb dL_law_364 (lv_at hl 0 rfl) ?_
  refine lv_i2l hx hb dL_law_366 rfl ?_
  refine W.lcmp hx hb dL_law_367 ?_
  rw [hout k0, cmp_same]
  exact lv_if_eq (tgt := 373) hx hb dL_law_368 (by decide) (fun _ => hend) (fun z => absurd rfl z)
set_option maxRecDepth 100000 in
set_option maxHeartbeats 4000000 in
theorem J_about {p : Program} {l : Launch} {e : Env} {s : State} {m : MethodId} {b : Nat} {below : List Frame} {meth : Method} {c : Code} {H : Heap} {locs : List Loc} {cells slots : Nat} {Q : State → Prop} {sa tb : Nat → Nat} {D : va_G} {cA cL : ClassId} {A : Nat → Prop} {L : Nat} {xs : Nat → Int32} {x h o i : Nat} {ls : Array Slot} {Wd : va_W} (hj : Step9 sa tb D cA cL l x h o yL_about wsL_about yX5_about wsX5_about [.int (xs (i + 1)), .int (xs (i + 2))] Wd) (C : LawC p s m c b L xs sa tb D cA cL A) (hc : cells + 1 ≤ 1088) (hs : slots + 6 ≤ 8705) (hi : i + 3 < L) (hP : va_P D vwCl Wd H) (hD : va_D A Wd) (hS : va_S A s.heap H locs) (hl : lv_has ls 9 (lvL b x h o i)) (K : KonL p l e s m b below meth c D cA cL A x h o i (cells + 1) (slots + 6) Q) : W p l e room_1 s m #[.ref b] below meth c H locs cells slots Q (F0 m 376 ls []) := by
  obtain ⟨hx, hb, hml, hown, hts, hX, hbl, hbA, hA, hE, hL⟩ := C
  obtain ⟨f1, lo1, f2, lo2, wx, wm, g, fs5, S1, post1, w1, S2, post2, w2, rfl, he5, ⟨b1, b2, b3, b4⟩, hM1, hM2, ha1, ha2, hrel⟩ := hj
  refine lv_aload_n hx hb dL_law_376 rfl (lv_at hl 1 rfl) ?_
  refine r_arg hx hb hX hbl hbA hS hL hl (k0 := 0) (k4 := 4) rfl rfl 1 (jv := 1) (by decide) (by decide) (by omega) dL_law_377 dL_law_378 dL_law_380 dL_law_381 dL_law_382 ?_
  refine r_arg hx hb hX hbl hbA hS hL hl (k0 := 0) (k4 := 4) rfl rfl 2 (jv := 2) (by decide) (by decide) (by omega) dL_law_383 dL_law_384 dL_law_386 dL_law_387 dL_law_388 ?_
  refine lv_aload_n hx hb dL_law_389 rfl (lv_at hl 3 rfl) ?_
  refine goIw [] wm hP hD hS hA (rnSW (rest := []) hM1 [] wm hP hD hS hA hE ⟨hx, hb, hml, hown, hts⟩ (vx_cwSW (bytes := cL_about) (maxL := 5) (ret := some .int) (hh := [(0, 10, 13, 13)]) 4 hts gL_law_L_about rfl rfl rfl (by decide +kernel) ⟨by show f1 + 1 ≤ 12; omega, by show 8 + (5 + 11) + lo1 ≤ 434; omega⟩) rfl hl.1 rfl (Nat.le_of_ble_eq_true rfl) dL_law_390 ⟨hc, hs⟩) ha1 (fun k u H locs hw1 hP hD hS => ?_)
  refine lv_istore (lv' := (5, .int k) :: lvL b x h o i) hx hb dL_law_393 hl (by decide) rfl (fun ls hl => ?_)
  refine lv_aload_n hx hb dL_law_395 rfl (lv_at hl 3 rfl) ?_
  refine r_arg hx hb hX hbl hbA hS hL hl (k0 := 1) (k4 := 5) rfl rfl 1 (jv := 1) (by decide) (by decide) (by omega) dL_law_396 dL_law_397 dL_law_399 dL_law_400 dL_law_401 ?_
  refine r_arg hx hb hX hbl hbA hS hL hl (k0 := 1) (k4 := 5) rfl rfl 2 (jv := 2) (by decide) (by decide) (by omega) dL_law_402 dL_law_403 dL_law_405 dL_law_406 dL_law_407 ?_
  have hP2 : va_P D vwCl (w1 u ++ (wm ++ [])) H := by rw [List.append_nil]; exact hP
  have hD2 : va_D A (w1 u ++ (wm ++ [])) := by rw [List.append_nil]; exact hD
  refine goI (w1 u) [] hP2 hD2 hS hA (rnV (rest := []) hM2 (w1 u) [] hP2 hD2 hS hA hE ⟨hx, hb, hml, hown, hts⟩ (cwV 2 hts gL_law_X5_about rfl rfl rfl (by decide +kernel) ⟨by show f2 + 1 ≤ 12; omega, by show 8 + (3 + 11) + lo2 ≤ 434; omega⟩) 5 0 rfl he5 rfl rfl hl.1 rfl (Nat.le_of_ble_eq_true rfl) dL_law_408 ⟨hc, hs⟩) ha2 (fun r v H locs hw2 hP hD hS => ?_)
  refine lv_istore (lv' := (6, .int r) :: (5, .int k) :: lvL b x h o i) hx hb dL_law_411 hl (by decide) rfl (fun ls hl => ?_)
  obtain ⟨wx, g, mm, dy, co, ti, ro, n, nb, wr, q1, q2, hout, hG⟩ := hrel k u r v hw1 hw2
  rw [List.append_nil, q1, q2] at hP hD
  have hP2 : va_P D vwCl ((wx ++ [oL cL o g]) ++ ([oMod h mm k dy co ti ro n nb] ++ wr)) H := hP
  have hD2 : va_D A ((wx ++ [oL cL o g]) ++ ([oMod h mm k dy co ti ro n nb] ++ wr)) := hD
  refine lv_aload_n hx hb dL_law_413 rfl (lv_at hl 4 rfl) ?_
  refine goI (wx ++ [oL cL o g]) wr hP2 hD2 hS hA (rnV (rest := []) (m_thrown sa tb D cA cL l h mm k dy co ti ro n nb) (wx ++ [oL cL o g]) wr hP2 hD2 hS hA hE ⟨hx, hb, hml, hown, hts⟩ (cwV 0 hts gL_law_X5_thrown rfl rfl rfl (by decide +kernel) ⟨(Nat.le_of_ble_eq_true rfl), (Nat.le_of_ble_eq_true rfl)⟩) 5 0 rfl rfl rfl rfl hl.1 rfl (Nat.le_of_ble_eq_true rfl) dL_law_414 ⟨hc, hs⟩) (fun _ => rfl) (fun r2 u2 H locs hw3 hP hD hS => ?_)
  rw [show r2 = k from hw3]
  refine lv_iload hx hb dL_law_417 (lv_at hl 1 rfl) ?_
  refine lv_icmp_eq (tgt := 424) hx hb dL_law_419 (by decide) (fun _ => ?_) (fun z => absurd rfl z)
  refine lv_iload hx hb dL_law_424 (lv_at hl 1 rfl) ?_
  have hend : W p l e room_1 s m #[.ref b] below meth c H locs (cells + 1) (slots + 6) Q (F0 m 441 ls []) := by
    refine lv_goto (tgt := 1243) hx hb dL_law_441 (by decide) ?_
    exact K _ H locs ls hG hP hD hS (lv_sub hl [2, 3, 4, 5, 6] rfl)
  refine lv_if_ne (tgt := 441) hx hb dL_law_426 (by decide) (fun _ => hend) (fun k0 => ?_)
  refine lv_aload_n hx hb dL_law_429 rfl (lv_at hl 5 rfl) ?_
  refine lv_iconst (v := 0) hx hb dL_law_430 (by decide) ?_
  refine r_lld (pre := wx) (pos := [oMod h mm k dy co ti ro n nb] ++ wr) hx hb hE hP dL_law_431 ?_
  refine lv_iload hx hb dL_law_432 (lv_at hl 0 rfl) ?_
  refine lv_i2l hx hb dL_law_434 rfl ?_
  refine W.lcmp hx hb dL_law_435 ?_
  rw [hout k0, cmp_same]
  exact lv_if_eq (tgt := 441) hx hb dL_law_436 (by decide) (fun _ => hend) (fun z => absurd rfl z)
set_option maxRecDepth 100000 in
set_option maxHeartbeats 4000000 in
theorem J_best {p : Program} {l : Launch} {e : Env} {s : State} {m : MethodId} {b : Nat} {below : List Frame} {meth : Method} {c : Code} {H : Heap} {locs : List Loc} {cells slots : Nat} {Q : State → Prop} {sa tb : Nat → Nat} {D : va_G} {cA cL : ClassId} {A : Nat → Prop} {L : Nat} {xs : Nat → Int32} {x h o i : Nat} {ls : Array Slot} {Wd : va_W} (hj : Step9 sa tb D cA cL l x h o yL_best wsL_best yX5_best wsX5_best [.int (xs (i + 1))] Wd) (C : LawC p s m c b L xs sa tb D cA cL A) (hc : cells + 1 ≤ 1088) (hs : slots + 6 ≤ 8705) (hi : i + 3 < L) (hP : va_P D vwCl Wd H) (hD : va_D A Wd) (hS : va_S A s.heap H locs) (hl : lv_has ls 9 (lvL b x h o i)) (K : KonL p l e s m b below meth c D cA cL A x h o i (cells + 1) (slots + 6) Q) : W p l e room_1 s m #[.ref b] below meth c H locs cells slots Q (F0 m 444 ls []) := by
  obtain ⟨hx, hb, hml, hown, hts, hX, hbl, hbA, hA, hE, hL⟩ := C
  obtain ⟨f1, lo1, f2, lo2, wx, wm, g, fs5, S1, post1, w1, S2, post2, w2, rfl, he5, ⟨b1, b2, b3, b4⟩, hM1, hM2, ha1, ha2, hrel⟩ := hj
  refine lv_aload_n hx hb dL_law_444 rfl (lv_at hl 1 rfl) ?_
  refine r_arg hx hb hX hbl hbA hS hL hl (k0 := 0) (k4 := 4) rfl rfl 1 (jv := 1) (by decide) (by decide) (by omega) dL_law_445 dL_law_446 dL_law_448 dL_law_449 dL_law_450 ?_
  refine lv_aload_n hx hb dL_law_451 rfl (lv_at hl 3 rfl) ?_
  refine goIw [] wm hP hD hS hA (rnSW (rest := []) hM1 [] wm hP hD hS hA hE ⟨hx, hb, hml, hown, hts⟩ (vx_cwSW (bytes := cL_best) (maxL := 4) (ret := some .int) (hh := [(0, 9, 12, 13)]) 3 hts gL_law_L_best rfl rfl rfl (by decide +kernel) ⟨by show f1 + 1 ≤ 12; omega, by show 8 + (4 + 11) + lo1 ≤ 434; omega⟩) rfl hl.1 rfl (Nat.le_of_ble_eq_true rfl) dL_law_452 ⟨hc, hs⟩) ha1 (fun k u H locs hw1 hP hD hS => ?_)
  refine lv_istore (lv' := (5, .int k) :: lvL b x h o i) hx hb dL_law_455 hl (by decide) rfl (fun ls hl => ?_)
  refine lv_aload_n hx hb dL_law_457 rfl (lv_at hl 3 rfl) ?_
  refine r_arg hx hb hX hbl hbA hS hL hl (k0 := 1) (k4 := 5) rfl rfl 1 (jv := 1) (by decide) (by decide) (by omega) dL_law_458 dL_law_459 dL_law_461 dL_law_462 dL_law_463 ?_
  have hP2 : va_P D vwCl (w1 u ++ (wm ++ [])) H := by rw [List.append_nil]; exact hP
  have hD2 : va_D A (w1 u ++ (wm ++ [])) := by rw [List.append_nil]; exact hD
  refine goI (w1 u) [] hP2 hD2 hS hA (rnV (rest := []) hM2 (w1 u) [] hP2 hD2 hS hA hE ⟨hx, hb, hml, hown, hts⟩ (cwV 1 hts gL_law_X5_best rfl rfl rfl (by decide +kernel) ⟨by show f2 + 1 ≤ 12; omega, by show 8 + (6 + 11) + lo2 ≤ 434; omega⟩) 5 0 rfl he5 rfl rfl hl.1 rfl (Nat.le_of_ble_eq_true rfl) dL_law_464 ⟨hc, hs⟩) ha2 (fun r v H locs hw2 hP hD hS => ?_)
  refine lv_istore (lv' := (6, .int r) :: (5, .int k) :: lvL b x h o i) hx hb dL_law_467 hl (by decide) rfl (fun ls hl => ?_)
  obtain ⟨wx, g, mm, dy, co, ti, ro, n, nb, wr, q1, q2, hout, hG⟩ := hrel k u r v hw1 hw2
  rw [List.append_nil, q1, q2] at hP hD
  have hP2 : va_P D vwCl ((wx ++ [oL cL o g]) ++ ([oMod h mm k dy co ti ro n nb] ++ wr)) H := hP
  have hD2 : va_D A ((wx ++ [oL cL o g]) ++ ([oMod h mm k dy co ti ro n nb] ++ wr)) := hD
  refine lv_aload_n hx hb dL_law_469 rfl (lv_at hl 4 rfl) ?_
  refine goI (wx ++ [oL cL o g]) wr hP2 hD2 hS hA (rnV (rest := []) (m_thrown sa tb D cA cL l h mm k dy co ti ro n nb) (wx ++ [oL cL o g]) wr hP2 hD2 hS hA hE ⟨hx, hb, hml, hown, hts⟩ (cwV 0 hts gL_law_X5_thrown rfl rfl rfl (by decide +kernel) ⟨(Nat.le_of_ble_eq_true rfl), (Nat.le_of_ble_eq_true rfl)⟩) 5 0 rfl rfl rfl rfl hl.1 rfl (Nat.le_of_ble_eq_true rfl) dL_law_470 ⟨hc, hs⟩) (fun _ => rfl) (fun r2 u2 H locs hw3 hP hD hS => ?_)
  rw [show r2 = k from hw3]
  refine lv_iload hx hb dL_law_473 (lv_at hl 1 rfl) ?_
  refine lv_icmp_eq (tgt := 480) hx hb dL_law_475 (by decide) (fun _ => ?_) (fun z => absurd rfl z)
  refine lv_iload hx hb dL_law_480 (lv_at hl 1 rfl) ?_
  have hend : W p l e room_1 s m #[.ref b] below meth c H locs (cells + 1) (slots + 6) Q (F0 m 497 ls []) := by
    refine lv_goto (tgt := 1243) hx hb dL_law_497 (by decide) ?_
    exact K _ H locs ls hG hP hD hS (lv_sub hl [2, 3, 4, 5, 6] rfl)
  refine lv_if_ne (tgt := 497) hx hb dL_law_482 (by decide) (fun _ => hend) (fun k0 => ?_)
  refine lv_aload_n hx hb dL_law_485 rfl (lv_at hl 5 rfl) ?_
  refine lv_iconst (v := 0) hx hb dL_law_486 (by decide) ?_
  refine r_lld (pre := wx) (pos := [oMod h mm k dy co ti ro n nb] ++ wr) hx hb hE hP dL_law_487 ?_
  refine lv_iload hx hb dL_law_488 (lv_at hl 0 rfl) ?_
  refine lv_i2l hx hb dL_law_490 rfl ?_
  refine W.lcmp hx hb dL_law_491 ?_
  rw [hout k0, cmp_same]
  exact lv_if_eq (tgt := 497) hx hb dL_law_492 (by decide) (fun _ => hend) (fun z => absurd rfl z)
set_option maxRecDepth 100000 in
set_option maxHeartbeats 4000000 in
theorem J_barge {p : Program} {l : Launch} {e : Env} {s : State} {m : MethodId} {b : Nat} {below : List Frame} {meth : Method} {c : Code} {H : Heap} {locs : List Loc} {cells slots : Nat} {Q : State → Prop} {sa tb : Nat → Nat} {D : va_G} {cA cL : ClassId} {A : Nat → Prop} {L : Nat} {xs : Nat → Int32} {x h o i : Nat} {ls : Array Slot} {Wd : va_W} (hj : Step9 sa tb D cA cL l x h o yL_barge wsL_barge yX5_barge wsX5_barge [.int (xs (i + 1))] Wd) (C : LawC p s m c b L xs sa tb D cA cL A) (hc : cells + 1 ≤ 1088) (hs : slots + 6 ≤ 8705) (hi : i + 3 < L) (hP : va_P D vwCl Wd H) (hD : va_D A Wd) (hS : va_S A s.heap H locs) (hl : lv_has ls 9 (lvL b x h o i)) (K : KonL p l e s m b below meth c D cA cL A x h o i (cells + 1) (slots + 6) Q) : W p l e room_1 s m #[.ref b] below meth c H locs cells slots Q (F0 m 500 ls []) := by
  obtain ⟨hx, hb, hml, hown, hts, hX, hbl, hbA, hA, hE, hL⟩ := C
  obtain ⟨f1, lo1, f2, lo2, wx, wm, g, fs5, S1, post1, w1, S2, post2, w2, rfl, he5, ⟨b1, b2, b3, b4⟩, hM1, hM2, ha1, ha2, hrel⟩ := hj
  refine lv_aload_n hx hb dL_law_500 rfl (lv_at hl 1 rfl) ?_
  refine r_arg hx hb hX hbl hbA hS hL hl (k0 := 0) (k4 := 4) rfl rfl 1 (jv := 1) (by decide) (by decide) (by omega) dL_law_501 dL_law_502 dL_law_504 dL_law_505 dL_law_506 ?_
  refine lv_aload_n hx hb dL_law_507 rfl (lv_at hl 3 rfl) ?_
  refine goIw [] wm hP hD hS hA (rnSW (rest := []) hM1 [] wm hP hD hS hA hE ⟨hx, hb, hml, hown, hts⟩ (vx_cwSW (bytes := cL_barge) (maxL := 4) (ret := some .int) (hh := [(0, 9, 12, 13), (0, 9, 15, 17)]) 3 hts gL_law_L_barge rfl rfl rfl (by decide +kernel) ⟨by show f1 + 1 ≤ 12; omega, by show 8 + (4 + 11) + lo1 ≤ 434; omega⟩) rfl hl.1 rfl (Nat.le_of_ble_eq_true rfl) dL_law_508 ⟨hc, hs⟩) ha1 (fun k u H locs hw1 hP hD hS => ?_)
  refine lv_istore (lv' := (5, .int k) :: lvL b x h o i) hx hb dL_law_511 hl (by decide) rfl (fun ls hl => ?_)
  refine lv_aload_n hx hb dL_law_513 rfl (lv_at hl 3 rfl) ?_
  refine r_arg hx hb hX hbl hbA hS hL hl (k0 := 1) (k4 := 5) rfl rfl 1 (jv := 1) (by decide) (by decide) (by omega) dL_law_514 dL_law_515 dL_law_517 dL_law_518 dL_law_519 ?_
  have hP2 : va_P D vwCl (w1 u ++ (wm ++ [])) H := by rw [List.append_nil]; exact hP
  have hD2 : va_D A (w1 u ++ (wm ++ [])) := by rw [List.append_nil]; exact hD
  refine goI (w1 u) [] hP2 hD2 hS hA (rnV (rest := []) hM2 (w1 u) [] hP2 hD2 hS hA hE ⟨hx, hb, hml, hown, hts⟩ (cwV 1 hts gL_law_X5_barge rfl rfl rfl (by decide +kernel) ⟨by show f2 + 1 ≤ 12; omega, by show 8 + (2 + 11) + lo2 ≤ 434; omega⟩) 5 0 rfl he5 rfl rfl hl.1 rfl (Nat.le_of_ble_eq_true rfl) dL_law_520 ⟨hc, hs⟩) ha2 (fun r v H locs hw2 hP hD hS => ?_)
  refine lv_istore (lv' := (6, .int r) :: (5, .int k) :: lvL b x h o i) hx hb dL_law_523 hl (by decide) rfl (fun ls hl => ?_)
  obtain ⟨wx, g, mm, dy, co, ti, ro, n, nb, wr, q1, q2, hout, hG⟩ := hrel k u r v hw1 hw2
  rw [List.append_nil, q1, q2] at hP hD
  have hP2 : va_P D vwCl ((wx ++ [oL cL o g]) ++ ([oMod h mm k dy co ti ro n nb] ++ wr)) H := hP
  have hD2 : va_D A ((wx ++ [oL cL o g]) ++ ([oMod h mm k dy co ti ro n nb] ++ wr)) := hD
  refine lv_aload_n hx hb dL_law_525 rfl (lv_at hl 4 rfl) ?_
  refine goI (wx ++ [oL cL o g]) wr hP2 hD2 hS hA (rnV (rest := []) (m_thrown sa tb D cA cL l h mm k dy co ti ro n nb) (wx ++ [oL cL o g]) wr hP2 hD2 hS hA hE ⟨hx, hb, hml, hown, hts⟩ (cwV 0 hts gL_law_X5_thrown rfl rfl rfl (by decide +kernel) ⟨(Nat.le_of_ble_eq_true rfl), (Nat.le_of_ble_eq_true rfl)⟩) 5 0 rfl rfl rfl rfl hl.1 rfl (Nat.le_of_ble_eq_true rfl) dL_law_526 ⟨hc, hs⟩) (fun _ => rfl) (fun r2 u2 H locs hw3 hP hD hS => ?_)
  rw [show r2 = k from hw3]
  refine lv_iload hx hb dL_law_529 (lv_at hl 1 rfl) ?_
  refine lv_icmp_eq (tgt := 536) hx hb dL_law_531 (by decide) (fun _ => ?_) (fun z => absurd rfl z)
  refine lv_iload hx hb dL_law_536 (lv_at hl 1 rfl) ?_
  have hend : W p l e room_1 s m #[.ref b] below meth c H locs (cells + 1) (slots + 6) Q (F0 m 553 ls []) := by
    refine lv_goto (tgt := 1243) hx hb dL_law_553 (by decide) ?_
    exact K _ H locs ls hG hP hD hS (lv_sub hl [2, 3, 4, 5, 6] rfl)
  refine lv_if_ne (tgt := 553) hx hb dL_law_538 (by decide) (fun _ => hend) (fun k0 => ?_)
  refine lv_aload_n hx hb dL_law_541 rfl (lv_at hl 5 rfl) ?_
  refine lv_iconst (v := 0) hx hb dL_law_542 (by decide) ?_
  refine r_lld (pre := wx) (pos := [oMod h mm k dy co ti ro n nb] ++ wr) hx hb hE hP dL_law_543 ?_
  refine lv_iload hx hb dL_law_544 (lv_at hl 0 rfl) ?_
  refine lv_i2l hx hb dL_law_546 rfl ?_
  refine W.lcmp hx hb dL_law_547 ?_
  rw [hout k0, cmp_same]
  exact lv_if_eq (tgt := 553) hx hb dL_law_548 (by decide) (fun _ => hend) (fun z => absurd rfl z)
set_option maxRecDepth 100000 in
set_option maxHeartbeats 4000000 in
theorem J_sail {p : Program} {l : Launch} {e : Env} {s : State} {m : MethodId} {b : Nat} {below : List Frame} {meth : Method} {c : Code} {H : Heap} {locs : List Loc} {cells slots : Nat} {Q : State → Prop} {sa tb : Nat → Nat} {D : va_G} {cA cL : ClassId} {A : Nat → Prop} {L : Nat} {xs : Nat → Int32} {x h o i : Nat} {ls : Array Slot} {Wd : va_W} (hj : Step9 sa tb D cA cL l x h o yL_sail wsL_sail yX5_sail wsX5_sail [.int (xs (i + 1)), .int (xs (i + 2))] Wd) (C : LawC p s m c b L xs sa tb D cA cL A) (hc : cells + 1 ≤ 1088) (hs : slots + 6 ≤ 8705) (hi : i + 3 < L) (hP : va_P D vwCl Wd H) (hD : va_D A Wd) (hS : va_S A s.heap H locs) (hl : lv_has ls 9 (lvL b x h o i)) (K : KonL p l e s m b below meth c D cA cL A x h o i (cells + 1) (slots + 6) Q) : W p l e room_1 s m #[.ref b] below meth c H locs cells slots Q (F0 m 556 ls []) := by
  obtain ⟨hx, hb, hml, hown, hts, hX, hbl, hbA, hA, hE, hL⟩ := C
  obtain ⟨f1, lo1, f2, lo2, wx, wm, g, fs5, S1, post1, w1, S2, post2, w2, rfl, he5, ⟨b1, b2, b3, b4⟩, hM1, hM2, ha1, ha2, hrel⟩ := hj
  refine lv_aload_n hx hb dL_law_556 rfl (lv_at hl 1 rfl) ?_
  refine r_arg hx hb hX hbl hbA hS hL hl (k0 := 0) (k4 := 4) rfl rfl 1 (jv := 1) (by decide) (by decide) (by omega) dL_law_557 dL_law_558 dL_law_560 dL_law_561 dL_law_562 ?_
  refine r_arg hx hb hX hbl hbA hS hL hl (k0 := 0) (k4 := 4) rfl rfl 2 (jv := 2) (by decide) (by decide) (by omega) dL_law_563 dL_law_564 dL_law_566 dL_law_567 dL_law_568 ?_
  refine lv_aload_n hx hb dL_law_569 rfl (lv_at hl 3 rfl) ?_
  refine goIw [] wm hP hD hS hA (rnSW (rest := []) hM1 [] wm hP hD hS hA hE ⟨hx, hb, hml, hown, hts⟩ (vx_cwSW (bytes := cL_sail) (maxL := 5) (ret := some .int) (hh := [(0, 10, 13, 13)]) 4 hts gL_law_L_sail rfl rfl rfl (by decide +kernel) ⟨by show f1 + 1 ≤ 12; omega, by show 8 + (5 + 11) + lo1 ≤ 434; omega⟩) rfl hl.1 rfl (Nat.le_of_ble_eq_true rfl) dL_law_570 ⟨hc, hs⟩) ha1 (fun k u H locs hw1 hP hD hS => ?_)
  refine lv_istore (lv' := (5, .int k) :: lvL b x h o i) hx hb dL_law_573 hl (by decide) rfl (fun ls hl => ?_)
  refine lv_aload_n hx hb dL_law_575 rfl (lv_at hl 3 rfl) ?_
  refine r_arg hx hb hX hbl hbA hS hL hl (k0 := 1) (k4 := 5) rfl rfl 1 (jv := 1) (by decide) (by decide) (by omega) dL_law_576 dL_law_577 dL_law_579 dL_law_580 dL_law_581 ?_
  refine r_arg hx hb hX hbl hbA hS hL hl (k0 := 1) (k4 := 5) rfl rfl 2 (jv := 2) (by decide) (by decide) (by omega) dL_law_582 dL_law_583 dL_law_585 dL_law_586 dL_law_587 ?_
  have hP2 : va_P D vwCl (w1 u ++ (wm ++ [])) H := by rw [List.append_nil]; exact hP
  have hD2 : va_D A (w1 u ++ (wm ++ [])) := by rw [List.append_nil]; exact hD
  refine goI (w1 u) [] hP2 hD2 hS hA (rnV (rest := []) hM2 (w1 u) [] hP2 hD2 hS hA hE ⟨hx, hb, hml, hown, hts⟩ (cwV 2 hts gL_law_X5_sail rfl rfl rfl (by decide +kernel) ⟨by show f2 + 1 ≤ 12; omega, by show 8 + (4 + 11) + lo2 ≤ 434; omega⟩) 5 0 rfl he5 rfl rfl hl.1 rfl (Nat.le_of_ble_eq_true rfl) dL_law_588 ⟨hc, hs⟩) ha2 (fun r v H locs hw2 hP hD hS => ?_)
  refine lv_istore (lv' := (6, .int r) :: (5, .int k) :: lvL b x h o i) hx hb dL_law_591 hl (by decide) rfl (fun ls hl => ?_)
  obtain ⟨wx, g, mm, dy, co, ti, ro, n, nb, wr, q1, q2, hout, hG⟩ := hrel k u r v hw1 hw2
  rw [List.append_nil, q1, q2] at hP hD
  have hP2 : va_P D vwCl ((wx ++ [oL cL o g]) ++ ([oMod h mm k dy co ti ro n nb] ++ wr)) H := hP
  have hD2 : va_D A ((wx ++ [oL cL o g]) ++ ([oMod h mm k dy co ti ro n nb] ++ wr)) := hD
  refine lv_aload_n hx hb dL_law_593 rfl (lv_at hl 4 rfl) ?_
  refine goI (wx ++ [oL cL o g]) wr hP2 hD2 hS hA (rnV (rest := []) (m_thrown sa tb D cA cL l h mm k dy co ti ro n nb) (wx ++ [oL cL o g]) wr hP2 hD2 hS hA hE ⟨hx, hb, hml, hown, hts⟩ (cwV 0 hts gL_law_X5_thrown rfl rfl rfl (by decide +kernel) ⟨(Nat.le_of_ble_eq_true rfl), (Nat.le_of_ble_eq_true rfl)⟩) 5 0 rfl rfl rfl rfl hl.1 rfl (Nat.le_of_ble_eq_true rfl) dL_law_594 ⟨hc, hs⟩) (fun _ => rfl) (fun r2 u2 H locs hw3 hP hD hS => ?_)
  rw [show r2 = k from hw3]
  refine lv_iload hx hb dL_law_597 (lv_at hl 1 rfl) ?_
  refine lv_icmp_eq (tgt := 604) hx hb dL_law_599 (by decide) (fun _ => ?_) (fun z => absurd rfl z)
  refine lv_iload hx hb dL_law_604 (lv_at hl 1 rfl) ?_
  have hend : W p l e room_1 s m #[.ref b] below meth c H locs (cells + 1) (slots + 6) Q (F0 m 621 ls []) := by
    refine lv_goto (tgt := 1243) hx hb dL_law_621 (by decide) ?_
    exact K _ H locs ls hG hP hD hS (lv_sub hl [2, 3, 4, 5, 6] rfl)
  refine lv_if_ne (tgt := 621) hx hb dL_law_606 (by decide) (fun _ => hend) (fun k0 => ?_)
  refine lv_aload_n hx hb dL_law_609 rfl (lv_at hl 5 rfl) ?_
  refine lv_iconst (v := 0) hx hb dL_law_610 (by decide) ?_
  refine r_lld (pre := wx) (pos := [oMod h mm k dy co ti ro n nb] ++ wr) hx hb hE hP dL_law_611 ?_
  refine lv_iload hx hb dL_law_612 (lv_at hl 0 rfl) ?_
  refine lv_i2l hx hb dL_law_614 rfl ?_
  refine W.lcmp hx hb dL_law_615 ?_
  rw [hout k0, cmp_same]
  exact lv_if_eq (tgt := 621) hx hb dL_law_616 (by decide) (fun _ => hend) (fun z => absurd rfl z)
set_option maxRecDepth 100000 in
set_option maxHeartbeats 4000000 in
theorem J_load {p : Program} {l : Launch} {e : Env} {s : State} {m : MethodId} {b : Nat} {below : List Frame} {meth : Method} {c : Code} {H : Heap} {locs : List Loc} {cells slots : Nat} {Q : State → Prop} {sa tb : Nat → Nat} {D : va_G} {cA cL : ClassId} {A : Nat → Prop} {L : Nat} {xs : Nat → Int32} {x h o i : Nat} {ls : Array Slot} {Wd : va_W} (hj : Step9 sa tb D cA cL l x h o yL_load wsL_load yX5_load wsX5_load [.int (xs (i + 1)), .int (xs (i + 2))] Wd) (C : LawC p s m c b L xs sa tb D cA cL A) (hc : cells + 1 ≤ 1088) (hs : slots + 6 ≤ 8705) (hi : i + 3 < L) (hP : va_P D vwCl Wd H) (hD : va_D A Wd) (hS : va_S A s.heap H locs) (hl : lv_has ls 9 (lvL b x h o i)) (K : KonL p l e s m b below meth c D cA cL A x h o i (cells + 1) (slots + 6) Q) : W p l e room_1 s m #[.ref b] below meth c H locs cells slots Q (F0 m 624 ls []) := by
  obtain ⟨hx, hb, hml, hown, hts, hX, hbl, hbA, hA, hE, hL⟩ := C
  obtain ⟨f1, lo1, f2, lo2, wx, wm, g, fs5, S1, post1, w1, S2, post2, w2, rfl, he5, ⟨b1, b2, b3, b4⟩, hM1, hM2, ha1, ha2, hrel⟩ := hj
  refine lv_aload_n hx hb dL_law_624 rfl (lv_at hl 1 rfl) ?_
  refine r_arg hx hb hX hbl hbA hS hL hl (k0 := 0) (k4 := 4) rfl rfl 1 (jv := 1) (by decide) (by decide) (by omega) dL_law_625 dL_law_626 dL_law_628 dL_law_629 dL_law_630 ?_
  refine r_arg hx hb hX hbl hbA hS hL hl (k0 := 0) (k4 := 4) rfl rfl 2 (jv := 2) (by decide) (by decide) (by omega) dL_law_631 dL_law_632 dL_law_634 dL_law_635 dL_law_636 ?_
  refine lv_aload_n hx hb dL_law_637 rfl (lv_at hl 3 rfl) ?_
  refine goIw [] wm hP hD hS hA (rnSW (rest := []) hM1 [] wm hP hD hS hA hE ⟨hx, hb, hml, hown, hts⟩ (vx_cwSW (bytes := cL_load) (maxL := 5) (ret := some .int) (hh := [(0, 10, 13, 13), (0, 10, 17, 17)]) 4 hts gL_law_L_load rfl rfl rfl (by decide +kernel) ⟨by show f1 + 1 ≤ 12; omega, by show 8 + (5 + 11) + lo1 ≤ 434; omega⟩) rfl hl.1 rfl (Nat.le_of_ble_eq_true rfl) dL_law_638 ⟨hc, hs⟩) ha1 (fun k u H locs hw1 hP hD hS => ?_)
  refine lv_istore (lv' := (5, .int k) :: lvL b x h o i) hx hb dL_law_641 hl (by decide) rfl (fun ls hl => ?_)
  refine lv_aload_n hx hb dL_law_643 rfl (lv_at hl 3 rfl) ?_
  refine r_arg hx hb hX hbl hbA hS hL hl (k0 := 1) (k4 := 5) rfl rfl 1 (jv := 1) (by decide) (by decide) (by omega) dL_law_644 dL_law_645 dL_law_647 dL_law_648 dL_law_649 ?_
  refine r_arg hx hb hX hbl hbA hS hL hl (k0 := 1) (k4 := 5) rfl rfl 2 (jv := 2) (by decide) (by decide) (by omega) dL_law_650 dL_law_651 dL_law_653 dL_law_654 dL_law_655 ?_
  have hP2 : va_P D vwCl (w1 u ++ (wm ++ [])) H := by rw [List.append_nil]; exact hP
  have hD2 : va_D A (w1 u ++ (wm ++ [])) := by rw [List.append_nil]; exact hD
  refine goI (w1 u) [] hP2 hD2 hS hA (rnV (rest := []) hM2 (w1 u) [] hP2 hD2 hS hA hE ⟨hx, hb, hml, hown, hts⟩ (cwV 2 hts gL_law_X5_load rfl rfl rfl (by decide +kernel) ⟨by show f2 + 1 ≤ 12; omega, by show 8 + (3 + 11) + lo2 ≤ 434; omega⟩) 5 0 rfl he5 rfl rfl hl.1 rfl (Nat.le_of_ble_eq_true rfl) dL_law_656 ⟨hc, hs⟩) ha2 (fun r v H locs hw2 hP hD hS => ?_)
  refine lv_istore (lv' := (6, .int r) :: (5, .int k) :: lvL b x h o i) hx hb dL_law_659 hl (by decide) rfl (fun ls hl => ?_)
  obtain ⟨wx, g, mm, dy, co, ti, ro, n, nb, wr, q1, q2, hout, hG⟩ := hrel k u r v hw1 hw2
  rw [List.append_nil, q1, q2] at hP hD
  have hP2 : va_P D vwCl ((wx ++ [oL cL o g]) ++ ([oMod h mm k dy co ti ro n nb] ++ wr)) H := hP
  have hD2 : va_D A ((wx ++ [oL cL o g]) ++ ([oMod h mm k dy co ti ro n nb] ++ wr)) := hD
  refine lv_aload_n hx hb dL_law_661 rfl (lv_at hl 4 rfl) ?_
  refine goI (wx ++ [oL cL o g]) wr hP2 hD2 hS hA (rnV (rest := []) (m_thrown sa tb D cA cL l h mm k dy co ti ro n nb) (wx ++ [oL cL o g]) wr hP2 hD2 hS hA hE ⟨hx, hb, hml, hown, hts⟩ (cwV 0 hts gL_law_X5_thrown rfl rfl rfl (by decide +kernel) ⟨(Nat.le_of_ble_eq_true rfl), (Nat.le_of_ble_eq_true rfl)⟩) 5 0 rfl rfl rfl rfl hl.1 rfl (Nat.le_of_ble_eq_true rfl) dL_law_662 ⟨hc, hs⟩) (fun _ => rfl) (fun r2 u2 H locs hw3 hP hD hS => ?_)
  rw [show r2 = k from hw3]
  refine lv_iload hx hb dL_law_665 (lv_at hl 1 rfl) ?_
  refine lv_icmp_eq (tgt := 672) hx hb dL_law_667 (by decide) (fun _ => ?_) (fun z => absurd rfl z)
  refine lv_iload hx hb dL_law_672 (lv_at hl 1 rfl) ?_
  have hend : W p l e room_1 s m #[.ref b] below meth c H locs (cells + 1) (slots + 6) Q (F0 m 689 ls []) := by
    refine lv_goto (tgt := 1243) hx hb dL_law_689 (by decide) ?_
    exact K _ H locs ls hG hP hD hS (lv_sub hl [2, 3, 4, 5, 6] rfl)
  refine lv_if_ne (tgt := 689) hx hb dL_law_674 (by decide) (fun _ => hend) (fun k0 => ?_)
  refine lv_aload_n hx hb dL_law_677 rfl (lv_at hl 5 rfl) ?_
  refine lv_iconst (v := 0) hx hb dL_law_678 (by decide) ?_
  refine r_lld (pre := wx) (pos := [oMod h mm k dy co ti ro n nb] ++ wr) hx hb hE hP dL_law_679 ?_
  refine lv_iload hx hb dL_law_680 (lv_at hl 0 rfl) ?_
  refine lv_i2l hx hb dL_law_682 rfl ?_
  refine W.lcmp hx hb dL_law_683 ?_
  rw [hout k0, cmp_same]
  exact lv_if_eq (tgt := 689) hx hb dL_law_684 (by decide) (fun _ => hend) (fun z => absurd rfl z)
set_option maxRecDepth 100000 in
set_option maxHeartbeats 4000000 in
theorem J_sell {p : Program} {l : Launch} {e : Env} {s : State} {m : MethodId} {b : Nat} {below : List Frame} {meth : Method} {c : Code} {H : Heap} {locs : List Loc} {cells slots : Nat} {Q : State → Prop} {sa tb : Nat → Nat} {D : va_G} {cA cL : ClassId} {A : Nat → Prop} {L : Nat} {xs : Nat → Int32} {x h o i : Nat} {ls : Array Slot} {Wd : va_W} (hj : Step9 sa tb D cA cL l x h o yL_sell wsL_sell yX5_sell wsX5_sell [.int (xs (i + 1))] Wd) (C : LawC p s m c b L xs sa tb D cA cL A) (hc : cells + 1 ≤ 1088) (hs : slots + 6 ≤ 8705) (hi : i + 3 < L) (hP : va_P D vwCl Wd H) (hD : va_D A Wd) (hS : va_S A s.heap H locs) (hl : lv_has ls 9 (lvL b x h o i)) (K : KonL p l e s m b below meth c D cA cL A x h o i (cells + 1) (slots + 6) Q) : W p l e room_1 s m #[.ref b] below meth c H locs cells slots Q (F0 m 692 ls []) := by
  obtain ⟨hx, hb, hml, hown, hts, hX, hbl, hbA, hA, hE, hL⟩ := C
  obtain ⟨f1, lo1, f2, lo2, wx, wm, g, fs5, S1, post1, w1, S2, post2, w2, rfl, he5, ⟨b1, b2, b3, b4⟩, hM1, hM2, ha1, ha2, hrel⟩ := hj
  refine lv_aload_n hx hb dL_law_692 rfl (lv_at hl 1 rfl) ?_
  refine r_arg hx hb hX hbl hbA hS hL hl (k0 := 0) (k4 := 4) rfl rfl 1 (jv := 1) (by decide) (by decide) (by omega) dL_law_693 dL_law_694 dL_law_696 dL_law_697 dL_law_698 ?_
  refine lv_aload_n hx hb dL_law_699 rfl (lv_at hl 3 rfl) ?_
  refine goIw [] wm hP hD hS hA (rnSW (rest := []) hM1 [] wm hP hD hS hA hE ⟨hx, hb, hml, hown, hts⟩ (vx_cwSW (bytes := cL_sell) (maxL := 4) (ret := some .int) (hh := [(0, 9, 12, 13), (0, 9, 15, 17)]) 3 hts gL_law_L_sell rfl rfl rfl (by decide +kernel) ⟨by show f1 + 1 ≤ 12; omega, by show 8 + (4 + 11) + lo1 ≤ 434; omega⟩) rfl hl.1 rfl (Nat.le_of_ble_eq_true rfl) dL_law_700 ⟨hc, hs⟩) ha1 (fun k u H locs hw1 hP hD hS => ?_)
  refine lv_istore (lv' := (5, .int k) :: lvL b x h o i) hx hb dL_law_703 hl (by decide) rfl (fun ls hl => ?_)
  refine lv_aload_n hx hb dL_law_705 rfl (lv_at hl 3 rfl) ?_
  refine r_arg hx hb hX hbl hbA hS hL hl (k0 := 1) (k4 := 5) rfl rfl 1 (jv := 1) (by decide) (by decide) (by omega) dL_law_706 dL_law_707 dL_law_709 dL_law_710 dL_law_711 ?_
  have hP2 : va_P D vwCl (w1 u ++ (wm ++ [])) H := by rw [List.append_nil]; exact hP
  have hD2 : va_D A (w1 u ++ (wm ++ [])) := by rw [List.append_nil]; exact hD
  refine goI (w1 u) [] hP2 hD2 hS hA (rnV (rest := []) hM2 (w1 u) [] hP2 hD2 hS hA hE ⟨hx, hb, hml, hown, hts⟩ (cwV 1 hts gL_law_X5_sell rfl rfl rfl (by decide +kernel) ⟨by show f2 + 1 ≤ 12; omega, by show 8 + (5 + 11) + lo2 ≤ 434; omega⟩) 5 0 rfl he5 rfl rfl hl.1 rfl (Nat.le_of_ble_eq_true rfl) dL_law_712 ⟨hc, hs⟩) ha2 (fun r v H locs hw2 hP hD hS => ?_)
  refine lv_istore (lv' := (6, .int r) :: (5, .int k) :: lvL b x h o i) hx hb dL_law_715 hl (by decide) rfl (fun ls hl => ?_)
  obtain ⟨wx, g, mm, dy, co, ti, ro, n, nb, wr, q1, q2, hout, hG⟩ := hrel k u r v hw1 hw2
  rw [List.append_nil, q1, q2] at hP hD
  have hP2 : va_P D vwCl ((wx ++ [oL cL o g]) ++ ([oMod h mm k dy co ti ro n nb] ++ wr)) H := hP
  have hD2 : va_D A ((wx ++ [oL cL o g]) ++ ([oMod h mm k dy co ti ro n nb] ++ wr)) := hD
  refine lv_aload_n hx hb dL_law_717 rfl (lv_at hl 4 rfl) ?_
  refine goI (wx ++ [oL cL o g]) wr hP2 hD2 hS hA (rnV (rest := []) (m_thrown sa tb D cA cL l h mm k dy co ti ro n nb) (wx ++ [oL cL o g]) wr hP2 hD2 hS hA hE ⟨hx, hb, hml, hown, hts⟩ (cwV 0 hts gL_law_X5_thrown rfl rfl rfl (by decide +kernel) ⟨(Nat.le_of_ble_eq_true rfl), (Nat.le_of_ble_eq_true rfl)⟩) 5 0 rfl rfl rfl rfl hl.1 rfl (Nat.le_of_ble_eq_true rfl) dL_law_718 ⟨hc, hs⟩) (fun _ => rfl) (fun r2 u2 H locs hw3 hP hD hS => ?_)
  rw [show r2 = k from hw3]
  refine lv_iload hx hb dL_law_721 (lv_at hl 1 rfl) ?_
  refine lv_icmp_eq (tgt := 728) hx hb dL_law_723 (by decide) (fun _ => ?_) (fun z => absurd rfl z)
  refine lv_iload hx hb dL_law_728 (lv_at hl 1 rfl) ?_
  have hend : W p l e room_1 s m #[.ref b] below meth c H locs (cells + 1) (slots + 6) Q (F0 m 745 ls []) := by
    refine lv_goto (tgt := 1243) hx hb dL_law_745 (by decide) ?_
    exact K _ H locs ls hG hP hD hS (lv_sub hl [2, 3, 4, 5, 6] rfl)
  refine lv_if_ne (tgt := 745) hx hb dL_law_730 (by decide) (fun _ => hend) (fun k0 => ?_)
  refine lv_aload_n hx hb dL_law_733 rfl (lv_at hl 5 rfl) ?_
  refine lv_iconst (v := 0) hx hb dL_law_734 (by decide) ?_
  refine r_lld (pre := wx) (pos := [oMod h mm k dy co ti ro n nb] ++ wr) hx hb hE hP dL_law_735 ?_
  refine lv_iload hx hb dL_law_736 (lv_at hl 0 rfl) ?_
  refine lv_i2l hx hb dL_law_738 rfl ?_
  refine W.lcmp hx hb dL_law_739 ?_
  rw [hout k0, cmp_same]
  exact lv_if_eq (tgt := 745) hx hb dL_law_740 (by decide) (fun _ => hend) (fun z => absurd rfl z)
set_option maxRecDepth 100000 in
set_option maxHeartbeats 4000000 in
theorem J_told {p : Program} {l : Launch} {e : Env} {s : State} {m : MethodId} {b : Nat} {below : List Frame} {meth : Method} {c : Code} {H : Heap} {locs : List Loc} {cells slots : Nat} {Q : State → Prop} {sa tb : Nat → Nat} {D : va_G} {cA cL : ClassId} {A : Nat → Prop} {L : Nat} {xs : Nat → Int32} {x h o i : Nat} {ls : Array Slot} {Wd : va_W} (hj : Step9 sa tb D cA cL l x h o yL_told wsL_told yX5_told wsX5_told [.int (xs (i + 1)), .int (xs (i + 2))] Wd) (C : LawC p s m c b L xs sa tb D cA cL A) (hc : cells + 1 ≤ 1088) (hs : slots + 6 ≤ 8705) (hi : i + 3 < L) (hP : va_P D vwCl Wd H) (hD : va_D A Wd) (hS : va_S A s.heap H locs) (hl : lv_has ls 9 (lvL b x h o i)) (K : KonL p l e s m b below meth c D cA cL A x h o i (cells + 1) (slots + 6) Q) : W p l e room_1 s m #[.ref b] below meth c H locs cells slots Q (F0 m 748 ls []) := by
  obtain ⟨hx, hb, hml, hown, hts, hX, hbl, hbA, hA, hE, hL⟩ := C
  obtain ⟨f1, lo1, f2, lo2, wx, wm, g, fs5, S1, post1, w1, S2, post2, w2, rfl, he5, ⟨b1, b2, b3, b4⟩, hM1, hM2, ha1, ha2, hrel⟩ := hj
  refine lv_aload_n hx hb dL_law_748 rfl (lv_at hl 1 rfl) ?_
  refine r_arg hx hb hX hbl hbA hS hL hl (k0 := 0) (k4 := 4) rfl rfl 1 (jv := 1) (by decide) (by decide) (by omega) dL_law_749 dL_law_750 dL_law_752 dL_law_753 dL_law_754 ?_
  refine r_arg hx hb hX hbl hbA hS hL hl (k0 := 0) (k4 := 4) rfl rfl 2 (jv := 2) (by decide) (by decide) (by omega) dL_law_755 dL_law_756 dL_law_758 dL_law_759 dL_law_760 ?_
  refine lv_aload_n hx hb dL_law_761 rfl (lv_at hl 3 rfl) ?_
  refine goIw [] wm hP hD hS hA (rnSW (rest := []) hM1 [] wm hP hD hS hA hE ⟨hx, hb, hml, hown, hts⟩ (vx_cwSW (bytes := cL_told) (maxL := 5) (ret := some .int) (hh := [(0, 10, 13, 13)]) 4 hts gL_law_L_told rfl rfl rfl (by decide +kernel) ⟨by show f1 + 1 ≤ 12; omega, by show 8 + (5 + 11) + lo1 ≤ 434; omega⟩) rfl hl.1 rfl (Nat.le_of_ble_eq_true rfl) dL_law_762 ⟨hc, hs⟩) ha1 (fun k u H locs hw1 hP hD hS => ?_)
  refine lv_istore (lv' := (5, .int k) :: lvL b x h o i) hx hb dL_law_765 hl (by decide) rfl (fun ls hl => ?_)
  refine lv_aload_n hx hb dL_law_767 rfl (lv_at hl 3 rfl) ?_
  refine r_arg hx hb hX hbl hbA hS hL hl (k0 := 1) (k4 := 5) rfl rfl 1 (jv := 1) (by decide) (by decide) (by omega) dL_law_768 dL_law_769 dL_law_771 dL_law_772 dL_law_773 ?_
  refine r_arg hx hb hX hbl hbA hS hL hl (k0 := 1) (k4 := 5) rfl rfl 2 (jv := 2) (by decide) (by decide) (by omega) dL_law_774 dL_law_775 dL_law_777 dL_law_778 dL_law_779 ?_
  have hP2 : va_P D vwCl (w1 u ++ (wm ++ [])) H := by rw [List.append_nil]; exact hP
  have hD2 : va_D A (w1 u ++ (wm ++ [])) := by rw [List.append_nil]; exact hD
  refine goI (w1 u) [] hP2 hD2 hS hA (rnV (rest := []) hM2 (w1 u) [] hP2 hD2 hS hA hE ⟨hx, hb, hml, hown, hts⟩ (cwV 2 hts gL_law_X5_told rfl rfl rfl (by decide +kernel) ⟨by show f2 + 1 ≤ 12; omega, by show 8 + (3 + 11) + lo2 ≤ 434; omega⟩) 5 0 rfl he5 rfl rfl hl.1 rfl (Nat.le_of_ble_eq_true rfl) dL_law_780 ⟨hc, hs⟩) ha2 (fun r v H locs hw2 hP hD hS => ?_)
  refine lv_istore (lv' := (6, .int r) :: (5, .int k) :: lvL b x h o i) hx hb dL_law_783 hl (by decide) rfl (fun ls hl => ?_)
  obtain ⟨wx, g, mm, dy, co, ti, ro, n, nb, wr, q1, q2, hout, hG⟩ := hrel k u r v hw1 hw2
  rw [List.append_nil, q1, q2] at hP hD
  have hP2 : va_P D vwCl ((wx ++ [oL cL o g]) ++ ([oMod h mm k dy co ti ro n nb] ++ wr)) H := hP
  have hD2 : va_D A ((wx ++ [oL cL o g]) ++ ([oMod h mm k dy co ti ro n nb] ++ wr)) := hD
  refine lv_aload_n hx hb dL_law_785 rfl (lv_at hl 4 rfl) ?_
  refine goI (wx ++ [oL cL o g]) wr hP2 hD2 hS hA (rnV (rest := []) (m_thrown sa tb D cA cL l h mm k dy co ti ro n nb) (wx ++ [oL cL o g]) wr hP2 hD2 hS hA hE ⟨hx, hb, hml, hown, hts⟩ (cwV 0 hts gL_law_X5_thrown rfl rfl rfl (by decide +kernel) ⟨(Nat.le_of_ble_eq_true rfl), (Nat.le_of_ble_eq_true rfl)⟩) 5 0 rfl rfl rfl rfl hl.1 rfl (Nat.le_of_ble_eq_true rfl) dL_law_786 ⟨hc, hs⟩) (fun _ => rfl) (fun r2 u2 H locs hw3 hP hD hS => ?_)
  rw [show r2 = k from hw3]
  refine lv_iload hx hb dL_law_789 (lv_at hl 1 rfl) ?_
  refine lv_icmp_eq (tgt := 796) hx hb dL_law_791 (by decide) (fun _ => ?_) (fun z => absurd rfl z)
  refine lv_iload hx hb dL_law_796 (lv_at hl 1 rfl) ?_
  have hend : W p l e room_1 s m #[.ref b] below meth c H locs (cells + 1) (slots + 6) Q (F0 m 813 ls []) := by
    refine lv_goto (tgt := 1243) hx hb dL_law_813 (by decide) ?_
    exact K _ H locs ls hG hP hD hS (lv_sub hl [2, 3, 4, 5, 6] rfl)
  refine lv_if_ne (tgt := 813) hx hb dL_law_798 (by decide) (fun _ => hend) (fun k0 => ?_)
  refine lv_aload_n hx hb dL_law_801 rfl (lv_at hl 5 rfl) ?_
  refine lv_iconst (v := 0) hx hb dL_law_802 (by decide) ?_
  refine r_lld (pre := wx) (pos := [oMod h mm k dy co ti ro n nb] ++ wr) hx hb hE hP dL_law_803 ?_
  refine lv_iload hx hb dL_law_804 (lv_at hl 0 rfl) ?_
  refine lv_i2l hx hb dL_law_806 rfl ?_
  refine W.lcmp hx hb dL_law_807 ?_
  rw [hout k0, cmp_same]
  exact lv_if_eq (tgt := 813) hx hb dL_law_808 (by decide) (fun _ => hend) (fun z => absurd rfl z)
set_option maxRecDepth 100000 in
set_option maxHeartbeats 4000000 in
theorem J_landing {p : Program} {l : Launch} {e : Env} {s : State} {m : MethodId} {b : Nat} {below : List Frame} {meth : Method} {c : Code} {H : Heap} {locs : List Loc} {cells slots : Nat} {Q : State → Prop} {sa tb : Nat → Nat} {D : va_G} {cA cL : ClassId} {A : Nat → Prop} {L : Nat} {xs : Nat → Int32} {x h o i : Nat} {ls : Array Slot} {Wd : va_W} (hj : Step9 sa tb D cA cL l x h o yL_landing wsL_landing yX5_landing wsX5_landing [.int (xs (i + 1)), .int (xs (i + 2))] Wd) (C : LawC p s m c b L xs sa tb D cA cL A) (hc : cells + 1 ≤ 1088) (hs : slots + 6 ≤ 8705) (hi : i + 3 < L) (hP : va_P D vwCl Wd H) (hD : va_D A Wd) (hS : va_S A s.heap H locs) (hl : lv_has ls 9 (lvL b x h o i)) (K : KonL p l e s m b below meth c D cA cL A x h o i (cells + 1) (slots + 6) Q) : W p l e room_1 s m #[.ref b] below meth c H locs cells slots Q (F0 m 816 ls []) := by
  obtain ⟨hx, hb, hml, hown, hts, hX, hbl, hbA, hA, hE, hL⟩ := C
  obtain ⟨f1, lo1, f2, lo2, wx, wm, g, fs5, S1, post1, w1, S2, post2, w2, rfl, he5, ⟨b1, b2, b3, b4⟩, hM1, hM2, ha1, ha2, hrel⟩ := hj
  refine lv_aload_n hx hb dL_law_816 rfl (lv_at hl 1 rfl) ?_
  refine r_arg hx hb hX hbl hbA hS hL hl (k0 := 0) (k4 := 4) rfl rfl 1 (jv := 1) (by decide) (by decide) (by omega) dL_law_817 dL_law_818 dL_law_820 dL_law_821 dL_law_822 ?_
  refine r_arg hx hb hX hbl hbA hS hL hl (k0 := 0) (k4 := 4) rfl rfl 2 (jv := 2) (by decide) (by decide) (by omega) dL_law_823 dL_law_824 dL_law_826 dL_law_827 dL_law_828 ?_
  refine lv_aload_n hx hb dL_law_829 rfl (lv_at hl 3 rfl) ?_
  refine goIw [] wm hP hD hS hA (rnSW (rest := []) hM1 [] wm hP hD hS hA hE ⟨hx, hb, hml, hown, hts⟩ (vx_cwSW (bytes := cL_landing) (maxL := 5) (ret := some .int) (hh := [(0, 10, 13, 13)]) 4 hts gL_law_L_landing rfl rfl rfl (by decide +kernel) ⟨by show f1 + 1 ≤ 12; omega, by show 8 + (5 + 11) + lo1 ≤ 434; omega⟩) rfl hl.1 rfl (Nat.le_of_ble_eq_true rfl) dL_law_830 ⟨hc, hs⟩) ha1 (fun k u H locs hw1 hP hD hS => ?_)
  refine lv_istore (lv' := (5, .int k) :: lvL b x h o i) hx hb dL_law_833 hl (by decide) rfl (fun ls hl => ?_)
  refine lv_aload_n hx hb dL_law_835 rfl (lv_at hl 3 rfl) ?_
  refine r_arg hx hb hX hbl hbA hS hL hl (k0 := 1) (k4 := 5) rfl rfl 1 (jv := 1) (by decide) (by decide) (by omega) dL_law_836 dL_law_837 dL_law_839 dL_law_840 dL_law_841 ?_
  refine r_arg hx hb hX hbl hbA hS hL hl (k0 := 1) (k4 := 5) rfl rfl 2 (jv := 2) (by decide) (by decide) (by omega) dL_law_842 dL_law_843 dL_law_845 dL_law_846 dL_law_847 ?_
  have hP2 : va_P D vwCl (w1 u ++ (wm ++ [])) H := by rw [List.append_nil]; exact hP
  have hD2 : va_D A (w1 u ++ (wm ++ [])) := by rw [List.append_nil]; exact hD
  refine goI (w1 u) [] hP2 hD2 hS hA (rnV (rest := []) hM2 (w1 u) [] hP2 hD2 hS hA hE ⟨hx, hb, hml, hown, hts⟩ (cwV 2 hts gL_law_X5_landing rfl rfl rfl (by decide +kernel) ⟨by show f2 + 1 ≤ 12; omega, by show 8 + (3 + 11) + lo2 ≤ 434; omega⟩) 5 0 rfl he5 rfl rfl hl.1 rfl (Nat.le_of_ble_eq_true rfl) dL_law_848 ⟨hc, hs⟩) ha2 (fun r v H locs hw2 hP hD hS => ?_)
  refine lv_istore (lv' := (6, .int r) :: (5, .int k) :: lvL b x h o i) hx hb dL_law_851 hl (by decide) rfl (fun ls hl => ?_)
  obtain ⟨wx, g, mm, dy, co, ti, ro, n, nb, wr, q1, q2, hout, hG⟩ := hrel k u r v hw1 hw2
  rw [List.append_nil, q1, q2] at hP hD
  have hP2 : va_P D vwCl ((wx ++ [oL cL o g]) ++ ([oMod h mm k dy co ti ro n nb] ++ wr)) H := hP
  have hD2 : va_D A ((wx ++ [oL cL o g]) ++ ([oMod h mm k dy co ti ro n nb] ++ wr)) := hD
  refine lv_aload_n hx hb dL_law_853 rfl (lv_at hl 4 rfl) ?_
  refine goI (wx ++ [oL cL o g]) wr hP2 hD2 hS hA (rnV (rest := []) (m_thrown sa tb D cA cL l h mm k dy co ti ro n nb) (wx ++ [oL cL o g]) wr hP2 hD2 hS hA hE ⟨hx, hb, hml, hown, hts⟩ (cwV 0 hts gL_law_X5_thrown rfl rfl rfl (by decide +kernel) ⟨(Nat.le_of_ble_eq_true rfl), (Nat.le_of_ble_eq_true rfl)⟩) 5 0 rfl rfl rfl rfl hl.1 rfl (Nat.le_of_ble_eq_true rfl) dL_law_854 ⟨hc, hs⟩) (fun _ => rfl) (fun r2 u2 H locs hw3 hP hD hS => ?_)
  rw [show r2 = k from hw3]
  refine lv_iload hx hb dL_law_857 (lv_at hl 1 rfl) ?_
  refine lv_icmp_eq (tgt := 864) hx hb dL_law_859 (by decide) (fun _ => ?_) (fun z => absurd rfl z)
  refine lv_iload hx hb dL_law_864 (lv_at hl 1 rfl) ?_
  have hend : W p l e room_1 s m #[.ref b] below meth c H locs (cells + 1) (slots + 6) Q (F0 m 881 ls []) := by
    refine lv_goto (tgt := 1243) hx hb dL_law_881 (by decide) ?_
    exact K _ H locs ls hG hP hD hS (lv_sub hl [2, 3, 4, 5, 6] rfl)
  refine lv_if_ne (tgt := 881) hx hb dL_law_866 (by decide) (fun _ => hend) (fun k0 => ?_)
  refine lv_aload_n hx hb dL_law_869 rfl (lv_at hl 5 rfl) ?_
  refine lv_iconst (v := 0) hx hb dL_law_870 (by decide) ?_
  refine r_lld (pre := wx) (pos := [oMod h mm k dy co ti ro n nb] ++ wr) hx hb hE hP dL_law_871 ?_
  refine lv_iload hx hb dL_law_872 (lv_at hl 0 rfl) ?_
  refine lv_i2l hx hb dL_law_874 rfl ?_
  refine W.lcmp hx hb dL_law_875 ?_
  rw [hout k0, cmp_same]
  exact lv_if_eq (tgt := 881) hx hb dL_law_876 (by decide) (fun _ => hend) (fun z => absurd rfl z)
set_option maxRecDepth 100000 in
set_option maxHeartbeats 4000000 in
theorem J_would {p : Program} {l : Launch} {e : Env} {s : State} {m : MethodId} {b : Nat} {below : List Frame} {meth : Method} {c : Code} {H : Heap} {locs : List Loc} {cells slots : Nat} {Q : State → Prop} {sa tb : Nat → Nat} {D : va_G} {cA cL : ClassId} {A : Nat → Prop} {L : Nat} {xs : Nat → Int32} {x h o i : Nat} {ls : Array Slot} {Wd : va_W} (hj : Step9 sa tb D cA cL l x h o yL_would wsL_would yX5_would wsX5_would [.int (xs (i + 1)), .int (xs (i + 2))] Wd) (C : LawC p s m c b L xs sa tb D cA cL A) (hc : cells + 1 ≤ 1088) (hs : slots + 6 ≤ 8705) (hi : i + 3 < L) (hP : va_P D vwCl Wd H) (hD : va_D A Wd) (hS : va_S A s.heap H locs) (hl : lv_has ls 9 (lvL b x h o i)) (K : KonL p l e s m b below meth c D cA cL A x h o i (cells + 1) (slots + 6) Q) : W p l e room_1 s m #[.ref b] below meth c H locs cells slots Q (F0 m 884 ls []) := by
  obtain ⟨hx, hb, hml, hown, hts, hX, hbl, hbA, hA, hE, hL⟩ := C
  obtain ⟨f1, lo1, f2, lo2, wx, wm, g, fs5, S1, post1, w1, S2, post2, w2, rfl, he5, ⟨b1, b2, b3, b4⟩, hM1, hM2, ha1, ha2, hrel⟩ := hj
  refine lv_aload_n hx hb dL_law_884 rfl (lv_at hl 1 rfl) ?_
  refine r_arg hx hb hX hbl hbA hS hL hl (k0 := 0) (k4 := 4) rfl rfl 1 (jv := 1) (by decide) (by decide) (by omega) dL_law_885 dL_law_886 dL_law_888 dL_law_889 dL_law_890 ?_
  refine r_arg hx hb hX hbl hbA hS hL hl (k0 := 0) (k4 := 4) rfl rfl 2 (jv := 2) (by decide) (by decide) (by omega) dL_law_891 dL_law_892 dL_law_894 dL_law_895 dL_law_896 ?_
  refine lv_aload_n hx hb dL_law_897 rfl (lv_at hl 3 rfl) ?_
  refine goIw [] wm hP hD hS hA (rnSW (rest := []) hM1 [] wm hP hD hS hA hE ⟨hx, hb, hml, hown, hts⟩ (vx_cwSW (bytes := cL_would) (maxL := 5) (ret := some .int) (hh := [(0, 10, 13, 13)]) 4 hts gL_law_L_would rfl rfl rfl (by decide +kernel) ⟨by show f1 + 1 ≤ 12; omega, by show 8 + (5 + 11) + lo1 ≤ 434; omega⟩) rfl hl.1 rfl (Nat.le_of_ble_eq_true rfl) dL_law_898 ⟨hc, hs⟩) ha1 (fun k u H locs hw1 hP hD hS => ?_)
  refine lv_istore (lv' := (5, .int k) :: lvL b x h o i) hx hb dL_law_901 hl (by decide) rfl (fun ls hl => ?_)
  refine lv_aload_n hx hb dL_law_903 rfl (lv_at hl 3 rfl) ?_
  refine r_arg hx hb hX hbl hbA hS hL hl (k0 := 1) (k4 := 5) rfl rfl 1 (jv := 1) (by decide) (by decide) (by omega) dL_law_904 dL_law_905 dL_law_907 dL_law_908 dL_law_909 ?_
  refine r_arg hx hb hX hbl hbA hS hL hl (k0 := 1) (k4 := 5) rfl rfl 2 (jv := 2) (by decide) (by decide) (by omega) dL_law_910 dL_law_911 dL_law_913 dL_law_914 dL_law_915 ?_
  have hP2 : va_P D vwCl (w1 u ++ (wm ++ [])) H := by rw [List.append_nil]; exact hP
  have hD2 : va_D A (w1 u ++ (wm ++ [])) := by rw [List.append_nil]; exact hD
  refine goI (w1 u) [] hP2 hD2 hS hA (rnV (rest := []) hM2 (w1 u) [] hP2 hD2 hS hA hE ⟨hx, hb, hml, hown, hts⟩ (cwV 2 hts gL_law_X5_would rfl rfl rfl (by decide +kernel) ⟨by show f2 + 1 ≤ 12; omega, by show 8 + (3 + 11) + lo2 ≤ 434; omega⟩) 5 0 rfl he5 rfl rfl hl.1 rfl (Nat.le_of_ble_eq_true rfl) dL_law_916 ⟨hc, hs⟩) ha2 (fun r v H locs hw2 hP hD hS => ?_)
  refine lv_istore (lv' := (6, .int r) :: (5, .int k) :: lvL b x h o i) hx hb dL_law_919 hl (by decide) rfl (fun ls hl => ?_)
  obtain ⟨wx, g, mm, dy, co, ti, ro, n, nb, wr, q1, q2, hout, hG⟩ := hrel k u r v hw1 hw2
  rw [List.append_nil, q1, q2] at hP hD
  have hP2 : va_P D vwCl ((wx ++ [oL cL o g]) ++ ([oMod h mm k dy co ti ro n nb] ++ wr)) H := hP
  have hD2 : va_D A ((wx ++ [oL cL o g]) ++ ([oMod h mm k dy co ti ro n nb] ++ wr)) := hD
  refine lv_aload_n hx hb dL_law_921 rfl (lv_at hl 4 rfl) ?_
  refine goI (wx ++ [oL cL o g]) wr hP2 hD2 hS hA (rnV (rest := []) (m_thrown sa tb D cA cL l h mm k dy co ti ro n nb) (wx ++ [oL cL o g]) wr hP2 hD2 hS hA hE ⟨hx, hb, hml, hown, hts⟩ (cwV 0 hts gL_law_X5_thrown rfl rfl rfl (by decide +kernel) ⟨(Nat.le_of_ble_eq_true rfl), (Nat.le_of_ble_eq_true rfl)⟩) 5 0 rfl rfl rfl rfl hl.1 rfl (Nat.le_of_ble_eq_true rfl) dL_law_922 ⟨hc, hs⟩) (fun _ => rfl) (fun r2 u2 H locs hw3 hP hD hS => ?_)
  rw [show r2 = k from hw3]
  refine lv_iload hx hb dL_law_925 (lv_at hl 1 rfl) ?_
  refine lv_icmp_eq (tgt := 932) hx hb dL_law_927 (by decide) (fun _ => ?_) (fun z => absurd rfl z)
  refine lv_iload hx hb dL_law_932 (lv_at hl 1 rfl) ?_
  have hend : W p l e room_1 s m #[.ref b] below meth c H locs (cells + 1) (slots + 6) Q (F0 m 949 ls []) := by
    refine lv_goto (tgt := 1243) hx hb dL_law_949 (by decide) ?_
    exact K _ H locs ls hG hP hD hS (lv_sub hl [2, 3, 4, 5, 6] rfl)
  refine lv_if_ne (tgt := 949) hx hb dL_law_934 (by decide) (fun _ => hend) (fun k0 => ?_)
  refine lv_aload_n hx hb dL_law_937 rfl (lv_at hl 5 rfl) ?_
  refine lv_iconst (v := 0) hx hb dL_law_938 (by decide) ?_
  refine r_lld (pre := wx) (pos := [oMod h mm k dy co ti ro n nb] ++ wr) hx hb hE hP dL_law_939 ?_
  refine lv_iload hx hb dL_law_940 (lv_at hl 0 rfl) ?_
  refine lv_i2l hx hb dL_law_942 rfl ?_
  refine W.lcmp hx hb dL_law_943 ?_
  rw [hout k0, cmp_same]
  exact lv_if_eq (tgt := 949) hx hb dL_law_944 (by decide) (fun _ => hend) (fun z => absurd rfl z)
set_option maxRecDepth 100000 in
set_option maxHeartbeats 4000000 in
theorem J_advise {p : Program} {l : Launch} {e : Env} {s : State} {m : MethodId} {b : Nat} {below : List Frame} {meth : Method} {c : Code} {H : Heap} {locs : List Loc} {cells slots : Nat} {Q : State → Prop} {sa tb : Nat → Nat} {D : va_G} {cA cL : ClassId} {A : Nat → Prop} {L : Nat} {xs : Nat → Int32} {x h o i : Nat} {ls : Array Slot} {Wd : va_W} (hj : Step9 sa tb D cA cL l x h o yL_advise wsL_advise yX5_advise wsX5_advise [.int (xs (i + 1))] Wd) (C : LawC p s m c b L xs sa tb D cA cL A) (hc : cells + 1 ≤ 1088) (hs : slots + 6 ≤ 8705) (hi : i + 3 < L) (hP : va_P D vwCl Wd H) (hD : va_D A Wd) (hS : va_S A s.heap H locs) (hl : lv_has ls 9 (lvL b x h o i)) (K : KonL p l e s m b below meth c D cA cL A x h o i (cells + 1) (slots + 6) Q) : W p l e room_1 s m #[.ref b] below meth c H locs cells slots Q (F0 m 952 ls []) := by
  obtain ⟨hx, hb, hml, hown, hts, hX, hbl, hbA, hA, hE, hL⟩ := C
  obtain ⟨f1, lo1, f2, lo2, wx, wm, g, fs5, S1, post1, w1, S2, post2, w2, rfl, he5, ⟨b1, b2, b3, b4⟩, hM1, hM2, ha1, ha2, hrel⟩ := hj
  refine lv_aload_n hx hb dL_law_952 rfl (lv_at hl 1 rfl) ?_
  refine r_arg hx hb hX hbl hbA hS hL hl (k0 := 0) (k4 := 4) rfl rfl 1 (jv := 1) (by decide) (by decide) (by omega) dL_law_953 dL_law_954 dL_law_956 dL_law_957 dL_law_958 ?_
  refine lv_aload_n hx hb dL_law_959 rfl (lv_at hl 3 rfl) ?_
  refine goIw [] wm hP hD hS hA (rnSW (rest := []) hM1 [] wm hP hD hS hA hE ⟨hx, hb, hml, hown, hts⟩ (vx_cwSW (bytes := cL_advise) (maxL := 4) (ret := some .int) (hh := [(0, 9, 12, 13)]) 3 hts gL_law_L_advise rfl rfl rfl (by decide +kernel) ⟨by show f1 + 1 ≤ 12; omega, by show 8 + (4 + 11) + lo1 ≤ 434; omega⟩) rfl hl.1 rfl (Nat.le_of_ble_eq_true rfl) dL_law_960 ⟨hc, hs⟩) ha1 (fun k u H locs hw1 hP hD hS => ?_)
  refine lv_istore (lv' := (5, .int k) :: lvL b x h o i) hx hb dL_law_963 hl (by decide) rfl (fun ls hl => ?_)
  refine lv_aload_n hx hb dL_law_965 rfl (lv_at hl 3 rfl) ?_
  refine r_arg hx hb hX hbl hbA hS hL hl (k0 := 1) (k4 := 5) rfl rfl 1 (jv := 1) (by decide) (by decide) (by omega) dL_law_966 dL_law_967 dL_law_969 dL_law_970 dL_law_971 ?_
  have hP2 : va_P D vwCl (w1 u ++ (wm ++ [])) H := by rw [List.append_nil]; exact hP
  have hD2 : va_D A (w1 u ++ (wm ++ [])) := by rw [List.append_nil]; exact hD
  refine goI (w1 u) [] hP2 hD2 hS hA (rnV (rest := []) hM2 (w1 u) [] hP2 hD2 hS hA hE ⟨hx, hb, hml, hown, hts⟩ (cwV 1 hts gL_law_X5_advise rfl rfl rfl (by decide +kernel) ⟨by show f2 + 1 ≤ 12; omega, by show 8 + (4 + 11) + lo2 ≤ 434; omega⟩) 5 0 rfl he5 rfl rfl hl.1 rfl (Nat.le_of_ble_eq_true rfl) dL_law_972 ⟨hc, hs⟩) ha2 (fun r v H locs hw2 hP hD hS => ?_)
  refine lv_istore (lv' := (6, .int r) :: (5, .int k) :: lvL b x h o i) hx hb dL_law_975 hl (by decide) rfl (fun ls hl => ?_)
  obtain ⟨wx, g, mm, dy, co, ti, ro, n, nb, wr, q1, q2, hout, hG⟩ := hrel k u r v hw1 hw2
  rw [List.append_nil, q1, q2] at hP hD
  have hP2 : va_P D vwCl ((wx ++ [oL cL o g]) ++ ([oMod h mm k dy co ti ro n nb] ++ wr)) H := hP
  have hD2 : va_D A ((wx ++ [oL cL o g]) ++ ([oMod h mm k dy co ti ro n nb] ++ wr)) := hD
  refine lv_aload_n hx hb dL_law_977 rfl (lv_at hl 4 rfl) ?_
  refine goI (wx ++ [oL cL o g]) wr hP2 hD2 hS hA (rnV (rest := []) (m_thrown sa tb D cA cL l h mm k dy co ti ro n nb) (wx ++ [oL cL o g]) wr hP2 hD2 hS hA hE ⟨hx, hb, hml, hown, hts⟩ (cwV 0 hts gL_law_X5_thrown rfl rfl rfl (by decide +kernel) ⟨(Nat.le_of_ble_eq_true rfl), (Nat.le_of_ble_eq_true rfl)⟩) 5 0 rfl rfl rfl rfl hl.1 rfl (Nat.le_of_ble_eq_true rfl) dL_law_978 ⟨hc, hs⟩) (fun _ => rfl) (fun r2 u2 H locs hw3 hP hD hS => ?_)
  rw [show r2 = k from hw3]
  refine lv_iload hx hb dL_law_981 (lv_at hl 1 rfl) ?_
  refine lv_icmp_eq (tgt := 988) hx hb dL_law_983 (by decide) (fun _ => ?_) (fun z => absurd rfl z)
  refine lv_iload hx hb dL_law_988 (lv_at hl 1 rfl) ?_
  have hend : W p l e room_1 s m #[.ref b] below meth c H locs (cells + 1) (slots + 6) Q (F0 m 1005 ls []) := by
    refine lv_goto (tgt := 1243) hx hb dL_law_1005 (by decide) ?_
    exact K _ H locs ls hG hP hD hS (lv_sub hl [2, 3, 4, 5, 6] rfl)
  refine lv_if_ne (tgt := 1005) hx hb dL_law_990 (by decide) (fun _ => hend) (fun k0 => ?_)
  refine lv_aload_n hx hb dL_law_993 rfl (lv_at hl 5 rfl) ?_
  refine lv_iconst (v := 0) hx hb dL_law_994 (by decide) ?_
  refine r_lld (pre := wx) (pos := [oMod h mm k dy co ti ro n nb] ++ wr) hx hb hE hP dL_law_995 ?_
  refine lv_iload hx hb dL_law_996 (lv_at hl 0 rfl) ?_
  refine lv_i2l hx hb dL_law_998 rfl ?_
  refine W.lcmp hx hb dL_law_999 ?_
  rw [hout k0, cmp_same]
  exact lv_if_eq (tgt := 1005) hx hb dL_law_1000 (by decide) (fun _ => hend) (fun z => absurd rfl z)
set_option maxRecDepth 100000 in
set_option maxHeartbeats 4000000 in
theorem J_count {p : Program} {l : Launch} {e : Env} {s : State} {m : MethodId} {b : Nat} {below : List Frame} {meth : Method} {c : Code} {H : Heap} {locs : List Loc} {cells slots : Nat} {Q : State → Prop} {sa tb : Nat → Nat} {D : va_G} {cA cL : ClassId} {A : Nat → Prop} {L : Nat} {xs : Nat → Int32} {x h o i : Nat} {ls : Array Slot} {Wd : va_W} (hj : Step9 sa tb D cA cL l x h o yL_count wsL_count yX5_count wsX5_count [.int (xs (i + 1))] Wd) (C : LawC p s m c b L xs sa tb D cA cL A) (hc : cells + 1 ≤ 1088) (hs : slots + 6 ≤ 8705) (hi : i + 3 < L) (hP : va_P D vwCl Wd H) (hD : va_D A Wd) (hS : va_S A s.heap H locs) (hl : lv_has ls 9 (lvL b x h o i)) (K : KonL p l e s m b below meth c D cA cL A x h o i (cells + 1) (slots + 6) Q) : W p l e room_1 s m #[.ref b] below meth c H locs cells slots Q (F0 m 1008 ls []) := by
  obtain ⟨hx, hb, hml, hown, hts, hX, hbl, hbA, hA, hE, hL⟩ := C
  obtain ⟨f1, lo1, f2, lo2, wx, wm, g, fs5, S1, post1, w1, S2, post2, w2, rfl, he5, ⟨b1, b2, b3, b4⟩, hM1, hM2, ha1, ha2, hrel⟩ := hj
  refine lv_aload_n hx hb dL_law_1008 rfl (lv_at hl 1 rfl) ?_
  refine r_arg hx hb hX hbl hbA hS hL hl (k0 := 0) (k4 := 4) rfl rfl 1 (jv := 1) (by decide) (by decide) (by omega) dL_law_1009 dL_law_1010 dL_law_1012 dL_law_1013 dL_law_1014 ?_
  refine lv_aload_n hx hb dL_law_1015 rfl (lv_at hl 3 rfl) ?_
  refine goIw [] wm hP hD hS hA (rnSW (rest := []) hM1 [] wm hP hD hS hA hE ⟨hx, hb, hml, hown, hts⟩ (vx_cwSW (bytes := cL_count) (maxL := 4) (ret := some .int) (hh := [(0, 9, 12, 13)]) 3 hts gL_law_L_count rfl rfl rfl (by decide +kernel) ⟨by show f1 + 1 ≤ 12; omega, by show 8 + (4 + 11) + lo1 ≤ 434; omega⟩) rfl hl.1 rfl (Nat.le_of_ble_eq_true rfl) dL_law_1016 ⟨hc, hs⟩) ha1 (fun k u H locs hw1 hP hD hS => ?_)
  refine lv_istore (lv' := (5, .int k) :: lvL b x h o i) hx hb dL_law_1019 hl (by decide) rfl (fun ls hl => ?_)
  refine lv_aload_n hx hb dL_law_1021 rfl (lv_at hl 3 rfl) ?_
  refine r_arg hx hb hX hbl hbA hS hL hl (k0 := 1) (k4 := 5) rfl rfl 1 (jv := 1) (by decide) (by decide) (by omega) dL_law_1022 dL_law_1023 dL_law_1025 dL_law_1026 dL_law_1027 ?_
  have hP2 : va_P D vwCl (w1 u ++ (wm ++ [])) H := by rw [List.append_nil]; exact hP
  have hD2 : va_D A (w1 u ++ (wm ++ [])) := by rw [List.append_nil]; exact hD
  refine goI (w1 u) [] hP2 hD2 hS hA (rnV (rest := []) hM2 (w1 u) [] hP2 hD2 hS hA hE ⟨hx, hb, hml, hown, hts⟩ (cwV 1 hts gL_law_X5_count rfl rfl rfl (by decide +kernel) ⟨by show f2 + 1 ≤ 12; omega, by show 8 + (2 + 11) + lo2 ≤ 434; omega⟩) 5 0 rfl he5 rfl rfl hl.1 rfl (Nat.le_of_ble_eq_true rfl) dL_law_1028 ⟨hc, hs⟩) ha2 (fun r v H locs hw2 hP hD hS => ?_)
  refine lv_istore (lv' := (6, .int r) :: (5, .int k) :: lvL b x h o i) hx hb dL_law_1031 hl (by decide) rfl (fun ls hl => ?_)
  obtain ⟨wx, g, mm, dy, co, ti, ro, n, nb, wr, q1, q2, hout, hG⟩ := hrel k u r v hw1 hw2
  rw [List.append_nil, q1, q2] at hP hD
  have hP2 : va_P D vwCl ((wx ++ [oL cL o g]) ++ ([oMod h mm k dy co ti ro n nb] ++ wr)) H := hP
  have hD2 : va_D A ((wx ++ [oL cL o g]) ++ ([oMod h mm k dy co ti ro n nb] ++ wr)) := hD
  refine lv_aload_n hx hb dL_law_1033 rfl (lv_at hl 4 rfl) ?_
  refine goI (wx ++ [oL cL o g]) wr hP2 hD2 hS hA (rnV (rest := []) (m_thrown sa tb D cA cL l h mm k dy co ti ro n nb) (wx ++ [oL cL o g]) wr hP2 hD2 hS hA hE ⟨hx, hb, hml, hown, hts⟩ (cwV 0 hts gL_law_X5_thrown rfl rfl rfl (by decide +kernel) ⟨(Nat.le_of_ble_eq_true rfl), (Nat.le_of_ble_eq_true rfl)⟩) 5 0 rfl rfl rfl rfl hl.1 rfl (Nat.le_of_ble_eq_true rfl) dL_law_1034 ⟨hc, hs⟩) (fun _ => rfl) (fun r2 u2 H locs hw3 hP hD hS => ?_)
  rw [show r2 = k from hw3]
  refine lv_iload hx hb dL_law_1037 (lv_at hl 1 rfl) ?_
  refine lv_icmp_eq (tgt := 1044) hx hb dL_law_1039 (by decide) (fun _ => ?_) (fun z => absurd rfl z)
  refine lv_iload hx hb dL_law_1044 (lv_at hl 1 rfl) ?_
  have hend : W p l e room_1 s m #[.ref b] below meth c H locs (cells + 1) (slots + 6) Q (F0 m 1061 ls []) := by
    refine lv_goto (tgt := 1243) hx hb dL_law_1061 (by decide) ?_
    exact K _ H locs ls hG hP hD hS (lv_sub hl [2, 3, 4, 5, 6] rfl)
  refine lv_if_ne (tgt := 1061) hx hb dL_law_1046 (by decide) (fun _ => hend) (fun k0 => ?_)
  refine lv_aload_n hx hb dL_law_1049 rfl (lv_at hl 5 rfl) ?_
  refine lv_iconst (v := 0) hx hb dL_law_1050 (by decide) ?_
  refine r_lld (pre := wx) (pos := [oMod h mm k dy co ti ro n nb] ++ wr) hx hb hE hP dL_law_1051 ?_
  refine lv_iload hx hb dL_law_1052 (lv_at hl 0 rfl) ?_
  refine lv_i2l hx hb dL_law_1054 rfl ?_
  refine W.lcmp hx hb dL_law_1055 ?_
  rw [hout k0, cmp_same]
  exact lv_if_eq (tgt := 1061) hx hb dL_law_1056 (by decide) (fun _ => hend) (fun z => absurd rfl z)
set_option maxRecDepth 100000 in
set_option maxHeartbeats 4000000 in
theorem J_pass {p : Program} {l : Launch} {e : Env} {s : State} {m : MethodId} {b : Nat} {below : List Frame} {meth : Method} {c : Code} {H : Heap} {locs : List Loc} {cells slots : Nat} {Q : State → Prop} {sa tb : Nat → Nat} {D : va_G} {cA cL : ClassId} {A : Nat → Prop} {L : Nat} {xs : Nat → Int32} {x h o i : Nat} {ls : Array Slot} {Wd : va_W} (hj : Step9 sa tb D cA cL l x h o yL_pass wsL_pass yX5_pass_ wsX5_pass_ [.int (xs (i + 1))] Wd) (C : LawC p s m c b L xs sa tb D cA cL A) (hc : cells + 1 ≤ 1088) (hs : slots + 6 ≤ 8705) (hi : i + 3 < L) (hP : va_P D vwCl Wd H) (hD : va_D A Wd) (hS : va_S A s.heap H locs) (hl : lv_has ls 9 (lvL b x h o i)) (K : KonL p l e s m b below meth c D cA cL A x h o i (cells + 1) (slots + 6) Q) : W p l e room_1 s m #[.ref b] below meth c H locs cells slots Q (F0 m 1064 ls []) := by
  obtain ⟨hx, hb, hml, hown, hts, hX, hbl, hbA, hA, hE, hL⟩ := C
  obtain ⟨f1, lo1, f2, lo2, wx, wm, g, fs5, S1, post1, w1, S2, post2, w2, rfl, he5, ⟨b1, b2, b3, b4⟩, hM1, hM2, ha1, ha2, hrel⟩ := hj
  refine lv_aload_n hx hb dL_law_1064 rfl (lv_at hl 1 rfl) ?_
  refine r_arg hx hb hX hbl hbA hS hL hl (k0 := 0) (k4 := 4) rfl rfl 1 (jv := 1) (by decide) (by decide) (by omega) dL_law_1065 dL_law_1066 dL_law_1068 dL_law_1069 dL_law_1070 ?_
  refine lv_aload_n hx hb dL_law_1071 rfl (lv_at hl 3 rfl) ?_
  refine goIw [] wm hP hD hS hA (rnSW (rest := []) hM1 [] wm hP hD hS hA hE ⟨hx, hb, hml, hown, hts⟩ (vx_cwSW (bytes := cL_pass) (maxL := 4) (ret := some .int) (hh := [(0, 9, 12, 15)]) 3 hts gL_law_L_pass rfl rfl rfl (by decide +kernel) ⟨by show f1 + 1 ≤ 12; omega, by show 8 + (4 + 11) + lo1 ≤ 434; omega⟩) rfl hl.1 rfl (Nat.le_of_ble_eq_true rfl) dL_law_1072 ⟨hc, hs⟩) ha1 (fun k u H locs hw1 hP hD hS => ?_)
  refine lv_istore (lv' := (5, .int k) :: lvL b x h o i) hx hb dL_law_1075 hl (by decide) rfl (fun ls hl => ?_)
  refine lv_aload_n hx hb dL_law_1077 rfl (lv_at hl 3 rfl) ?_
  refine r_arg hx hb hX hbl hbA hS hL hl (k0 := 1) (k4 := 5) rfl rfl 1 (jv := 1) (by decide) (by decide) (by omega) dL_law_1078 dL_law_1079 dL_law_1081 dL_law_1082 dL_law_1083 ?_
  have hP2 : va_P D vwCl (w1 u ++ (wm ++ [])) H := by rw [List.append_nil]; exact hP
  have hD2 : va_D A (w1 u ++ (wm ++ [])) := by rw [List.append_nil]; exact hD
  refine goI (w1 u) [] hP2 hD2 hS hA (rnV (rest := []) hM2 (w1 u) [] hP2 hD2 hS hA hE ⟨hx, hb, hml, hown, hts⟩ (cwV 1 hts gL_law_X5_pass_ rfl rfl rfl (by decide +kernel) ⟨by show f2 + 1 ≤ 12; omega, by show 8 + (4 + 11) + lo2 ≤ 434; omega⟩) 5 0 rfl he5 rfl rfl hl.1 rfl (Nat.le_of_ble_eq_true rfl) dL_law_1084 ⟨hc, hs⟩) ha2 (fun r v H locs hw2 hP hD hS => ?_)
  refine lv_istore (lv' := (6, .int r) :: (5, .int k) :: lvL b x h o i) hx hb dL_law_1087 hl (by decide) rfl (fun ls hl => ?_)
  obtain ⟨wx, g, mm, dy, co, ti, ro, n, nb, wr, q1, q2, hout, hG⟩ := hrel k u r v hw1 hw2
  rw [List.append_nil, q1, q2] at hP hD
  have hP2 : va_P D vwCl ((wx ++ [oL cL o g]) ++ ([oMod h mm k dy co ti ro n nb] ++ wr)) H := hP
  have hD2 : va_D A ((wx ++ [oL cL o g]) ++ ([oMod h mm k dy co ti ro n nb] ++ wr)) := hD
  refine lv_aload_n hx hb dL_law_1089 rfl (lv_at hl 4 rfl) ?_
  refine goI (wx ++ [oL cL o g]) wr hP2 hD2 hS hA (rnV (rest := []) (m_thrown sa tb D cA cL l h mm k dy co ti ro n nb) (wx ++ [oL cL o g]) wr hP2 hD2 hS hA hE ⟨hx, hb, hml, hown, hts⟩ (cwV 0 hts gL_law_X5_thrown rfl rfl rfl (by decide +kernel) ⟨(Nat.le_of_ble_eq_true rfl), (Nat.le_of_ble_eq_true rfl)⟩) 5 0 rfl rfl rfl rfl hl.1 rfl (Nat.le_of_ble_eq_true rfl) dL_law_1090 ⟨hc, hs⟩) (fun _ => rfl) (fun r2 u2 H locs hw3 hP hD hS => ?_)
  rw [show r2 = k from hw3]
  refine lv_iload hx hb dL_law_1093 (lv_at hl 1 rfl) ?_
  refine lv_icmp_eq (tgt := 1100) hx hb dL_law_1095 (by decide) (fun _ => ?_) (fun z => absurd rfl z)
  refine lv_iload hx hb dL_law_1100 (lv_at hl 1 rfl) ?_
  have hend : W p l e room_1 s m #[.ref b] below meth c H locs (cells + 1) (slots + 6) Q (F0 m 1117 ls []) := by
    refine lv_goto (tgt := 1243) hx hb dL_law_1117 (by decide) ?_
    exact K _ H locs ls hG hP hD hS (lv_sub hl [2, 3, 4, 5, 6] rfl)
  refine lv_if_ne (tgt := 1117) hx hb dL_law_1102 (by decide) (fun _ => hend) (fun k0 => ?_)
  refine lv_aload_n hx hb dL_law_1105 rfl (lv_at hl 5 rfl) ?_
  refine lv_iconst (v := 0) hx hb dL_law_1106 (by decide) ?_
  refine r_lld (pre := wx) (pos := [oMod h mm k dy co ti ro n nb] ++ wr) hx hb hE hP dL_law_1107 ?_
  refine lv_iload hx hb dL_law_1108 (lv_at hl 0 rfl) ?_
  refine lv_i2l hx hb dL_law_1110 rfl ?_
  refine W.lcmp hx hb dL_law_1111 ?_
  rw [hout k0, cmp_same]
  exact lv_if_eq (tgt := 1117) hx hb dL_law_1112 (by decide) (fun _ => hend) (fun z => absurd rfl z)
set_option maxRecDepth 100000 in
set_option maxHeartbeats 4000000 in
theorem J_foresee {p : Program} {l : Launch} {e : Env} {s : State} {m : MethodId} {b : Nat} {below : List Frame} {meth : Method} {c : Code} {H : Heap} {locs : List Loc} {cells slots : Nat} {Q : State → Prop} {sa tb : Nat → Nat} {D : va_G} {cA cL : ClassId} {A : Nat → Prop} {L : Nat} {xs : Nat → Int32} {x h o i : Nat} {ls : Array Slot} {Wd : va_W} (hj : Step9 sa tb D cA cL l x h o yL_foresee wsL_foresee yX5_foresee wsX5_foresee [.int (xs (i + 1)), .int (xs (i + 2))] Wd) (C : LawC p s m c b L xs sa tb D cA cL A) (hc : cells + 1 ≤ 1088) (hs : slots + 6 ≤ 8705) (hi : i + 3 < L) (hP : va_P D vwCl Wd H) (hD : va_D A Wd) (hS : va_S A s.heap H locs) (hl : lv_has ls 9 (lvL b x h o i)) (K : KonL p l e s m b below meth c D cA cL A x h o i (cells + 1) (slots + 6) Q) : W p l e room_1 s m #[.ref b] below meth c H locs cells slots Q (F0 m 1120 ls []) := by
  obtain ⟨hx, hb, hml, hown, hts, hX, hbl, hbA, hA, hE, hL⟩ := C
  obtain ⟨f1, lo1, f2, lo2, wx, wm, g, fs5, S1, post1, w1, S2, post2, w2, rfl, he5, ⟨b1, b2, b3, b4⟩, hM1, hM2, ha1, ha2, hrel⟩ := hj
  refine lv_aload_n hx hb dL_law_1120 rfl (lv_at hl 1 rfl) ?_
  refine r_arg hx hb hX hbl hbA hS hL hl (k0 := 0) (k4 := 4) rfl rfl 1 (jv := 1) (by decide) (by decide) (by omega) dL_law_1121 dL_law_1122 dL_law_1124 dL_law_1125 dL_law_1126 ?_
  refine r_arg hx hb hX hbl hbA hS hL hl (k0 := 0) (k4 := 4) rfl rfl 2 (jv := 2) (by decide) (by decide) (by omega) dL_law_1127 dL_law_1128 dL_law_1130 dL_law_1131 dL_law_1132 ?_
  refine lv_aload_n hx hb dL_law_1133 rfl (lv_at hl 3 rfl) ?_
  refine goIw [] wm hP hD hS hA (rnSW (rest := []) hM1 [] wm hP hD hS hA hE ⟨hx, hb, hml, hown, hts⟩ (vx_cwSW (bytes := cL_foresee) (maxL := 5) (ret := some .int) (hh := [(0, 10, 13, 15), (0, 10, 17, 13)]) 4 hts gL_law_L_foresee rfl rfl rfl (by decide +kernel) ⟨by show f1 + 1 ≤ 12; omega, by show 8 + (5 + 11) + lo1 ≤ 434; omega⟩) rfl hl.1 rfl (Nat.le_of_ble_eq_true rfl) dL_law_1134 ⟨hc, hs⟩) ha1 (fun k u H locs hw1 hP hD hS => ?_)
  refine lv_istore (lv' := (5, .int k) :: lvL b x h o i) hx hb dL_law_1137 hl (by decide) rfl (fun ls hl => ?_)
  refine lv_aload_n hx hb dL_law_1139 rfl (lv_at hl 3 rfl) ?_
  refine r_arg hx hb hX hbl hbA hS hL hl (k0 := 1) (k4 := 5) rfl rfl 1 (jv := 1) (by decide) (by decide) (by omega) dL_law_1140 dL_law_1141 dL_law_1143 dL_law_1144 dL_law_1145 ?_
  refine r_arg hx hb hX hbl hbA hS hL hl (k0 := 1) (k4 := 5) rfl rfl 2 (jv := 2) (by decide) (by decide) (by omega) dL_law_1146 dL_law_1147 dL_law_1149 dL_law_1150 dL_law_1151 ?_
  have hP2 : va_P D vwCl (w1 u ++ (wm ++ [])) H := by rw [List.append_nil]; exact hP
  have hD2 : va_D A (w1 u ++ (wm ++ [])) := by rw [List.append_nil]; exact hD
  refine goI (w1 u) [] hP2 hD2 hS hA (rnV (rest := []) hM2 (w1 u) [] hP2 hD2 hS hA hE ⟨hx, hb, hml, hown, hts⟩ (cwV 2 hts gL_law_X5_foresee rfl rfl rfl (by decide +kernel) ⟨by show f2 + 1 ≤ 12; omega, by show 8 + (5 + 11) + lo2 ≤ 434; omega⟩) 5 0 rfl he5 rfl rfl hl.1 rfl (Nat.le_of_ble_eq_true rfl) dL_law_1152 ⟨hc, hs⟩) ha2 (fun r v H locs hw2 hP hD hS => ?_)
  refine lv_istore (lv' := (6, .int r) :: (5, .int k) :: lvL b x h o i) hx hb dL_law_1155 hl (by decide) rfl (fun ls hl => ?_)
  obtain ⟨wx, g, mm, dy, co, ti, ro, n, nb, wr, q1, q2, hout, hG⟩ := hrel k u r v hw1 hw2
  rw [List.append_nil, q1, q2] at hP hD
  have hP2 : va_P D vwCl ((wx ++ [oL cL o g]) ++ ([oMod h mm k dy co ti ro n nb] ++ wr)) H := hP
  have hD2 : va_D A ((wx ++ [oL cL o g]) ++ ([oMod h mm k dy co ti ro n nb] ++ wr)) := hD
  refine lv_aload_n hx hb dL_law_1157 rfl (lv_at hl 4 rfl) ?_
  refine goI (wx ++ [oL cL o g]) wr hP2 hD2 hS hA (rnV (rest := []) (m_thrown sa tb D cA cL l h mm k dy co ti ro n nb) (wx ++ [oL cL o g]) wr hP2 hD2 hS hA hE ⟨hx, hb, hml, hown, hts⟩ (cwV 0 hts gL_law_X5_thrown rfl rfl rfl (by decide +kernel) ⟨(Nat.le_of_ble_eq_true rfl), (Nat.le_of_ble_eq_true rfl)⟩) 5 0 rfl rfl rfl rfl hl.1 rfl (Nat.le_of_ble_eq_true rfl) dL_law_1158 ⟨hc, hs⟩) (fun _ => rfl) (fun r2 u2 H locs hw3 hP hD hS => ?_)
  rw [show r2 = k from hw3]
  refine lv_iload hx hb dL_law_1161 (lv_at hl 1 rfl) ?_
  refine lv_icmp_eq (tgt := 1168) hx hb dL_law_1163 (by decide) (fun _ => ?_) (fun z => absurd rfl z)
  refine lv_iload hx hb dL_law_1168 (lv_at hl 1 rfl) ?_
  have hend : W p l e room_1 s m #[.ref b] below meth c H locs (cells + 1) (slots + 6) Q (F0 m 1185 ls []) := by
    refine lv_goto (tgt := 1243) hx hb dL_law_1185 (by decide) ?_
    exact K _ H locs ls hG hP hD hS (lv_sub hl [2, 3, 4, 5, 6] rfl)
  refine lv_if_ne (tgt := 1185) hx hb dL_law_1170 (by decide) (fun _ => hend) (fun k0 => ?_)
  refine lv_aload_n hx hb dL_law_1173 rfl (lv_at hl 5 rfl) ?_
  refine lv_iconst (v := 0) hx hb dL_law_1174 (by decide) ?_
  refine r_lld (pre := wx) (pos := [oMod h mm k dy co ti ro n nb] ++ wr) hx hb hE hP dL_law_1175 ?_
  refine lv_iload hx hb dL_law_1176 (lv_at hl 0 rfl) ?_
  refine lv_i2l hx hb dL_law_1178 rfl ?_
  refine W.lcmp hx hb dL_law_1179 ?_
  rw [hout k0, cmp_same]
  exact lv_if_eq (tgt := 1185) hx hb dL_law_1180 (by decide) (fun _ => hend) (fun z => absurd rfl z)
set_option maxRecDepth 100000 in
set_option maxHeartbeats 4000000 in
theorem J_mean {p : Program} {l : Launch} {e : Env} {s : State} {m : MethodId} {b : Nat} {below : List Frame} {meth : Method} {c : Code} {H : Heap} {locs : List Loc} {cells slots : Nat} {Q : State → Prop} {sa tb : Nat → Nat} {D : va_G} {cA cL : ClassId} {A : Nat → Prop} {L : Nat} {xs : Nat → Int32} {x h o i : Nat} {ls : Array Slot} {Wd : va_W} (hG0 : Good cA cL x h o Wd) (C : LawC p s m c b L xs sa tb D cA cL A) (hc : cells + 1 ≤ 1088) (hs : slots + 6 ≤ 8705) (hi : i + 3 < L) (hP : va_P D vwCl Wd H) (hD : va_D A Wd) (hS : va_S A s.heap H locs) (hl : lv_has ls 9 (lvL b x h o i)) (K : KonL p l e s m b below meth c D cA cL A x h o i (cells + 1) (slots + 6) Q) : W p l e room_1 s m #[.ref b] below meth c H locs cells slots Q (F0 m 1188 ls []) := by
  obtain ⟨hx, hb, hml, hown, hts, hX, hbl, hbA, hA, hE, hL⟩ := C
  refine W.widen (k := cells + 1) (n := slots + 6) (Nat.le_succ _) (Nat.le_add_right _ _) ?_
  obtain ⟨a, dy, co, ti, ro, u, n, B, ch, v, nb, G, w, T, a2, dy2, co2, ti2, ro2, u2, n2, B2, ch2, v2, nb2, G2, w2, T2, mm, th, BA, GA, TA, mo, g, rfl, hn, hnb, hI⟩ := hG0
  refine lv_aload_n hx hb dL_law_1188 rfl (lv_at hl 1 rfl) ?_
  have hP1 : va_P D vwCl ([] ++ (wX cA x a dy co ti ro u n B ch v nb G w T a2 dy2 co2 ti2 ro2 u2 n2 B2 ch2 v2 nb2 G2 w2 T2 ++ ([oL cL o g] ++ wMod cA h mm th dy co ti ro n nb B G T BA GA TA mo))) H := hP
  have hD1 : va_D A ([] ++ (wX cA x a dy co ti ro u n B ch v nb G w T a2 dy2 co2 ti2 ro2 u2 n2 B2 ch2 v2 nb2 G2 w2 T2 ++ ([oL cL o g] ++ wMod cA h mm th dy co ti ro n nb B G T BA GA TA mo))) := hD
  refine goD [] ([oL cL o g] ++ wMod cA h mm th dy co ti ro n nb B G T BA GA TA mo) hP1 hD1 hS hA (rnV (rest := []) (c_mean sa tb D cA cL l x a dy co ti ro u n B ch v nb G w T a2 dy2 co2 ti2 ro2 u2 n2 B2 ch2 v2 nb2 G2 w2 T2 hn (mean_nan hn hI.1)) [] ([oL cL o g] ++ wMod cA h mm th dy co ti ro n nb B G T BA GA TA mo) hP1 hD1 hS hA hE ⟨hx, hb, hml, hown, hts⟩ (cwV 0 hts gL_law_X4_mean rfl rfl rfl (by decide +kernel) ⟨(Nat.le_of_ble_eq_true rfl), (Nat.le_of_ble_eq_true rfl)⟩) 4 0 rfl rfl rfl rfl hl.1 rfl (Nat.le_of_ble_eq_true rfl) dL_law_1189 ⟨hc, hs⟩) (fun _ => rfl) (fun r u0 H locs hw hP hD hS => ?_)
  obtain rfl : r = meanF n B := hw
  refine lv_topd (fun r hr => ?_)
  refine lv_dstore (lv' := (5, .double r) :: lvL b x h o i) hx hb dL_law_1192 hl (by decide) rfl (fun ls hl => ?_)
  refine lv_aload_n hx hb dL_law_1194 rfl (lv_at hl 3 rfl) ?_
  have hP1 : va_P D vwCl ((wX cA x a dy co ti ro u n B ch v nb G w T a2 dy2 co2 ti2 ro2 u2 n2 B2 ch2 v2 nb2 G2 w2 T2 ++ [oL cL o g]) ++ (wMod cA h mm th dy co ti ro n nb B G T BA GA TA mo ++ [])) H := hP
  have hD1 : va_D A ((wX cA x a dy co ti ro u n B ch v nb G w T a2 dy2 co2 ti2 ro2 u2 n2 B2 ch2 v2 nb2 G2 w2 T2 ++ [oL cL o g]) ++ (wMod cA h mm th dy co ti ro n nb B G T BA GA TA mo ++ [])) := hD
  refine goD (wX cA x a dy co ti ro u n B ch v nb G w T a2 dy2 co2 ti2 ro2 u2 n2 B2 ch2 v2 nb2 G2 w2 T2 ++ [oL cL o g]) [] hP1 hD1 hS hA (rnV (rest := []) (m_mean sa tb D cA cL l h mm th dy co ti ro n nb B G T BA GA TA mo hn (mean_nan hn hI.1)) (wX cA x a dy co ti ro u n B ch v nb G w T a2 dy2 co2 ti2 ro2 u2 n2 B2 ch2 v2 nb2 G2 w2 T2 ++ [oL cL o g]) [] hP1 hD1 hS hA hE ⟨hx, hb, hml, hown, hts⟩ (cwV 0 hts gL_law_X5_mean rfl rfl rfl (by decide +kernel) ⟨(Nat.le_of_ble_eq_true rfl), (Nat.le_of_ble_eq_true rfl)⟩) 5 0 rfl rfl rfl rfl hl.1 rfl (Nat.le_of_ble_eq_true rfl) dL_law_1195 ⟨hc, hs⟩) (fun _ => rfl) (fun r2 u1 H locs hw hP hD hS => ?_)
  rw [show r2 = r from (show r2 = meanF n B from hw).trans hr.symm]
  refine lv_dstore (lv' := (7, .double r) :: (5, .double r) :: lvL b x h o i) hx hb dL_law_1198 hl (by decide) rfl (fun ls hl => ?_)
  have hend : W p l e room_1 s m #[.ref b] below meth c H locs (cells + 1) (slots + 6) Q (F0 m 1226 ls []) := by
    refine lv_goto (tgt := 1243) hx hb dL_law_1226 (by decide) ?_
    exact K _ H locs ls (Good.mk hn hnb hI) hP hD hS (lv_sub hl [2, 3, 4, 5, 6] rfl)
  refine lv_dload hx hb dL_law_1200 (lv_at hl 1 rfl) ?_
  refine lv_dload hx hb dL_law_1202 (lv_at hl 0 rfl) ?_
  refine lv_dcmp hx hb dL_law_1204 ?_
  refine lv_topi (fun z hz => ?_)
  refine lv_if_eq (tgt := 1226) hx hb dL_law_1205 (by decide) (fun _ => hend) (fun z0 => ?_)
  refine lv_dload hx hb dL_law_1208 (lv_at hl 1 rfl) ?_
  refine lv_dload hx hb dL_law_1210 (lv_at hl 1 rfl) ?_
  refine lv_dcmp hx hb dL_law_1212 ?_
  rw [← hz]
  refine lv_if_eq (tgt := 1224) hx hb dL_law_1213 (by decide) (fun q => absurd q z0) (fun _ => ?_)
  refine lv_dload hx hb dL_law_1216 (lv_at hl 0 rfl) ?_
  refine lv_dload hx hb dL_law_1218 (lv_at hl 0 rfl) ?_
  refine lv_dcmp hx hb dL_law_1220 ?_
  rw [← hz]
  exact lv_if_ne (tgt := 1226) hx hb dL_law_1221 (by decide) (fun _ => hend) (fun q => absurd q z0)
set_option maxRecDepth 100000 in
set_option maxHeartbeats 4000000 in
theorem J_digest {p : Program} {l : Launch} {e : Env} {s : State} {m : MethodId} {b : Nat} {below : List Frame} {meth : Method} {c : Code} {H : Heap} {locs : List Loc} {cells slots : Nat} {Q : State → Prop} {sa tb : Nat → Nat} {D : va_G} {cA cL : ClassId} {A : Nat → Prop} {L : Nat} {xs : Nat → Int32} {x h o i : Nat} {ls : Array Slot} {Wd : va_W} (hG0 : Good cA cL x h o Wd) (C : LawC p s m c b L xs sa tb D cA cL A) (hc : cells + 1 ≤ 1088) (hs : slots + 6 ≤ 8705) (hi : i + 3 < L) (hP : va_P D vwCl Wd H) (hD : va_D A Wd) (hS : va_S A s.heap H locs) (hl : lv_has ls 9 (lvL b x h o i)) (K : KonL p l e s m b below meth c D cA cL A x h o i (cells + 1) (slots + 6) Q) : W p l e room_1 s m #[.ref b] below meth c H locs cells slots Q (F0 m 1229 ls []) := by
  obtain ⟨hx, hb, hml, hown, hts, hX, hbl, hbA, hA, hE, hL⟩ := C
  refine W.widen (k := cells + 1) (n := slots + 6) (Nat.le_succ _) (Nat.le_add_right _ _) ?_
  obtain ⟨a, dy, co, ti, ro, u, n, B, ch, v, nb, G, w, T, a2, dy2, co2, ti2, ro2, u2, n2, B2, ch2, v2, nb2, G2, w2, T2, mm, th, BA, GA, TA, mo, g, rfl, hn, hnb, hI⟩ := hG0
  refine lv_aload_n hx hb dL_law_1229 rfl (lv_at hl 1 rfl) ?_
  have hP1 : va_P D vwCl ([] ++ (wX cA x a dy co ti ro u n B ch v nb G w T a2 dy2 co2 ti2 ro2 u2 n2 B2 ch2 v2 nb2 G2 w2 T2 ++ ([oL cL o g] ++ wMod cA h mm th dy co ti ro n nb B G T BA GA TA mo))) H := hP
  have hD1 : va_D A ([] ++ (wX cA x a dy co ti ro u n B ch v nb G w T a2 dy2 co2 ti2 ro2 u2 n2 B2 ch2 v2 nb2 G2 w2 T2 ++ ([oL cL o g] ++ wMod cA h mm th dy co ti ro n nb B G T BA GA TA mo))) := hD
  refine goL [] ([oL cL o g] ++ wMod cA h mm th dy co ti ro n nb B G T BA GA TA mo) hP1 hD1 hS hA (rnV (rest := []) (c_digest sa tb D cA cL l x a dy co ti ro u n B ch v nb G w T a2 dy2 co2 ti2 ro2 u2 n2 B2 ch2 v2 nb2 G2 w2 T2 hn hnb) [] ([oL cL o g] ++ wMod cA h mm th dy co ti ro n nb B G T BA GA TA mo) hP1 hD1 hS hA hE ⟨hx, hb, hml, hown, hts⟩ (cwV 0 hts gL_law_X4_digest rfl rfl rfl (by decide +kernel) ⟨(Nat.le_of_ble_eq_true rfl), (Nat.le_of_ble_eq_true rfl)⟩) 4 0 rfl rfl rfl rfl hl.1 rfl (Nat.le_of_ble_eq_true rfl) dL_law_1230 ⟨hc, hs⟩) (fun _ => rfl) (fun r u0 H locs hw hP hD hS => ?_)
  refine lv_aload_n hx hb dL_law_1233 rfl (lv_at hl 2 rfl) ?_
  have hP1 : va_P D vwCl ((wX cA x a dy co ti ro u n B ch v nb G w T a2 dy2 co2 ti2 ro2 u2 n2 B2 ch2 v2 nb2 G2 w2 T2 ++ [oL cL o g]) ++ (wMod cA h mm th dy co ti ro n nb B G T BA GA TA mo ++ [])) H := hP
  have hD1 : va_D A ((wX cA x a dy co ti ro u n B ch v nb G w T a2 dy2 co2 ti2 ro2 u2 n2 B2 ch2 v2 nb2 G2 w2 T2 ++ [oL cL o g]) ++ (wMod cA h mm th dy co ti ro n nb B G T BA GA TA mo ++ [])) := hD
  refine goL (wX cA x a dy co ti ro u n B ch v nb G w T a2 dy2 co2 ti2 ro2 u2 n2 B2 ch2 v2 nb2 G2 w2 T2 ++ [oL cL o g]) [] hP1 hD1 hS hA (rnV (rest := [.long r]) (m_digest sa tb D cA cL l h mm th dy co ti ro n nb B G T BA GA TA mo hn hnb hI) (wX cA x a dy co ti ro u n B ch v nb G w T a2 dy2 co2 ti2 ro2 u2 n2 B2 ch2 v2 nb2 G2 w2 T2 ++ [oL cL o g]) [] hP1 hD1 hS hA hE ⟨hx, hb, hml, hown, hts⟩ (cwV 0 hts gL_law_X5_digest rfl rfl rfl (by decide +kernel) ⟨(Nat.le_of_ble_eq_true rfl), (Nat.le_of_ble_eq_true rfl)⟩) 5 0 rfl rfl rfl rfl hl.1 rfl (Nat.le_of_ble_eq_true rfl) dL_law_1234 ⟨hc, hs⟩) (fun _ => rfl) (fun r2 u1 H locs hw2 hP hD hS => ?_)
  rw [show r2 = r from (show r2 = digF dy co ti ro n B nb G T from hw2).trans (show r = digF dy co ti ro n B nb G T from hw).symm]
  refine W.lcmp hx hb dL_law_1237 ?_
  rw [cmp_same]
  exact lv_if_eq (tgt := 1243) hx hb dL_law_1238 (by decide) (fun _ => K _ H locs ls (Good.mk hn hnb hI) hP hD hS hl) (fun z => absurd rfl z)

