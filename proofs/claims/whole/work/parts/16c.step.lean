/-! 17: a call of the law: both sides answer alike, and both keep one value -/
/-- the worlds that calls can reach -/
def Good (cA cL : ClassId) (x h o : Nat) (W : va_W) : Prop := ∃ (a : Nat → Nat) (dy : Int32) (co : Int32) (ti : Int32) (ro : Int32) (u : Nat → Nat) (n : Nat) (B : Nat → Nat → Int32) (ch : Nat → Int32) (v : Nat → Nat) (nb : Nat) (G : Nat → Nat → Int32) (w : Nat) (T : Nat → Int32) (a2 : Nat → Nat) (dy2 : Int32) (co2 : Int32) (ti2 : Int32) (ro2 : Int32) (u2 : Nat → Nat) (n2 : Nat) (B2 : Nat → Nat → Int32) (ch2 : Nat → Int32) (v2 : Nat → Nat) (nb2 : Nat) (G2 : Nat → Nat → Int32) (w2 : Nat) (T2 : Nat → Int32) (mm : Nat → Nat) (th : Int32) (BA : Nat → Nat → Int32) (GA : Nat → Nat → Int32) (TA : Nat → Int32) (mo : Nat → Int32) (g : Nat → Int64), W = (wX cA x a dy co ti ro u n B ch v nb G w T a2 dy2 co2 ti2 ro2 u2 n2 B2 ch2 v2 nb2 G2 w2 T2 ++ [oL cL o g]) ++ wMod cA h mm th dy co ti ro n nb B G T BA GA TA mo ∧ n ≤ 8 ∧ nb ≤ 3 ∧ Inv n nb B G
theorem Good.mk {cA cL : ClassId} {x h o : Nat} {a : Nat → Nat} {dy : Int32} {co : Int32} {ti : Int32} {ro : Int32} {u : Nat → Nat} {n : Nat} {B : Nat → Nat → Int32} {ch : Nat → Int32} {v : Nat → Nat} {nb : Nat} {G : Nat → Nat → Int32} {w : Nat} {T : Nat → Int32} {a2 : Nat → Nat} {dy2 : Int32} {co2 : Int32} {ti2 : Int32} {ro2 : Int32} {u2 : Nat → Nat} {n2 : Nat} {B2 : Nat → Nat → Int32} {ch2 : Nat → Int32} {v2 : Nat → Nat} {nb2 : Nat} {G2 : Nat → Nat → Int32} {w2 : Nat} {T2 : Nat → Int32} {mm : Nat → Nat} {th : Int32} {BA : Nat → Nat → Int32} {GA : Nat → Nat → Int32} {TA : Nat → Int32} {mo : Nat → Int32} {g : Nat → Int64} (hn : n ≤ 8) (hnb : nb ≤ 3) (hI : Inv n nb B G) : Good cA cL x h o ((wX cA x a dy co ti ro u n B ch v nb G w T a2 dy2 co2 ti2 ro2 u2 n2 B2 ch2 v2 nb2 G2 w2 T2 ++ [oL cL o g]) ++ (oMod h mm th dy co ti ro n nb :: [(mm 0, I_ cA 64 (pkB B)), (mm 1, I_ cA 15 (pkG G)), (mm 2, I_ cA 3 T), (mm 3, I_ cA 64 (pkB BA)), (mm 4, I_ cA 15 (pkG GA)), (mm 5, I_ cA 3 TA), (mm 6, I_ cA 8 mo)])) :=
  ⟨a, dy, co, ti, ro, u, n, B, ch, v, nb, G, w, T, a2, dy2, co2, ti2, ro2, u2, n2, B2, ch2, v2, nb2, G2, w2, T2, mm, th, BA, GA, TA, mo, g, rfl, hn, hnb, hI⟩
theorem wX_ad (cA : ClassId) (x : Nat) (a : Nat → Nat) (dy : Int32) (co : Int32) (ti : Int32) (ro : Int32) (u : Nat → Nat) (n : Nat) (B : Nat → Nat → Int32) (ch : Nat → Int32) (v : Nat → Nat) (nb : Nat) (G : Nat → Nat → Int32) (w : Nat) (T : Nat → Int32) (a2 : Nat → Nat) (dy2 : Int32) (co2 : Int32) (ti2 : Int32) (ro2 : Int32) (u2 : Nat → Nat) (n2 : Nat) (B2 : Nat → Nat → Int32) (ch2 : Nat → Int32) (v2 : Nat → Nat) (nb2 : Nat) (G2 : Nat → Nat → Int32) (w2 : Nat) (T2 : Nat → Int32) : (wX cA x a dy co ti ro u n B ch v nb G w T a2 dy2 co2 ti2 ro2 u2 n2 B2 ch2 v2 nb2 G2 w2 T2).map Prod.fst = [x, a 0, a 1, u 0, u 1, u 2, u 3, u 4, u 5, u 6, u 7, u 8, a 2, v 0, v 1, v 2, v 3, v 4, a 3, w, a2 0, a2 1, u2 0, u2 1, u2 2, u2 3, u2 4, u2 5, u2 6, u2 7, u2 8, a2 2, v2 0, v2 1, v2 2, v2 3, v2 4, a2 3, w2] := rfl
theorem wX_adr {cA : ClassId} {x : Nat} {a : Nat → Nat} {dy : Int32} {co : Int32} {ti : Int32} {ro : Int32} {u : Nat → Nat} {n : Nat} {B : Nat → Nat → Int32} {ch : Nat → Int32} {v : Nat → Nat} {nb : Nat} {G : Nat → Nat → Int32} {w : Nat} {T : Nat → Int32} {a2 : Nat → Nat} {dy2 : Int32} {co2 : Int32} {ti2 : Int32} {ro2 : Int32} {u2 : Nat → Nat} {n2 : Nat} {B2 : Nat → Nat → Int32} {ch2 : Nat → Int32} {v2 : Nat → Nat} {nb2 : Nat} {G2 : Nat → Nat → Int32} {w2 : Nat} {T2 : Nat → Int32} {dy' : Int32} {co' : Int32} {ti' : Int32} {ro' : Int32} {n' : Nat} {B' : Nat → Nat → Int32} {ch' : Nat → Int32} {nb' : Nat} {G' : Nat → Nat → Int32} {T' : Nat → Int32} {dy2' : Int32} {co2' : Int32} {ti2' : Int32} {ro2' : Int32} {n2' : Nat} {B2' : Nat → Nat → Int32} {ch2' : Nat → Int32} {nb2' : Nat} {G2' : Nat → Nat → Int32} {T2' : Nat → Int32} : (wX cA x a dy co ti ro u n B ch v nb G w T a2 dy2 co2 ti2 ro2 u2 n2 B2 ch2 v2 nb2 G2 w2 T2).map Prod.fst = (wX cA x a dy' co' ti' ro' u n' B' ch' v nb' G' w T' a2 dy2' co2' ti2' ro2' u2 n2' B2' ch2' v2 nb2' G2' w2 T2').map Prod.fst := (wX_ad _ _ _ _ _ _ _ _ _ _ _ _ _ _ _ _ _ _ _ _ _ _ _ _ _ _ _ _ _ _).trans (wX_ad _ _ _ _ _ _ _ _ _ _ _ _ _ _ _ _ _ _ _ _ _ _ _ _ _ _ _ _ _ _).symm
theorem wM_ad (cA : ClassId) (h : Nat) (mm : Nat → Nat) (th : Int32) (dy : Int32) (co : Int32) (ti : Int32) (ro : Int32) (n : Nat) (nb : Nat) (B : Nat → Nat → Int32) (G : Nat → Nat → Int32) (T : Nat → Int32) (BA : Nat → Nat → Int32) (GA : Nat → Nat → Int32) (TA : Nat → Int32) (mo : Nat → Int32) : (wMod cA h mm th dy co ti ro n nb B G T BA GA TA mo).map Prod.fst = [h, mm 0, mm 1, mm 2, mm 3, mm 4, mm 5, mm 6] := rfl
theorem wM_adr {cA : ClassId} {h : Nat} {mm : Nat → Nat} {th : Int32} {dy : Int32} {co : Int32} {ti : Int32} {ro : Int32} {n : Nat} {nb : Nat} {B : Nat → Nat → Int32} {G : Nat → Nat → Int32} {T : Nat → Int32} {BA : Nat → Nat → Int32} {GA : Nat → Nat → Int32} {TA : Nat → Int32} {mo : Nat → Int32} {th' : Int32} {dy' : Int32} {co' : Int32} {ti' : Int32} {ro' : Int32} {n' : Nat} {nb' : Nat} {B' : Nat → Nat → Int32} {G' : Nat → Nat → Int32} {T' : Nat → Int32} {BA' : Nat → Nat → Int32} {GA' : Nat → Nat → Int32} {TA' : Nat → Int32} {mo' : Nat → Int32} : (wMod cA h mm th dy co ti ro n nb B G T BA GA TA mo).map Prod.fst = (wMod cA h mm th' dy' co' ti' ro' n' nb' B' G' T' BA' GA' TA' mo').map Prod.fst := (wM_ad _ _ _ _ _ _ _ _ _ _ _ _ _ _ _ _ _).trans (wM_ad _ _ _ _ _ _ _ _ _ _ _ _ _ _ _ _ _).symm
/-- what the law's walk of a call needs: the helper's contract, the reference's, and that they fit -/
def Step9 (sa tb : Nat → Nat) (D : va_G) (cA cL : ClassId) (l : Launch) (x h o : Nat) (yL : MethodName) (wsL : List Cond) (y5 : MethodName) (ws5 : List Cond) (av : List Value) (W : va_W) : Prop :=
  ∃ (f1 lo1 f2 lo2 : Nat) (wx wm : va_W) (g : Nat → Int64) (fs5 : List Value) (S1 : Type) (post1 : Int32 → S1 → Prop) (w1 : S1 → va_W) (S2 : Type) (post2 : Int32 → S2 → Prop) (w2 : S2 → va_W),
    W = (wx ++ [oL cL o g]) ++ wm ∧ wm[0]? = some (h, .inr (5, fs5)) ∧ (f1 ≤ 9 ∧ lo1 ≤ 170 ∧ f2 ≤ 9 ∧ lo2 ≤ 170) ∧
    KW sa tb D cA cL l yL wsL ({ frames := f1, cells := 1, slots := 6, locals := lo1 }) (.ref x :: (av ++ [.ref o])) (wx ++ [oL cL o g]) (qI D post1 w1) ∧
    KM sa tb D cA cL l y5 ws5 ({ frames := f2, cells := 0, slots := 0, locals := lo2 }) (.ref h :: av) wm (qI D post2 w2) ∧
    (∀ u, (w1 u).map Prod.fst = (wx ++ [oL cL o g]).map Prod.fst) ∧ (∀ v, (w2 v).map Prod.fst = wm.map Prod.fst) ∧
    ∀ k u b v, post1 k u → post2 b v → ∃ (wx' : va_W) (g' : Nat → Int64) (mm : Nat → Nat) (dy co ti ro : Int32) (n nb : Nat) (wr : va_W), w1 u = wx' ++ [oL cL o g'] ∧ w2 v = oMod h mm k dy co ti ro n nb :: wr ∧ (k = 0 → g' 0 = b.toInt64) ∧ Good cA cL x h o ((wx' ++ [oL cL o g']) ++ (oMod h mm k dy co ti ro n nb :: wr))
section STP
variable {sa tb : Nat → Nat} {D : va_G} {cA cL : ClassId} {l : Launch} {x h o : Nat} {yL : MethodName} {wsL : List Cond} {y5 : MethodName} {ws5 : List Cond} {av : List Value} {f1 lo1 f2 lo2 : Nat} {wx : va_W} {g : Nat → Int64}
/-- both refuse -/
theorem stp_no {mm : Nat → Nat} {j th dy co ti ro : Int32} {n nb : Nat} {wr : va_W} (hj : ¬ j = 0) (hb : f1 ≤ 9 ∧ lo1 ≤ 170 ∧ f2 ≤ 9 ∧ lo2 ≤ 170)
    (h1 : KW sa tb D cA cL l yL wsL ({ frames := f1, cells := 1, slots := 6, locals := lo1 }) (.ref x :: (av ++ [.ref o])) (wx ++ [oL cL o g]) (qI D (fun (r : Int32) (_ : Unit) => r = j) (fun _ => wx ++ [oL cL o g])))
    (h2 : KM sa tb D cA cL l y5 ws5 ({ frames := f2, cells := 0, slots := 0, locals := lo2 }) (.ref h :: av) (oMod h mm th dy co ti ro n nb :: wr) (qI D (fun (r : Int32) (_ : Unit) => r = 0) (fun _ => oMod h mm j dy co ti ro n nb :: wr)))
    (hG : Good cA cL x h o ((wx ++ [oL cL o g]) ++ (oMod h mm j dy co ti ro n nb :: wr))) : Step9 sa tb D cA cL l x h o yL wsL y5 ws5 av ((wx ++ [oL cL o g]) ++ (oMod h mm th dy co ti ro n nb :: wr)) :=
  ⟨f1, lo1, f2, lo2, wx, _, g, _, Unit, _, _, Unit, _, _, rfl, rfl, hb, h1, h2, fun _ => rfl, fun _ => by simp only [List.map_cons], fun k u b v e1 e2 => ⟨wx, g, mm, dy, co, ti, ro, n, nb, wr, rfl, by rw [show k = j from e1], fun e => absurd (e1.symm.trans e) hj, by rw [show k = j from e1]; exact hG⟩⟩
/-- both answer -/
theorem stp_ok {S1 S2 : Type} {post1 : Int32 → S1 → Prop} {w1 : S1 → va_W} {post2 : Int32 → S2 → Prop} {w2 : S2 → va_W} {mm0 : Nat → Nat} {th0 dy0 co0 ti0 ro0 : Int32} {n0 nb0 : Nat} {wr0 : va_W} (hb : f1 ≤ 9 ∧ lo1 ≤ 170 ∧ f2 ≤ 9 ∧ lo2 ≤ 170)
    (h1 : KW sa tb D cA cL l yL wsL ({ frames := f1, cells := 1, slots := 6, locals := lo1 }) (.ref x :: (av ++ [.ref o])) (wx ++ [oL cL o g]) (qI D (fun (r : Int32) (u : Int32 × S1) => r = 0 ∧ post1 u.1 u.2) (fun u => w1 u.2 ++ [oL cL o (vp_updL g 0 u.1.toInt64)])))
    (h2 : KM sa tb D cA cL l y5 ws5 ({ frames := f2, cells := 0, slots := 0, locals := lo2 }) (.ref h :: av) (oMod h mm0 th0 dy0 co0 ti0 ro0 n0 nb0 :: wr0) (qI D post2 w2))
    (ha1 : ∀ u, (w1 u).map Prod.fst = wx.map Prod.fst) (ha2 : ∀ v, (w2 v).map Prod.fst = (oMod h mm0 th0 dy0 co0 ti0 ro0 n0 nb0 :: wr0).map Prod.fst)
    (hrel : ∀ a u b v, post1 a u → post2 b v → a = b ∧ ∃ (mm : Nat → Nat) (dy co ti ro : Int32) (n nb : Nat) (wr : va_W), w2 v = oMod h mm 0 dy co ti ro n nb :: wr ∧ ∀ g' : Nat → Int64, Good cA cL x h o ((w1 u ++ [oL cL o g']) ++ (oMod h mm 0 dy co ti ro n nb :: wr))) :
    Step9 sa tb D cA cL l x h o yL wsL y5 ws5 av ((wx ++ [oL cL o g]) ++ (oMod h mm0 th0 dy0 co0 ti0 ro0 n0 nb0 :: wr0)) := by
  refine ⟨f1, lo1, f2, lo2, wx, _, g, _, Int32 × S1, _, _, S2, post2, w2, rfl, rfl, hb, h1, h2, fun u => ?_, ha2, fun k u b v e1 e2 => ?_⟩
  · rw [List.map_append, List.map_append, ha1]
    rfl
  · obtain ⟨rfl, e1⟩ := e1
    obtain ⟨e3, mm, dy, co, ti, ro, n, nb, wr, e4, e5⟩ := hrel _ _ _ _ e1 e2
    refine ⟨w1 u.2, _, mm, dy, co, ti, ro, n, nb, wr, rfl, e4, fun _ => ?_, e5 _⟩
    rw [← e3]
    rfl
end STP
theorem not_in {x : Int32} {n : Nat} (hn : n < 2 ^ 31) (h : ¬ (x < 0 ∨ ¬ x < nI n)) : ∃ j : Nat, j < n ∧ x = nI j :=
  tab_ix (M := nI n) rfl hn (fun q => h (Or.inl q)) (fun q => h (Or.inr (Int32.not_lt.mpr q)))
theorem land_in (x : Int32) : landAt x = -1 ∨ ∃ j, j < 3 ∧ landAt x = nI j := by
  unfold landAt
  by_cases h0 : 2 = x
  · rw [if_pos h0]; exact Or.inr ⟨0, by omega, rfl⟩
  · rw [if_neg h0]
    by_cases h1 : 15 = x
    · rw [if_pos h1]; exact Or.inr ⟨1, by omega, rfl⟩
    · rw [if_neg h1]
      by_cases h2 : 28 = x
      · rw [if_pos h2]; exact Or.inr ⟨2, by omega, rfl⟩
      · rw [if_neg h2]; exact Or.inl rfl
theorem in_days {x : Int32} (h : ¬ (x < 1 ∨ ¬ x ≤ 200)) : ∃ d : Nat, 1 ≤ d ∧ d ≤ 200 ∧ x = nI d := by
  have h0 : ¬ x < 0 := fun q => h (Or.inl (Int32.lt_trans q (by decide)))
  have h2 : x ≤ 200 := Classical.byContradiction fun q => h (Or.inr q)
  obtain ⟨j, hj, e⟩ := nI_of2 (M := 200) (n := 200) (by decide) h0 h2
  refine ⟨j, Nat.one_le_iff_ne_zero.mpr fun q => h (Or.inl ?_), hj, e⟩
  subst q
  rw [e]
  decide

set_option maxRecDepth 100000 in
set_option maxHeartbeats 4000000 in
theorem do_bed {sa tb : Nat → Nat} {D : va_G} {cA cL : ClassId} {l : Launch} (hst : l.stackTraces = false) {x h o : Nat} {W : va_W} (hG : Good cA cL x h o W) (p1 p2 p3 : Int32) : Step9 sa tb D cA cL l x h o yL_bed wsL_bed yX5_bed wsX5_bed [.int p1, .int p2, .int p3] W := by
  obtain ⟨a, dy, co, ti, ro, u, n, B, ch, v, nb, G, w, T, a2, dy2, co2, ti2, ro2, u2, n2, B2, ch2, v2, nb2, G2, w2, T2, mm, th, BA, GA, TA, mo, g, rfl, hn, hnb, hI⟩ := hG
  by_cases c0 : p1 < 0 ∨ ¬ p1 ≤ 30
  · exact stp_no (j := 1) (by decide) ⟨(Nat.le_of_ble_eq_true rfl), (Nat.le_of_ble_eq_true rfl), (Nat.le_of_ble_eq_true rfl), (Nat.le_of_ble_eq_true rfl)⟩ (L_bed_1 (x_bed_I sa tb D cA cL l x a dy co ti ro u n B ch v nb G w T a2 dy2 co2 ti2 ro2 u2 n2 B2 ch2 v2 nb2 G2 w2 T2 p1 p2 p3 c0 hst) rfl) (m_bed_1 sa tb D cA cL l h mm th dy co ti ro n nb B G T BA GA TA mo p1 p2 p3 c0) (Good.mk hn hnb hI)
  · have q0 : ¬ p1 < 0 := fun q => c0 (Or.inl q)
    have q1 : p1 ≤ 30 := Classical.byContradiction fun q => c0 (Or.inr q)
    by_cases c1 : p2 < 1 ∨ ¬ p2 ≤ 9 ∨ p3 < 0 ∨ ¬ p3 ≤ 100
    · exact stp_no (j := 2) (by decide) ⟨(Nat.le_of_ble_eq_true rfl), (Nat.le_of_ble_eq_true rfl), (Nat.le_of_ble_eq_true rfl), (Nat.le_of_ble_eq_true rfl)⟩ (L_bed_2 (x_bed_A sa tb D cA cL l x a dy co ti ro u n B ch v nb G w T a2 dy2 co2 ti2 ro2 u2 n2 B2 ch2 v2 nb2 G2 w2 T2 p1 p2 p3 q0 q1 c1 hst) rfl) (m_bed_2 sa tb D cA cL l h mm th dy co ti ro n nb B G T BA GA TA mo p1 p2 p3 q0 q1 c1) (Good.mk hn hnb hI)
    · have q2 : ¬ p2 < 1 := fun q => c1 (Or.inl q)
      have q3 : p2 ≤ 9 := Classical.byContradiction fun q => c1 (Or.inr (Or.inl q))
      have q4 : ¬ p3 < 0 := fun q => c1 (Or.inr (Or.inr (Or.inl q)))
      have q5 : p3 ≤ 100 := Classical.byContradiction fun q => c1 (Or.inr (Or.inr (Or.inr q)))
      by_cases c2 : n = 8
      · exact stp_no (j := 3) (by decide) ⟨(Nat.le_of_ble_eq_true rfl), (Nat.le_of_ble_eq_true rfl), (Nat.le_of_ble_eq_true rfl), (Nat.le_of_ble_eq_true rfl)⟩ (L_bed_3 (x_bed_S sa tb D cA cL l x a dy co ti ro u n B ch v nb G w T a2 dy2 co2 ti2 ro2 u2 n2 B2 ch2 v2 nb2 G2 w2 T2 p1 p2 p3 q0 q1 q2 q3 q4 q5 c2 hst) rfl) (m_bed_3 sa tb D cA cL l h mm th dy co ti ro n nb B G T BA GA TA mo p1 p2 p3 q0 q1 q2 q3 q4 q5 c2) (Good.mk hn hnb hI)
      · have c3 : n < 8 := by omega
        exact stp_ok ⟨(Nat.le_of_ble_eq_true rfl), (Nat.le_of_ble_eq_true rfl), (Nat.le_of_ble_eq_true rfl), (Nat.le_of_ble_eq_true rfl)⟩ (L_bed_0 (c_bed sa tb D cA cL l x a dy co ti ro u n B ch v nb G w T a2 dy2 co2 ti2 ro2 u2 n2 B2 ch2 v2 nb2 G2 w2 T2 p1 p2 p3 q0 q1 q2 q3 q4 q5 c3) rfl (fun _ => wX_adr)) (m_bed sa tb D cA cL l h mm th dy co ti ro n nb B G T BA GA TA mo p1 p2 p3 q0 q1 q2 q3 q4 q5 c3) (fun _ => wX_adr) (fun _ => wM_adr) (fun r1 u1 r2 u2 e1 e2 => ⟨e1.trans e2.symm, _, _, _, _, _, _, _, _, rfl, fun _ => Good.mk (by omega) hnb ⟨inv_bed hI.1 q0 q1 q4 q5, hI.2⟩⟩)
set_option maxRecDepth 100000 in
set_option maxHeartbeats 4000000 in
theorem do_cut {sa tb : Nat → Nat} {D : va_G} {cA cL : ClassId} {l : Launch} (hst : l.stackTraces = false) {x h o : Nat} {W : va_W} (hG : Good cA cL x h o W) (p1 : Int32) : Step9 sa tb D cA cL l x h o yL_cut wsL_cut yX5_cut wsX5_cut [.int p1] W := by
  obtain ⟨a, dy, co, ti, ro, u, n, B, ch, v, nb, G, w, T, a2, dy2, co2, ti2, ro2, u2, n2, B2, ch2, v2, nb2, G2, w2, T2, mm, th, BA, GA, TA, mo, g, rfl, hn, hnb, hI⟩ := hG
  by_cases c0 : p1 < 0 ∨ ¬ p1 < nI n
  · exact stp_no (j := 1) (by decide) ⟨(Nat.le_of_ble_eq_true rfl), (Nat.le_of_ble_eq_true rfl), (Nat.le_of_ble_eq_true rfl), (Nat.le_of_ble_eq_true rfl)⟩ (L_cut_1 (x_cut_I sa tb D cA cL l x a dy co ti ro u n B ch v nb G w T a2 dy2 co2 ti2 ro2 u2 n2 B2 ch2 v2 nb2 G2 w2 T2 p1 c0 hst) rfl) (m_cut_1 sa tb D cA cL l h mm th dy co ti ro n nb B G T BA GA TA mo p1 c0 hn) (Good.mk hn hnb hI)
  · obtain ⟨k, hk, rfl⟩ := not_in (by omega) c0
    by_cases c1 : B 2 k = 0
    · exact stp_no (j := 2) (by decide) ⟨(Nat.le_of_ble_eq_true rfl), (Nat.le_of_ble_eq_true rfl), (Nat.le_of_ble_eq_true rfl), (Nat.le_of_ble_eq_true rfl)⟩ (L_cut_2 (x_cut_S sa tb D cA cL l x a dy co ti ro u n B ch v nb G w T a2 dy2 co2 ti2 ro2 u2 n2 B2 ch2 v2 nb2 G2 w2 T2 k hk hn c1 hst) rfl) (m_cut_2 sa tb D cA cL l h mm th dy co ti ro n nb B G T BA GA TA mo k hk hn c1) (Good.mk hn hnb hI)
    · exact stp_ok ⟨(Nat.le_of_ble_eq_true rfl), (Nat.le_of_ble_eq_true rfl), (Nat.le_of_ble_eq_true rfl), (Nat.le_of_ble_eq_true rfl)⟩ (L_cut_0 (c_cut sa tb D cA cL l x a dy co ti ro u n B ch v nb G w T a2 dy2 co2 ti2 ro2 u2 n2 B2 ch2 v2 nb2 G2 w2 T2 k hk hn c1) rfl (fun _ => wX_adr)) (m_cut sa tb D cA cL l h mm th dy co ti ro n nb B G T BA GA TA mo k hk hn hI c1) (fun _ => wX_adr) (fun _ => wM_adr) (fun r1 u1 r2 u2 e1 e2 => ⟨e1.trans e2.symm, _, _, _, _, _, _, _, _, rfl, fun _ => Good.mk hn hnb ⟨inv_cut hI.1, hI.2⟩⟩)
set_option maxRecDepth 100000 in
set_option maxHeartbeats 4000000 in
theorem do_tie {sa tb : Nat → Nat} {D : va_G} {cA cL : ClassId} {l : Launch} (hst : l.stackTraces = false) {x h o : Nat} {W : va_W} (hG : Good cA cL x h o W) (p1 : Int32) : Step9 sa tb D cA cL l x h o yL_tie wsL_tie yX5_tie wsX5_tie [.int p1] W := by
  obtain ⟨a, dy, co, ti, ro, u, n, B, ch, v, nb, G, w, T, a2, dy2, co2, ti2, ro2, u2, n2, B2, ch2, v2, nb2, G2, w2, T2, mm, th, BA, GA, TA, mo, g, rfl, hn, hnb, hI⟩ := hG
  by_cases c0 : p1 < 0 ∨ ¬ p1 < nI n
  · exact stp_no (j := 1) (by decide) ⟨(Nat.le_of_ble_eq_true rfl), (Nat.le_of_ble_eq_true rfl), (Nat.le_of_ble_eq_true rfl), (Nat.le_of_ble_eq_true rfl)⟩ (L_tie_1 (x_tie_I sa tb D cA cL l x a dy co ti ro u n B ch v nb G w T a2 dy2 co2 ti2 ro2 u2 n2 B2 ch2 v2 nb2 G2 w2 T2 p1 c0 hst) rfl) (m_tie_1 sa tb D cA cL l h mm th dy co ti ro n nb B G T BA GA TA mo p1 c0 hn) (Good.mk hn hnb hI)
  · obtain ⟨k, hk, rfl⟩ := not_in (by omega) c0
    exact stp_ok ⟨(Nat.le_of_ble_eq_true rfl), (Nat.le_of_ble_eq_true rfl), (Nat.le_of_ble_eq_true rfl), (Nat.le_of_ble_eq_true rfl)⟩ (L_tie_0 (c_tie sa tb D cA cL l x a dy co ti ro u n B ch v nb G w T a2 dy2 co2 ti2 ro2 u2 n2 B2 ch2 v2 nb2 G2 w2 T2 k hk hn) rfl (fun _ => wX_adr)) (m_tie sa tb D cA cL l h mm th dy co ti ro n nb B G T BA GA TA mo k hk hn) (fun _ => wX_adr) (fun _ => wM_adr) (fun r1 u1 r2 u2 e1 e2 => ⟨e1.trans e2.symm, _, _, _, _, _, _, _, _, rfl, fun _ => Good.mk hn hnb ⟨inv_tie hI.1, hI.2⟩⟩)
set_option maxRecDepth 100000 in
set_option maxHeartbeats 4000000 in
theorem do_buy {sa tb : Nat → Nat} {D : va_G} {cA cL : ClassId} {l : Launch} (hst : l.stackTraces = false) {x h o : Nat} {W : va_W} (hG : Good cA cL x h o W) (p1 : Int32) : Step9 sa tb D cA cL l x h o yL_buy wsL_buy yX5_buy wsX5_buy [.int p1] W := by
  obtain ⟨a, dy, co, ti, ro, u, n, B, ch, v, nb, G, w, T, a2, dy2, co2, ti2, ro2, u2, n2, B2, ch2, v2, nb2, G2, w2, T2, mm, th, BA, GA, TA, mo, g, rfl, hn, hnb, hI⟩ := hG
  by_cases c0 : p1 < 1 ∨ ¬ p1 ≤ 500
  · exact stp_no (j := 1) (by decide) ⟨(Nat.le_of_ble_eq_true rfl), (Nat.le_of_ble_eq_true rfl), (Nat.le_of_ble_eq_true rfl), (Nat.le_of_ble_eq_true rfl)⟩ (L_buy_1 (x_buy_A sa tb D cA cL l x a dy co ti ro u n B ch v nb G w T a2 dy2 co2 ti2 ro2 u2 n2 B2 ch2 v2 nb2 G2 w2 T2 p1 c0 hst) rfl) (m_buy_1 sa tb D cA cL l h mm th dy co ti ro n nb B G T BA GA TA mo p1 c0) (Good.mk hn hnb hI)
  · have q0 : ¬ p1 < 1 := fun q => c0 (Or.inl q)
    have q1 : p1 ≤ 500 := Classical.byContradiction fun q => c0 (Or.inr q)
    by_cases c1 : tenth p1 ≤ co
    · exact stp_ok ⟨(Nat.le_of_ble_eq_true rfl), (Nat.le_of_ble_eq_true rfl), (Nat.le_of_ble_eq_true rfl), (Nat.le_of_ble_eq_true rfl)⟩ (L_buy_0 (c_buy sa tb D cA cL l x a dy co ti ro u n B ch v nb G w T a2 dy2 co2 ti2 ro2 u2 n2 B2 ch2 v2 nb2 G2 w2 T2 p1 q0 q1 c1) rfl (fun _ => wX_adr)) (m_buy sa tb D cA cL l h mm th dy co ti ro n nb B G T BA GA TA mo p1 q0 q1 c1) (fun _ => wX_adr) (fun _ => wM_adr) (fun r1 u1 r2 u2 e1 e2 => ⟨e1.trans e2.symm, _, _, _, _, _, _, _, _, rfl, fun _ => Good.mk hn hnb hI⟩)
    · exact stp_no (j := 2) (by decide) ⟨(Nat.le_of_ble_eq_true rfl), (Nat.le_of_ble_eq_true rfl), (Nat.le_of_ble_eq_true rfl), (Nat.le_of_ble_eq_true rfl)⟩ (L_buy_2 (x_buy_S sa tb D cA cL l x a dy co ti ro u n B ch v nb G w T a2 dy2 co2 ti2 ro2 u2 n2 B2 ch2 v2 nb2 G2 w2 T2 p1 q0 q1 c1 hst) rfl) (m_buy_2 sa tb D cA cL l h mm th dy co ti ro n nb B G T BA GA TA mo p1 q0 q1 c1) (Good.mk hn hnb hI)
set_option maxRecDepth 100000 in
set_option maxHeartbeats 4000000 in
theorem do_about {sa tb : Nat → Nat} {D : va_G} {cA cL : ClassId} {l : Launch} (hst : l.stackTraces = false) {x h o : Nat} {W : va_W} (hG : Good cA cL x h o W) (p1 p2 : Int32) : Step9 sa tb D cA cL l x h o yL_about wsL_about yX5_about wsX5_about [.int p1, .int p2] W := by
  obtain ⟨a, dy, co, ti, ro, u, n, B, ch, v, nb, G, w, T, a2, dy2, co2, ti2, ro2, u2, n2, B2, ch2, v2, nb2, G2, w2, T2, mm, th, BA, GA, TA, mo, g, rfl, hn, hnb, hI⟩ := hG
  by_cases c0 : p1 < 0 ∨ ¬ p1 < nI n
  · exact stp_no (j := 1) (by decide) ⟨(Nat.le_of_ble_eq_true rfl), (Nat.le_of_ble_eq_true rfl), (Nat.le_of_ble_eq_true rfl), (Nat.le_of_ble_eq_true rfl)⟩ (L_about_1 (x_about_I sa tb D cA cL l x a dy co ti ro u n B ch v nb G w T a2 dy2 co2 ti2 ro2 u2 n2 B2 ch2 v2 nb2 G2 w2 T2 p1 p2 c0 hst) rfl) (m_about_1 sa tb D cA cL l h mm th dy co ti ro n nb B G T BA GA TA mo p1 p2 c0 hn) (Good.mk hn hnb hI)
  · obtain ⟨k, hk, rfl⟩ := not_in (by omega) c0
    by_cases c1 : p2 < 0 ∨ ¬ p2 < 10
    · exact stp_no (j := 1) (by decide) ⟨(Nat.le_of_ble_eq_true rfl), (Nat.le_of_ble_eq_true rfl), (Nat.le_of_ble_eq_true rfl), (Nat.le_of_ble_eq_true rfl)⟩ (L_about_1 (x_about_J sa tb D cA cL l x a dy co ti ro u n B ch v nb G w T a2 dy2 co2 ti2 ro2 u2 n2 B2 ch2 v2 nb2 G2 w2 T2 k p2 hk hn c1 hst) rfl) (m_about_2 sa tb D cA cL l h mm th dy co ti ro n nb B G T BA GA TA mo k p2 hk hn c1) (Good.mk hn hnb hI)
    · obtain ⟨j, hj, rfl⟩ := not_in (n := 10) (by decide) c1
      exact stp_ok ⟨(Nat.le_of_ble_eq_true rfl), (Nat.le_of_ble_eq_true rfl), (Nat.le_of_ble_eq_true rfl), (Nat.le_of_ble_eq_true rfl)⟩ (L_about_0 (c_about sa tb D cA cL l x a dy co ti ro u n B ch v nb G w T a2 dy2 co2 ti2 ro2 u2 n2 B2 ch2 v2 nb2 G2 w2 T2 k j hk hn hj) rfl (fun _ => wX_adr)) (m_about sa tb D cA cL l h mm th dy co ti ro n nb B G T BA GA TA mo k j hk hn hI hj) (fun _ => wX_adr) (fun _ => wM_adr) (fun r1 u1 r2 u2 e1 e2 => ⟨e1.trans e2.symm, _, _, _, _, _, _, _, _, rfl, fun _ => Good.mk hn hnb hI⟩)
set_option maxRecDepth 100000 in
set_option maxHeartbeats 4000000 in
theorem do_best {sa tb : Nat → Nat} {D : va_G} {cA cL : ClassId} {l : Launch} (hst : l.stackTraces = false) {x h o : Nat} {W : va_W} (hG : Good cA cL x h o W) (p1 : Int32) : Step9 sa tb D cA cL l x h o yL_best wsL_best yX5_best wsX5_best [.int p1] W := by
  obtain ⟨a, dy, co, ti, ro, u, n, B, ch, v, nb, G, w, T, a2, dy2, co2, ti2, ro2, u2, n2, B2, ch2, v2, nb2, G2, w2, T2, mm, th, BA, GA, TA, mo, g, rfl, hn, hnb, hI⟩ := hG
  by_cases c0 : p1 < 0 ∨ ¬ p1 < nI n
  · exact stp_no (j := 1) (by decide) ⟨(Nat.le_of_ble_eq_true rfl), (Nat.le_of_ble_eq_true rfl), (Nat.le_of_ble_eq_true rfl), (Nat.le_of_ble_eq_true rfl)⟩ (L_best_1 (x_best_I sa tb D cA cL l x a dy co ti ro u n B ch v nb G w T a2 dy2 co2 ti2 ro2 u2 n2 B2 ch2 v2 nb2 G2 w2 T2 p1 c0 hst) rfl) (m_best_1 sa tb D cA cL l h mm th dy co ti ro n nb B G T BA GA TA mo p1 c0 hn) (Good.mk hn hnb hI)
  · obtain ⟨k, hk, rfl⟩ := not_in (by omega) c0
    exact stp_ok ⟨(Nat.le_of_ble_eq_true rfl), (Nat.le_of_ble_eq_true rfl), (Nat.le_of_ble_eq_true rfl), (Nat.le_of_ble_eq_true rfl)⟩ (L_best_0 (c_best sa tb D cA cL l x a dy co ti ro u n B ch v nb G w T a2 dy2 co2 ti2 ro2 u2 n2 B2 ch2 v2 nb2 G2 w2 T2 k hk hn) rfl (fun _ => wX_adr)) (m_best sa tb D cA cL l h mm th dy co ti ro n nb B G T BA GA TA mo k hk hn hI.1) (fun _ => wX_adr) (fun _ => wM_adr) (fun r1 u1 r2 u2 e1 e2 => ⟨e1.trans ((best_same hn hk B B2 BA).trans e2.symm), _, _, _, _, _, _, _, _, rfl, fun _ => Good.mk hn hnb hI⟩)
set_option maxRecDepth 100000 in
set_option maxHeartbeats 4000000 in
theorem do_barge {sa tb : Nat → Nat} {D : va_G} {cA cL : ClassId} {l : Launch} (hst : l.stackTraces = false) {x h o : Nat} {W : va_W} (hG : Good cA cL x h o W) (p1 : Int32) : Step9 sa tb D cA cL l x h o yL_barge wsL_barge yX5_barge wsX5_barge [.int p1] W := by
  obtain ⟨a, dy, co, ti, ro, u, n, B, ch, v, nb, G, w, T, a2, dy2, co2, ti2, ro2, u2, n2, B2, ch2, v2, nb2, G2, w2, T2, mm, th, BA, GA, TA, mo, g, rfl, hn, hnb, hI⟩ := hG
  by_cases c0 : p1 < 0 ∨ ¬ p1 ≤ 30
  · exact stp_no (j := 1) (by decide) ⟨(Nat.le_of_ble_eq_true rfl), (Nat.le_of_ble_eq_true rfl), (Nat.le_of_ble_eq_true rfl), (Nat.le_of_ble_eq_true rfl)⟩ (L_barge_1 (x_barge_I sa tb D cA cL l x a dy co ti ro u n B ch v nb G w T a2 dy2 co2 ti2 ro2 u2 n2 B2 ch2 v2 nb2 G2 w2 T2 p1 c0 hst) rfl) (m_barge_1 sa tb D cA cL l h mm th dy co ti ro n nb B G T BA GA TA mo p1 c0) (Good.mk hn hnb hI)
  · have q0 : ¬ p1 < 0 := fun q => c0 (Or.inl q)
    have q1 : p1 ≤ 30 := Classical.byContradiction fun q => c0 (Or.inr q)
    by_cases c1 : nb = 3
    · exact stp_no (j := 2) (by decide) ⟨(Nat.le_of_ble_eq_true rfl), (Nat.le_of_ble_eq_true rfl), (Nat.le_of_ble_eq_true rfl), (Nat.le_of_ble_eq_true rfl)⟩ (L_barge_2 (x_barge_S sa tb D cA cL l x a dy co ti ro u n B ch v nb G w T a2 dy2 co2 ti2 ro2 u2 n2 B2 ch2 v2 nb2 G2 w2 T2 p1 q0 q1 c1 hst) rfl) (m_barge_2 sa tb D cA cL l h mm th dy co ti ro n nb B G T BA GA TA mo p1 q0 q1 c1) (Good.mk hn hnb hI)
    · have c3 : nb < 3 := by omega
      exact stp_ok ⟨(Nat.le_of_ble_eq_true rfl), (Nat.le_of_ble_eq_true rfl), (Nat.le_of_ble_eq_true rfl), (Nat.le_of_ble_eq_true rfl)⟩ (L_barge_0 (c_barge sa tb D cA cL l x a dy co ti ro u n B ch v nb G w T a2 dy2 co2 ti2 ro2 u2 n2 B2 ch2 v2 nb2 G2 w2 T2 p1 q0 q1 c3) rfl (fun _ => wX_adr)) (m_barge sa tb D cA cL l h mm th dy co ti ro n nb B G T BA GA TA mo p1 q0 q1 c3) (fun _ => wX_adr) (fun _ => wM_adr) (fun r1 u1 r2 u2 e1 e2 => ⟨e1.trans e2.symm, _, _, _, _, _, _, _, _, rfl, fun _ => Good.mk hn (by omega) ⟨hI.1, inv_barge hI.2 q0 q1⟩⟩)
set_option maxRecDepth 100000 in
set_option maxHeartbeats 4000000 in
theorem do_sail {sa tb : Nat → Nat} {D : va_G} {cA cL : ClassId} {l : Launch} (hst : l.stackTraces = false) {x h o : Nat} {W : va_W} (hG : Good cA cL x h o W) (p1 p2 : Int32) : Step9 sa tb D cA cL l x h o yL_sail wsL_sail yX5_sail wsX5_sail [.int p1, .int p2] W := by
  obtain ⟨a, dy, co, ti, ro, u, n, B, ch, v, nb, G, w, T, a2, dy2, co2, ti2, ro2, u2, n2, B2, ch2, v2, nb2, G2, w2, T2, mm, th, BA, GA, TA, mo, g, rfl, hn, hnb, hI⟩ := hG
  by_cases c0 : p1 < 0 ∨ ¬ p1 < nI nb
  · exact stp_no (j := 1) (by decide) ⟨(Nat.le_of_ble_eq_true rfl), (Nat.le_of_ble_eq_true rfl), (Nat.le_of_ble_eq_true rfl), (Nat.le_of_ble_eq_true rfl)⟩ (L_sail_1 (x_sail_I sa tb D cA cL l x a dy co ti ro u n B ch v nb G w T a2 dy2 co2 ti2 ro2 u2 n2 B2 ch2 v2 nb2 G2 w2 T2 p1 p2 c0 hst) rfl) (m_sail_1 sa tb D cA cL l h mm th dy co ti ro n nb B G T BA GA TA mo p1 p2 c0 hnb) (Good.mk hn hnb hI)
  · obtain ⟨k, hk, rfl⟩ := not_in (by omega) c0
    by_cases c1 : p2 < 0 ∨ ¬ p2 ≤ 30
    · exact stp_no (j := 1) (by decide) ⟨(Nat.le_of_ble_eq_true rfl), (Nat.le_of_ble_eq_true rfl), (Nat.le_of_ble_eq_true rfl), (Nat.le_of_ble_eq_true rfl)⟩ (L_sail_1 (x_sail_J sa tb D cA cL l x a dy co ti ro u n B ch v nb G w T a2 dy2 co2 ti2 ro2 u2 n2 B2 ch2 v2 nb2 G2 w2 T2 k p2 hk hnb c1 hst) rfl) (m_sail_2 sa tb D cA cL l h mm th dy co ti ro n nb B G T BA GA TA mo k p2 hk hnb c1) (Good.mk hn hnb hI)
    · have q0 : ¬ p2 < 0 := fun q => c1 (Or.inl q)
      have q1 : p2 ≤ 30 := Classical.byContradiction fun q => c1 (Or.inr q)
      exact stp_ok ⟨(Nat.le_of_ble_eq_true rfl), (Nat.le_of_ble_eq_true rfl), (Nat.le_of_ble_eq_true rfl), (Nat.le_of_ble_eq_true rfl)⟩ (L_sail_0 (c_sail sa tb D cA cL l x a dy co ti ro u n B ch v nb G w T a2 dy2 co2 ti2 ro2 u2 n2 B2 ch2 v2 nb2 G2 w2 T2 k p2 hk hnb q0 q1) rfl (fun _ => wX_adr)) (m_sail sa tb D cA cL l h mm th dy co ti ro n nb B G T BA GA TA mo k p2 hk hnb q0 q1 (hI.2 k hk).1 (in30 q0 q1)) (fun _ => wX_adr) (fun _ => wM_adr) (fun r1 u1 r2 u2 e1 e2 => ⟨e1.trans e2.symm, _, _, _, _, _, _, _, _, rfl, fun _ => Good.mk hn hnb ⟨hI.1, inv_sail hI.2 q0 q1⟩⟩)
set_option maxRecDepth 100000 in
set_option maxHeartbeats 4000000 in
theorem do_load {sa tb : Nat → Nat} {D : va_G} {cA cL : ClassId} {l : Launch} (hst : l.stackTraces = false) {x h o : Nat} {W : va_W} (hG : Good cA cL x h o W) (p1 p2 : Int32) : Step9 sa tb D cA cL l x h o yL_load wsL_load yX5_load wsX5_load [.int p1, .int p2] W := by
  obtain ⟨a, dy, co, ti, ro, u, n, B, ch, v, nb, G, w, T, a2, dy2, co2, ti2, ro2, u2, n2, B2, ch2, v2, nb2, G2, w2, T2, mm, th, BA, GA, TA, mo, g, rfl, hn, hnb, hI⟩ := hG
  by_cases c0 : p1 < 0 ∨ ¬ p1 < nI nb
  · exact stp_no (j := 1) (by decide) ⟨(Nat.le_of_ble_eq_true rfl), (Nat.le_of_ble_eq_true rfl), (Nat.le_of_ble_eq_true rfl), (Nat.le_of_ble_eq_true rfl)⟩ (L_load_1 (x_load_I sa tb D cA cL l x a dy co ti ro u n B ch v nb G w T a2 dy2 co2 ti2 ro2 u2 n2 B2 ch2 v2 nb2 G2 w2 T2 p1 p2 c0 hst) rfl) (m_load_1 sa tb D cA cL l h mm th dy co ti ro n nb B G T BA GA TA mo p1 p2 c0 hnb) (Good.mk hn hnb hI)
  · obtain ⟨k, hk, rfl⟩ := not_in (by omega) c0
    by_cases c1 : p2 < 0 ∨ ¬ p2 < nI n
    · exact stp_no (j := 1) (by decide) ⟨(Nat.le_of_ble_eq_true rfl), (Nat.le_of_ble_eq_true rfl), (Nat.le_of_ble_eq_true rfl), (Nat.le_of_ble_eq_true rfl)⟩ (L_load_1 (x_load_J sa tb D cA cL l x a dy co ti ro u n B ch v nb G w T a2 dy2 co2 ti2 ro2 u2 n2 B2 ch2 v2 nb2 G2 w2 T2 k p2 hk hnb c1 hst) rfl) (m_load_2 sa tb D cA cL l h mm th dy co ti ro n nb B G T BA GA TA mo k p2 hk hnb c1 hn) (Good.mk hn hnb hI)
    · obtain ⟨j, hj, rfl⟩ := not_in (by omega) c1
      by_cases c2 : G 0 k = B 0 j
      · exact stp_ok ⟨(Nat.le_of_ble_eq_true rfl), (Nat.le_of_ble_eq_true rfl), (Nat.le_of_ble_eq_true rfl), (Nat.le_of_ble_eq_true rfl)⟩ (L_load_0 (c_load sa tb D cA cL l x a dy co ti ro u n B ch v nb G w T a2 dy2 co2 ti2 ro2 u2 n2 B2 ch2 v2 nb2 G2 w2 T2 k j hk hj hn hnb c2) rfl (fun _ => wX_adr)) (m_load sa tb D cA cL l h mm th dy co ti ro n nb B G T BA GA TA mo k j hk hj hn hnb c2) (fun _ => wX_adr) (fun _ => wM_adr) (fun r1 u1 r2 u2 e1 e2 => ⟨e1.trans e2.symm, _, _, _, _, _, _, _, _, rfl, fun _ => Good.mk hn hnb ⟨inv_loadB hI.1, inv_loadG hI.2⟩⟩)
      · exact stp_no (j := 2) (by decide) ⟨(Nat.le_of_ble_eq_true rfl), (Nat.le_of_ble_eq_true rfl), (Nat.le_of_ble_eq_true rfl), (Nat.le_of_ble_eq_true rfl)⟩ (L_load_2 (x_load_S sa tb D cA cL l x a dy co ti ro u n B ch v nb G w T a2 dy2 co2 ti2 ro2 u2 n2 B2 ch2 v2 nb2 G2 w2 T2 k j hk hj hn hnb c2 hst) rfl) (m_load_3 sa tb D cA cL l h mm th dy co ti ro n nb B G T BA GA TA mo k j hk hj hn hnb c2) (Good.mk hn hnb hI)
set_option maxRecDepth 100000 in
set_option maxHeartbeats 4000000 in
theorem do_sell {sa tb : Nat → Nat} {D : va_G} {cA cL : ClassId} {l : Launch} (hst : l.stackTraces = false) {x h o : Nat} {W : va_W} (hG : Good cA cL x h o W) (p1 : Int32) : Step9 sa tb D cA cL l x h o yL_sell wsL_sell yX5_sell wsX5_sell [.int p1] W := by
  obtain ⟨a, dy, co, ti, ro, u, n, B, ch, v, nb, G, w, T, a2, dy2, co2, ti2, ro2, u2, n2, B2, ch2, v2, nb2, G2, w2, T2, mm, th, BA, GA, TA, mo, g, rfl, hn, hnb, hI⟩ := hG
  by_cases c0 : p1 < 0 ∨ ¬ p1 < nI nb
  · exact stp_no (j := 1) (by decide) ⟨(Nat.le_of_ble_eq_true rfl), (Nat.le_of_ble_eq_true rfl), (Nat.le_of_ble_eq_true rfl), (Nat.le_of_ble_eq_true rfl)⟩ (L_sell_1 (x_sell_I sa tb D cA cL l x a dy co ti ro u n B ch v nb G w T a2 dy2 co2 ti2 ro2 u2 n2 B2 ch2 v2 nb2 G2 w2 T2 p1 c0 hst) rfl) (m_sell_1 sa tb D cA cL l h mm th dy co ti ro n nb B G T BA GA TA mo p1 c0 hnb) (Good.mk hn hnb hI)
  · obtain ⟨k, hk, rfl⟩ := not_in (by omega) c0
    rcases land_in (G 0 k) with c1 | ⟨j, hj, c1⟩
    · exact stp_no (j := 2) (by decide) ⟨(Nat.le_of_ble_eq_true rfl), (Nat.le_of_ble_eq_true rfl), (Nat.le_of_ble_eq_true rfl), (Nat.le_of_ble_eq_true rfl)⟩ (L_sell_2 (x_sell_S sa tb D cA cL l x a dy co ti ro u n B ch v nb G w T a2 dy2 co2 ti2 ro2 u2 n2 B2 ch2 v2 nb2 G2 w2 T2 k hk hnb c1 hst) rfl) (m_sell_2 sa tb D cA cL l h mm th dy co ti ro n nb B G T BA GA TA mo k hk hnb c1) (Good.mk hn hnb hI)
    · exact stp_ok ⟨(Nat.le_of_ble_eq_true rfl), (Nat.le_of_ble_eq_true rfl), (Nat.le_of_ble_eq_true rfl), (Nat.le_of_ble_eq_true rfl)⟩ (L_sell_0 (c_sell sa tb D cA cL l x a dy co ti ro u n B ch v nb G w T a2 dy2 co2 ti2 ro2 u2 n2 B2 ch2 v2 nb2 G2 w2 T2 k j hk hnb hj c1) rfl (fun _ => wX_adr)) (m_sell sa tb D cA cL l h mm th dy co ti ro n nb B G T BA GA TA mo k j hk hnb hj c1) (fun _ => wX_adr) (fun _ => wM_adr) (fun r1 u1 r2 u2 e1 e2 => ⟨e1.trans e2.symm, _, _, _, _, _, _, _, _, rfl, fun _ => Good.mk hn hnb ⟨hI.1, inv_sell hI.2⟩⟩)
set_option maxRecDepth 100000 in
set_option maxHeartbeats 4000000 in
theorem do_told {sa tb : Nat → Nat} {D : va_G} {cA cL : ClassId} {l : Launch} (hst : l.stackTraces = false) {x h o : Nat} {W : va_W} (hG : Good cA cL x h o W) (p1 p2 : Int32) : Step9 sa tb D cA cL l x h o yL_told wsL_told yX5_told wsX5_told [.int p1, .int p2] W := by
  obtain ⟨a, dy, co, ti, ro, u, n, B, ch, v, nb, G, w, T, a2, dy2, co2, ti2, ro2, u2, n2, B2, ch2, v2, nb2, G2, w2, T2, mm, th, BA, GA, TA, mo, g, rfl, hn, hnb, hI⟩ := hG
  by_cases c0 : p1 < 0 ∨ ¬ p1 < nI nb
  · exact stp_no (j := 1) (by decide) ⟨(Nat.le_of_ble_eq_true rfl), (Nat.le_of_ble_eq_true rfl), (Nat.le_of_ble_eq_true rfl), (Nat.le_of_ble_eq_true rfl)⟩ (L_told_1 (x_told_I sa tb D cA cL l x a dy co ti ro u n B ch v nb G w T a2 dy2 co2 ti2 ro2 u2 n2 B2 ch2 v2 nb2 G2 w2 T2 p1 p2 c0 hst) rfl) (m_told_1 sa tb D cA cL l h mm th dy co ti ro n nb B G T BA GA TA mo p1 p2 c0 hnb) (Good.mk hn hnb hI)
  · obtain ⟨k, hk, rfl⟩ := not_in (by omega) c0
    by_cases c1 : p2 < 0 ∨ ¬ p2 < 6
    · exact stp_no (j := 1) (by decide) ⟨(Nat.le_of_ble_eq_true rfl), (Nat.le_of_ble_eq_true rfl), (Nat.le_of_ble_eq_true rfl), (Nat.le_of_ble_eq_true rfl)⟩ (L_told_1 (x_told_J sa tb D cA cL l x a dy co ti ro u n B ch v nb G w T a2 dy2 co2 ti2 ro2 u2 n2 B2 ch2 v2 nb2 G2 w2 T2 k p2 hk hnb c1 hst) rfl) (m_told_2 sa tb D cA cL l h mm th dy co ti ro n nb B G T BA GA TA mo k p2 hk hnb c1) (Good.mk hn hnb hI)
    · obtain ⟨j, hj, rfl⟩ := not_in (n := 6) (by decide) c1
      exact stp_ok ⟨(Nat.le_of_ble_eq_true rfl), (Nat.le_of_ble_eq_true rfl), (Nat.le_of_ble_eq_true rfl), (Nat.le_of_ble_eq_true rfl)⟩ (L_told_0 (c_told sa tb D cA cL l x a dy co ti ro u n B ch v nb G w T a2 dy2 co2 ti2 ro2 u2 n2 B2 ch2 v2 nb2 G2 w2 T2 k j hk hnb hj) rfl (fun _ => wX_adr)) (m_told sa tb D cA cL l h mm th dy co ti ro n nb B G T BA GA TA mo k j hk hnb hj) (fun _ => wX_adr) (fun _ => wM_adr) (fun r1 u1 r2 u2 e1 e2 => ⟨e1.trans e2.symm, _, _, _, _, _, _, _, _, rfl, fun _ => Good.mk hn hnb hI⟩)
set_option maxRecDepth 100000 in
set_option maxHeartbeats 4000000 in
theorem do_landing {sa tb : Nat → Nat} {D : va_G} {cA cL : ClassId} {l : Launch} (hst : l.stackTraces = false) {x h o : Nat} {W : va_W} (hG : Good cA cL x h o W) (p1 p2 : Int32) : Step9 sa tb D cA cL l x h o yL_landing wsL_landing yX5_landing wsX5_landing [.int p1, .int p2] W := by
  obtain ⟨a, dy, co, ti, ro, u, n, B, ch, v, nb, G, w, T, a2, dy2, co2, ti2, ro2, u2, n2, B2, ch2, v2, nb2, G2, w2, T2, mm, th, BA, GA, TA, mo, g, rfl, hn, hnb, hI⟩ := hG
  by_cases c0 : p1 < 0 ∨ ¬ p1 < 3
  · exact stp_no (j := 1) (by decide) ⟨(Nat.le_of_ble_eq_true rfl), (Nat.le_of_ble_eq_true rfl), (Nat.le_of_ble_eq_true rfl), (Nat.le_of_ble_eq_true rfl)⟩ (L_landing_1 (x_landing_I sa tb D cA cL l x a dy co ti ro u n B ch v nb G w T a2 dy2 co2 ti2 ro2 u2 n2 B2 ch2 v2 nb2 G2 w2 T2 p1 p2 c0 hst) rfl) (m_landing_1 sa tb D cA cL l h mm th dy co ti ro n nb B G T BA GA TA mo p1 p2 c0) (Good.mk hn hnb hI)
  · obtain ⟨k, hk, rfl⟩ := not_in (n := 3) (by decide) c0
    by_cases c1 : p2 < 0 ∨ ¬ p2 < 4
    · exact stp_no (j := 1) (by decide) ⟨(Nat.le_of_ble_eq_true rfl), (Nat.le_of_ble_eq_true rfl), (Nat.le_of_ble_eq_true rfl), (Nat.le_of_ble_eq_true rfl)⟩ (L_landing_1 (x_landing_J sa tb D cA cL l x a dy co ti ro u n B ch v nb G w T a2 dy2 co2 ti2 ro2 u2 n2 B2 ch2 v2 nb2 G2 w2 T2 k p2 hk c1 hst) rfl) (m_landing_2 sa tb D cA cL l h mm th dy co ti ro n nb B G T BA GA TA mo k p2 hk c1) (Good.mk hn hnb hI)
    · obtain ⟨j, hj, rfl⟩ := not_in (n := 4) (by decide) c1
      exact stp_ok ⟨(Nat.le_of_ble_eq_true rfl), (Nat.le_of_ble_eq_true rfl), (Nat.le_of_ble_eq_true rfl), (Nat.le_of_ble_eq_true rfl)⟩ (L_landing_0 (c_landing sa tb D cA cL l x a dy co ti ro u n B ch v nb G w T a2 dy2 co2 ti2 ro2 u2 n2 B2 ch2 v2 nb2 G2 w2 T2 k j hk hj) rfl (fun _ => wX_adr)) (m_landing sa tb D cA cL l h mm th dy co ti ro n nb B G T BA GA TA mo k j hk hj) (fun _ => wX_adr) (fun _ => wM_adr) (fun r1 u1 r2 u2 e1 e2 => ⟨e1.trans e2.symm, _, _, _, _, _, _, _, _, rfl, fun _ => Good.mk hn hnb hI⟩)
set_option maxRecDepth 100000 in
set_option maxHeartbeats 4000000 in
theorem do_would {sa tb : Nat → Nat} {D : va_G} {cA cL : ClassId} {l : Launch} (hst : l.stackTraces = false) {x h o : Nat} {W : va_W} (hG : Good cA cL x h o W) (p1 p2 : Int32) : Step9 sa tb D cA cL l x h o yL_would wsL_would yX5_would wsX5_would [.int p1, .int p2] W := by
  obtain ⟨a, dy, co, ti, ro, u, n, B, ch, v, nb, G, w, T, a2, dy2, co2, ti2, ro2, u2, n2, B2, ch2, v2, nb2, G2, w2, T2, mm, th, BA, GA, TA, mo, g, rfl, hn, hnb, hI⟩ := hG
  by_cases c0 : p1 < 0 ∨ ¬ p1 < nI nb
  · exact stp_no (j := 1) (by decide) ⟨(Nat.le_of_ble_eq_true rfl), (Nat.le_of_ble_eq_true rfl), (Nat.le_of_ble_eq_true rfl), (Nat.le_of_ble_eq_true rfl)⟩ (L_would_1 (x_would_I sa tb D cA cL l x a dy co ti ro u n B ch v nb G w T a2 dy2 co2 ti2 ro2 u2 n2 B2 ch2 v2 nb2 G2 w2 T2 p1 p2 c0 hst) rfl) (m_would_1 sa tb D cA cL l h mm th dy co ti ro n nb B G T BA GA TA mo p1 p2 c0 hnb) (Good.mk hn hnb hI)
  · obtain ⟨k, hk, rfl⟩ := not_in (by omega) c0
    by_cases c1 : p2 < 0 ∨ ¬ p2 < 3
    · exact stp_no (j := 1) (by decide) ⟨(Nat.le_of_ble_eq_true rfl), (Nat.le_of_ble_eq_true rfl), (Nat.le_of_ble_eq_true rfl), (Nat.le_of_ble_eq_true rfl)⟩ (L_would_1 (x_would_J sa tb D cA cL l x a dy co ti ro u n B ch v nb G w T a2 dy2 co2 ti2 ro2 u2 n2 B2 ch2 v2 nb2 G2 w2 T2 k p2 hk hnb c1 hst) rfl) (m_would_2 sa tb D cA cL l h mm th dy co ti ro n nb B G T BA GA TA mo k p2 hk hnb c1) (Good.mk hn hnb hI)
    · obtain ⟨j, hj, rfl⟩ := not_in (n := 3) (by decide) c1
      exact stp_ok ⟨(Nat.le_of_ble_eq_true rfl), (Nat.le_of_ble_eq_true rfl), (Nat.le_of_ble_eq_true rfl), (Nat.le_of_ble_eq_true rfl)⟩ (L_would_0 (c_would sa tb D cA cL l x a dy co ti ro u n B ch v nb G w T a2 dy2 co2 ti2 ro2 u2 n2 B2 ch2 v2 nb2 G2 w2 T2 k j hk hj hn hnb (hI.2 k hk).1) rfl (fun _ => wX_adr)) (m_would sa tb D cA cL l h mm th dy co ti ro n nb B G T BA GA TA mo k j hk hj hnb (hI.2 k hk).1) (fun _ => wX_adr) (fun _ => wM_adr) (fun r1 u1 r2 u2 e1 e2 => ⟨e1.trans e2.symm, _, _, _, _, _, _, _, _, rfl, fun _ => Good.mk hn hnb hI⟩)
set_option maxRecDepth 100000 in
set_option maxHeartbeats 4000000 in
theorem do_advise {sa tb : Nat → Nat} {D : va_G} {cA cL : ClassId} {l : Launch} (hst : l.stackTraces = false) {x h o : Nat} {W : va_W} (hG : Good cA cL x h o W) (p1 : Int32) : Step9 sa tb D cA cL l x h o yL_advise wsL_advise yX5_advise wsX5_advise [.int p1] W := by
  obtain ⟨a, dy, co, ti, ro, u, n, B, ch, v, nb, G, w, T, a2, dy2, co2, ti2, ro2, u2, n2, B2, ch2, v2, nb2, G2, w2, T2, mm, th, BA, GA, TA, mo, g, rfl, hn, hnb, hI⟩ := hG
  by_cases c0 : p1 < 0 ∨ ¬ p1 < nI nb
  · exact stp_no (j := 1) (by decide) ⟨(Nat.le_of_ble_eq_true rfl), (Nat.le_of_ble_eq_true rfl), (Nat.le_of_ble_eq_true rfl), (Nat.le_of_ble_eq_true rfl)⟩ (L_advise_1 (x_advise_I sa tb D cA cL l x a dy co ti ro u n B ch v nb G w T a2 dy2 co2 ti2 ro2 u2 n2 B2 ch2 v2 nb2 G2 w2 T2 p1 c0 hst) rfl) (m_advise_1 sa tb D cA cL l h mm th dy co ti ro n nb B G T BA GA TA mo p1 c0 hnb) (Good.mk hn hnb hI)
  · obtain ⟨k, hk, rfl⟩ := not_in (by omega) c0
    exact stp_ok ⟨(Nat.le_of_ble_eq_true rfl), (Nat.le_of_ble_eq_true rfl), (Nat.le_of_ble_eq_true rfl), (Nat.le_of_ble_eq_true rfl)⟩ (L_advise_0 (c_advise sa tb D cA cL l x a dy co ti ro u n B ch v nb G w T a2 dy2 co2 ti2 ro2 u2 n2 B2 ch2 v2 nb2 G2 w2 T2 k hk hn hnb (hI.2 k hk).1) rfl (fun _ => wX_adr)) (m_advise sa tb D cA cL l h mm th dy co ti ro n nb B G T BA GA TA mo k hk hnb (hI.2 k hk).1) (fun _ => wX_adr) (fun _ => wM_adr) (fun r1 u1 r2 u2 e1 e2 => ⟨e1.trans e2.symm, _, _, _, _, _, _, _, _, rfl, fun _ => Good.mk hn hnb hI⟩)
set_option maxRecDepth 100000 in
set_option maxHeartbeats 4000000 in
theorem do_count {sa tb : Nat → Nat} {D : va_G} {cA cL : ClassId} {l : Launch} (hst : l.stackTraces = false) {x h o : Nat} {W : va_W} (hG : Good cA cL x h o W) (p1 : Int32) : Step9 sa tb D cA cL l x h o yL_count wsL_count yX5_count wsX5_count [.int p1] W := by
  obtain ⟨a, dy, co, ti, ro, u, n, B, ch, v, nb, G, w, T, a2, dy2, co2, ti2, ro2, u2, n2, B2, ch2, v2, nb2, G2, w2, T2, mm, th, BA, GA, TA, mo, g, rfl, hn, hnb, hI⟩ := hG
  by_cases c0 : p1 < 0 ∨ ¬ p1 < 11
  · exact stp_no (j := 1) (by decide) ⟨(Nat.le_of_ble_eq_true rfl), (Nat.le_of_ble_eq_true rfl), (Nat.le_of_ble_eq_true rfl), (Nat.le_of_ble_eq_true rfl)⟩ (L_count_1 (x_count_I sa tb D cA cL l x a dy co ti ro u n B ch v nb G w T a2 dy2 co2 ti2 ro2 u2 n2 B2 ch2 v2 nb2 G2 w2 T2 p1 c0 hst) rfl) (m_count_1 sa tb D cA cL l h mm th dy co ti ro n nb B G T BA GA TA mo p1 c0) (Good.mk hn hnb hI)
  · obtain ⟨j, hj, rfl⟩ := not_in (n := 11) (by decide) c0
    exact stp_ok ⟨(Nat.le_of_ble_eq_true rfl), (Nat.le_of_ble_eq_true rfl), (Nat.le_of_ble_eq_true rfl), (Nat.le_of_ble_eq_true rfl)⟩ (L_count_0 (c_count sa tb D cA cL l x a dy co ti ro u n B ch v nb G w T a2 dy2 co2 ti2 ro2 u2 n2 B2 ch2 v2 nb2 G2 w2 T2 j hn hnb hj) rfl (fun _ => wX_adr)) (m_count sa tb D cA cL l h mm th dy co ti ro n nb B G T BA GA TA mo j hn hnb hI hj) (fun _ => wX_adr) (fun _ => wM_adr) (fun r1 u1 r2 u2 e1 e2 => ⟨e1.trans e2.symm, _, _, _, _, _, _, _, _, rfl, fun _ => Good.mk hn hnb hI⟩)
set_option maxRecDepth 100000 in
set_option maxHeartbeats 4000000 in
theorem do_pass {sa tb : Nat → Nat} {D : va_G} {cA cL : ClassId} {l : Launch} (hst : l.stackTraces = false) {x h o : Nat} {W : va_W} (hG : Good cA cL x h o W) (p1 : Int32) : Step9 sa tb D cA cL l x h o yL_pass wsL_pass yX5_pass_ wsX5_pass_ [.int p1] W := by
  obtain ⟨a, dy, co, ti, ro, u, n, B, ch, v, nb, G, w, T, a2, dy2, co2, ti2, ro2, u2, n2, B2, ch2, v2, nb2, G2, w2, T2, mm, th, BA, GA, TA, mo, g, rfl, hn, hnb, hI⟩ := hG
  by_cases c0 : p1 < 1 ∨ ¬ p1 ≤ 200
  · exact stp_no (j := 1) (by decide) ⟨(Nat.le_of_ble_eq_true rfl), (Nat.le_of_ble_eq_true rfl), (Nat.le_of_ble_eq_true rfl), (Nat.le_of_ble_eq_true rfl)⟩ (L_pass_1 (x_pass_A sa tb D cA cL l x a dy co ti ro u n B ch v nb G w T a2 dy2 co2 ti2 ro2 u2 n2 B2 ch2 v2 nb2 G2 w2 T2 p1 c0 hst) rfl) (m_pass_1 sa tb D cA cL l h mm th dy co ti ro n nb B G T BA GA TA mo p1 c0) (Good.mk hn hnb hI)
  · obtain ⟨d, h0, h1, rfl⟩ := in_days c0
    exact stp_ok ⟨(Nat.le_of_ble_eq_true rfl), (Nat.le_of_ble_eq_true rfl), (Nat.le_of_ble_eq_true rfl), (Nat.le_of_ble_eq_true rfl)⟩ (L_pass_0 (c_pass sa tb D cA cL l x a dy co ti ro u n B ch v nb G w T a2 dy2 co2 ti2 ro2 u2 n2 B2 ch2 v2 nb2 G2 w2 T2 d hn hnb h0 h1) rfl (fun _ => wX_adr)) (m_pass_ sa tb D cA cL l h mm th dy co ti ro n nb B G T BA GA TA mo d hn hnb hI h0 h1) (fun _ => wX_adr) (fun _ => wM_adr) (fun r1 u1 r2 u2 e1 e2 => ⟨e1.trans e2.symm, _, _, _, _, _, _, _, _, rfl, fun _ => Good.mk hn hnb (days_inv (x := (dy, ro, B, G, T)) hI.1 hI.2 d)⟩)
set_option maxRecDepth 100000 in
set_option maxHeartbeats 4000000 in
theorem do_foresee {sa tb : Nat → Nat} {D : va_G} {cA cL : ClassId} {l : Launch} (hst : l.stackTraces = false) {x h o : Nat} {W : va_W} (hG : Good cA cL x h o W) (p1 p2 : Int32) : Step9 sa tb D cA cL l x h o yL_foresee wsL_foresee yX5_foresee wsX5_foresee [.int p1, .int p2] W := by
  obtain ⟨a, dy, co, ti, ro, u, n, B, ch, v, nb, G, w, T, a2, dy2, co2, ti2, ro2, u2, n2, B2, ch2, v2, nb2, G2, w2, T2, mm, th, BA, GA, TA, mo, g, rfl, hn, hnb, hI⟩ := hG
  by_cases c0 : p1 < 1 ∨ ¬ p1 ≤ 200
  · exact stp_no (j := 1) (by decide) ⟨(Nat.le_of_ble_eq_true rfl), (Nat.le_of_ble_eq_true rfl), (Nat.le_of_ble_eq_true rfl), (Nat.le_of_ble_eq_true rfl)⟩ (L_foresee_1 (x_foresee_A sa tb D cA cL l x a dy co ti ro u n B ch v nb G w T a2 dy2 co2 ti2 ro2 u2 n2 B2 ch2 v2 nb2 G2 w2 T2 p1 p2 c0 hst) rfl) (m_foresee_1 sa tb D cA cL l h mm th dy co ti ro n nb B G T BA GA TA mo p1 p2 c0) (Good.mk hn hnb hI)
  · obtain ⟨d, h0, h1, rfl⟩ := in_days c0
    by_cases c1 : ¬ p2 = 4 ∧ ¬ p2 = 5 ∧ ¬ p2 = 9 ∧ ¬ p2 = 10
    · exact stp_no (j := 2) (by decide) ⟨(Nat.le_of_ble_eq_true rfl), (Nat.le_of_ble_eq_true rfl), (Nat.le_of_ble_eq_true rfl), (Nat.le_of_ble_eq_true rfl)⟩ (L_foresee_2 (x_foresee_I sa tb D cA cL l x a dy co ti ro u n B ch v nb G w T a2 dy2 co2 ti2 ro2 u2 n2 B2 ch2 v2 nb2 G2 w2 T2 d p2 h0 h1 c1 hst) rfl) (m_foresee_2 sa tb D cA cL l h mm th dy co ti ro n nb B G T BA GA TA mo d p2 h0 h1 c1) (Good.mk hn hnb hI)
    · obtain ⟨q, hq, rfl⟩ : ∃ q : Nat, (q = 4 ∨ q = 5 ∨ q = 9 ∨ q = 10) ∧ p2 = nI q := by
        by_cases d0 : p2 = 4
        · exact ⟨4, Or.inl rfl, d0⟩
        · by_cases d1 : p2 = 5
          · exact ⟨5, Or.inr (Or.inl rfl), d1⟩
          · by_cases d2 : p2 = 9
            · exact ⟨9, Or.inr (Or.inr (Or.inl rfl)), d2⟩
            · by_cases d3 : p2 = 10
              · exact ⟨10, Or.inr (Or.inr (Or.inr rfl)), d3⟩
              · exact absurd ⟨d0, d1, d2, d3⟩ c1
      exact stp_ok ⟨(Nat.le_of_ble_eq_true rfl), (Nat.le_of_ble_eq_true rfl), (Nat.le_of_ble_eq_true rfl), (Nat.le_of_ble_eq_true rfl)⟩ (L_foresee_0 (c_foresee sa tb D cA cL l x a dy co ti ro u n B ch v nb G w T a2 dy2 co2 ti2 ro2 u2 n2 B2 ch2 v2 nb2 G2 w2 T2 d q hn hnb h0 h1 hq) rfl (fun _ => wX_adr)) (m_foresee sa tb D cA cL l h mm th dy co ti ro n nb B G T BA GA TA mo d q hn hnb hI h0 h1 hq) (fun _ => wX_adr) (fun _ => wM_adr) (fun r1 u1 r2 u2 e1 e2 => ⟨e1.trans ((fore_same hn hq).trans e2.symm), _, _, _, _, _, _, _, _, rfl, fun _ => Good.mk hn hnb hI⟩)
