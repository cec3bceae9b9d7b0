set_option maxRecDepth 100000 in
set_option maxHeartbeats 4000000 in
theorem J_13 {p : Program} {l : Launch} {e : Env} {s : State} {m : MethodId} {below : List Frame} {meth : Method} {c : Code} {Q : State → Prop} {sa : Nat × Nat × (Nat → Int32)} {tb : Nat → Nat} {D : va_G} {cA cL : ClassId} {A : Nat → Prop} {x i : Nat} {cu dy co ti ro : Int32} {B G : Nat → Nat → Int32} {T : Nat → Int32}  (C : LawC p s m c sa tb D cA cL A) (h16 : i ≤ 16) (K1 : 16 ≤ i → KT p l e s m below meth c Q sa D cA A x 601 (lvT sa x cu ti i) dy co ti ro B G T) (K2 : ¬ 16 ≤ i → KT p l e s m below meth c Q sa D cA A x 20 (lvT sa x cu ti i) dy co ti ro B G T) : KT p l e s m below meth c Q sa D cA A x 13 (lvT sa x cu ti i) dy co ti ro B G T := by
  obtain ⟨hx, hb, hml, hown, hts, hA, hE⟩ := id C
  intro Wd H locs ls hW hP hD hS hl
  obtain ⟨a, u, ch, v, w, a2, dy2, co2, ti2, ro2, u2, n2, B2, ch2, v2, nb2, G2, w2, T2, rfl⟩ := hW
  have hl : lv_has ls 14 [(0, .ref sa.1), (1, .ref x), (2, .int cu), (3, .int ti), (4, .int (nI i))] := hl
  refine lv_iload hx hb dL_law_13 (lv_at hl 4 rfl) ?_
  refine lv_bipush (v := 16) hx hb dL_law_15 (by decide) ?_
  refine rc_ge (tgt := 601) (a := i) (b := 16) hx hb (by omega) (by omega) dL_law_17 (by decide) (fun c_17 => ?_) (fun c_17 => ?_)
  · exact (K1 c_17) _ H locs ls ⟨_, _, _, _, _, _, _, _, _, _, _, _, _, _, _, _, _, _, _, rfl⟩ hP hD hS (lv_sub hl [0, 1, 2, 3, 4] rfl)
  · exact (K2 c_17) _ H locs ls ⟨_, _, _, _, _, _, _, _, _, _, _, _, _, _, _, _, _, _, _, rfl⟩ hP hD hS (lv_sub hl [0, 1, 2, 3, 4] rfl)
set_option maxRecDepth 100000 in
set_option maxHeartbeats 4000000 in
theorem J_595 {p : Program} {l : Launch} {e : Env} {s : State} {m : MethodId} {below : List Frame} {meth : Method} {c : Code} {Q : State → Prop} {sa : Nat × Nat × (Nat → Int32)} {tb : Nat → Nat} {D : va_G} {cA cL : ClassId} {A : Nat → Prop} {x i : Nat} {cu dy co ti ro : Int32} {B G : Nat → Nat → Int32} {T : Nat → Int32}  (C : LawC p s m c sa tb D cA cL A) (hi : i < 16) (K : KT p l e s m below meth c Q sa D cA A x 13 (lvT sa x cu ti (i + 1)) dy co ti ro B G T) : KT p l e s m below meth c Q sa D cA A x 595 (lvT sa x cu ti i) dy co ti ro B G T := by
  obtain ⟨hx, hb, hml, hown, hts, hA, hE⟩ := id C
  intro Wd H locs ls hW hP hD hS hl
  obtain ⟨a, u, ch, v, w, a2, dy2, co2, ti2, ro2, u2, n2, B2, ch2, v2, nb2, G2, w2, T2, rfl⟩ := hW
  have hl : lv_has ls 14 [(0, .ref sa.1), (1, .ref x), (2, .int cu), (3, .int ti), (4, .int (nI i))] := hl
  refine lv_iinc (v := (nI (i + 1))) (lv' := [(4, .int (nI (i + 1))), (0, .ref sa.1), (1, .ref x), (2, .int cu), (3, .int ti)]) (k := 4) hx hb dL_law_595 hl rfl (iinc1 _) (by decide) rfl (fun ls hl => ?_)
  refine lv_goto (tgt := 13) hx hb dL_law_598 (by decide) ?_
  exact K _ H locs ls ⟨_, _, _, _, _, _, _, _, _, _, _, _, _, _, _, _, _, _, _, rfl⟩ hP hD hS (lv_sub hl [1, 2, 3, 4, 0] rfl)
set_option maxRecDepth 100000 in
set_option maxHeartbeats 4000000 in
/-- the law's loop -/
theorem J_loop {p : Program} {l : Launch} {e : Env} {s : State} {m : MethodId} {below : List Frame} {meth : Method} {c : Code} {Q : State → Prop} {sa : Nat × Nat × (Nat → Int32)} {tb : Nat → Nat} {D : va_G} {cA cL : ClassId} {A : Nat → Prop} {x : Nat} (C : LawC p s m c sa tb D cA cL A)
    (Kend : ∀ (i : Nat) (cu dy co ti ro : Int32) (B G : Nat → Nat → Int32) (T : Nat → Int32), KT p l e s m below meth c Q sa D cA A x 601 (lvT sa x cu ti i) dy co ti ro B G T) :
    ∀ (f i : Nat), i ≤ 16 → 16 ≤ i + f → ∀ (cu dy co ti ro : Int32) (B G : Nat → Nat → Int32) (T : Nat → Int32), GS i cu co ti ro B G T → KT p l e s m below meth c Q sa D cA A x 13 (lvT sa x cu ti i) dy co ti ro B G T := by
  intro f
  induction f with
  | zero =>
    intro i h1 h2 cu dy co ti ro B G T hG
    exact J_13 C h1 (fun _ => Kend i cu dy co ti ro B G T) (fun h => absurd (show 16 ≤ i by omega) h)
  | succ f ih =>
    intro i h1 h2 cu dy co ti ro B G T hG
    refine J_13 C h1 (fun _ => Kend i cu dy co ti ro B G T) (fun h => ?_)
    have hi : i < 16 := Nat.lt_of_not_le h
    refine J_ask C hi hG (fun xv kb sn hk hs => ?_)
    refine J_turn C hi hk hG hs (fun cu' dy' co' ti' ro' B' G' T' hG' => ?_)
    refine J_chkA C hi hG' (J_chkB C hi hG' (J_chkC C hi hG' (J_chkD C hi hG' (J_595 C hi ?_))))
    exact ih (i + 1) (by omega) (by omega) cu' dy' co' ti' ro' B' G' T' hG'
