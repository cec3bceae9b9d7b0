/-! 19: the law's loop and its entry -/
set_option maxRecDepth 100000 in
set_option maxHeartbeats 4000000 in
/-- a turn of the loop, from its switch on -/
theorem J_turn {p : Program} {l : Launch} {e : Env} {s : State} {m : MethodId} {b : Nat} {below : List Frame} {meth : Method} {c : Code} {H : Heap} {locs : List Loc} {cells slots : Nat} {Q : State → Prop} {sa tb : Nat → Nat} {D : va_G} {cA cL : ClassId} {A : Nat → Prop} {L : Nat} {xs : Nat → Int32} {x h o i : Nat} {ls : Array Slot} {Wd : va_W} (hst : l.stackTraces = false) (hG : Good cA cL x h o Wd) (C : LawC p s m c b L xs sa tb D cA cL A) (hc : cells + 1 ≤ 1088) (hs : slots + 6 ≤ 8705) (hi : i + 3 < L) (hP : va_P D vwCl Wd H) (hD : va_D A Wd) (hS : va_S A s.heap H locs) (hl : lv_has ls 9 (lvL b x h o i)) (K : KonL p l e s m b below meth c D cA cL A x h o i (cells + 1) (slots + 6) Q) : W p l e room_1 s m #[.ref b] below meth c H locs cells slots Q (F0 m 39 ls [.int (xs i &&& 31)]) := by
  have hx := C.1
  have hb := C.2.1
  generalize xs i &&& 31 = z
  by_cases hz : z.toInt < 0 ∨ 18 < z.toInt
  · refine lv_tableOut (tgt := 1243) hx hb dL_law_39 hz (by decide) ?_
    exact W.widen (Nat.le_succ _) (Nat.le_add_right _ _) (K _ H locs ls hG hP hD hS hl)
  obtain ⟨k, hk⟩ : ∃ k : Nat, z.toInt = (k : Int) := ⟨z.toInt.toNat, by omega⟩
  have hk9 : k < 19 := by omega
  rcases (show k = 0 ∨ k = 1 ∨ k = 2 ∨ k = 3 ∨ k = 4 ∨ k = 5 ∨ k = 6 ∨ k = 7 ∨ k = 8 ∨ k = 9 ∨ k = 10 ∨ k = 11 ∨ k = 12 ∨ k = 13 ∨ k = 14 ∨ k = 15 ∨ k = 16 ∨ k = 17 ∨ k = 18 by omega) with rfl | rfl | rfl | rfl | rfl | rfl | rfl | rfl | rfl | rfl | rfl | rfl | rfl | rfl | rfl | rfl | rfl | rfl | rfl
  · exact lv_tableIn (off := 89) (tgt := 128) hx hb dL_law_39 (by omega) (by omega) (by rw [hk]; rfl) (by decide) (J_bed (do_bed hst hG (xs (i + 1)) (xs (i + 2)) (xs (i + 3))) C hc hs (by omega) hP hD hS hl K)
  · exact lv_tableIn (off := 169) (tgt := 208) hx hb dL_law_39 (by omega) (by omega) (by rw [hk]; rfl) (by decide) (J_cut (do_cut hst hG (xs (i + 1))) C hc hs (by omega) hP hD hS hl K)
  · exact lv_tableIn (off := 225) (tgt := 264) hx hb dL_law_39 (by omega) (by omega) (by rw [hk]; rfl) (by decide) (J_tie (do_tie hst hG (xs (i + 1))) C hc hs (by omega) hP hD hS hl K)
  · exact lv_tableIn (off := 281) (tgt := 320) hx hb dL_law_39 (by omega) (by omega) (by rw [hk]; rfl) (by decide) (J_buy (do_buy hst hG (xs (i + 1))) C hc hs (by omega) hP hD hS hl K)
  · exact lv_tableIn (off := 337) (tgt := 376) hx hb dL_law_39 (by omega) (by omega) (by rw [hk]; rfl) (by decide) (J_about (do_about hst hG (xs (i + 1)) (xs (i + 2))) C hc hs (by omega) hP hD hS hl K)
  · exact lv_tableIn (off := 405) (tgt := 444) hx hb dL_law_39 (by omega) (by omega) (by rw [hk]; rfl) (by decide) (J_best (do_best hst hG (xs (i + 1))) C hc hs (by omega) hP hD hS hl K)
  · exact lv_tableIn (off := 461) (tgt := 500) hx hb dL_law_39 (by omega) (by omega) (by rw [hk]; rfl) (by decide) (J_barge (do_barge hst hG (xs (i + 1))) C hc hs (by omega) hP hD hS hl K)
  · exact lv_tableIn (off := 517) (tgt := 556) hx hb dL_law_39 (by omega) (by omega) (by rw [hk]; rfl) (by decide) (J_sail (do_sail hst hG (xs (i + 1)) (xs (i + 2))) C hc hs (by omega) hP hD hS hl K)
  · exact lv_tableIn (off := 585) (tgt := 624) hx hb dL_law_39 (by omega) (by omega) (by rw [hk]; rfl) (by decide) (J_load (do_load hst hG (xs (i + 1)) (xs (i + 2))) C hc hs (by omega) hP hD hS hl K)
  · exact lv_tableIn (off := 653) (tgt := 692) hx hb dL_law_39 (by omega) (by omega) (by rw [hk]; rfl) (by decide) (J_sell (do_sell hst hG (xs (i + 1))) C hc hs (by omega) hP hD hS hl K)
  · exact lv_tableIn (off := 709) (tgt := 748) hx hb dL_law_39 (by omega) (by omega) (by rw [hk]; rfl) (by decide) (J_told (do_told hst hG (xs (i + 1)) (xs (i + 2))) C hc hs (by omega) hP hD hS hl K)
  · exact lv_tableIn (off := 777) (tgt := 816) hx hb dL_law_39 (by omega) (by omega) (by rw [hk]; rfl) (by decide) (J_landing (do_landing hst hG (xs (i + 1)) (xs (i + 2))) C hc hs (by omega) hP hD hS hl K)
  · exact lv_tableIn (off := 845) (tgt := 884) hx hb dL_law_39 (by omega) (by omega) (by rw [hk]; rfl) (by decide) (J_would (do_would hst hG (xs (i + 1)) (xs (i + 2))) C hc hs (by omega) hP hD hS hl K)
  · exact lv_tableIn (off := 913) (tgt := 952) hx hb dL_law_39 (by omega) (by omega) (by rw [hk]; rfl) (by decide) (J_advise (do_advise hst hG (xs (i + 1))) C hc hs (by omega) hP hD hS hl K)
  · exact lv_tableIn (off := 969) (tgt := 1008) hx hb dL_law_39 (by omega) (by omega) (by rw [hk]; rfl) (by decide) (J_count (do_count hst hG (xs (i + 1))) C hc hs (by omega) hP hD hS hl K)
  · exact lv_tableIn (off := 1025) (tgt := 1064) hx hb dL_law_39 (by omega) (by omega) (by rw [hk]; rfl) (by decide) (J_pass (do_pass hst hG (xs (i + 1))) C hc hs (by omega) hP hD hS hl K)
  · exact lv_tableIn (off := 1081) (tgt := 1120) hx hb dL_law_39 (by omega) (by omega) (by rw [hk]; rfl) (by decide) (J_foresee (do_foresee hst hG (xs (i + 1)) (xs (i + 2))) C hc hs (by omega) hP hD hS hl K)
  · exact lv_tableIn (off := 1149) (tgt := 1188) hx hb dL_law_39 (by omega) (by omega) (by rw [hk]; rfl) (by decide) (J_mean hG C hc hs (by omega) hP hD hS hl K)
  · exact lv_tableIn (off := 1190) (tgt := 1229) hx hb dL_law_39 (by omega) (by omega) (by rw [hk]; rfl) (by decide) (J_digest hG C hc hs (by omega) hP hD hS hl K)
theorem guard_in {i L : Nat} (hL : L ≤ 2048) (hi : i ≤ L) (h : ¬ Int32.ofNat L - 4 < nI i) : i + 3 < L := by
  by_cases h4 : L < 4
  · refine absurd ?_ h
    have hp := nI_pos' (n := i) (by omega)
    rcases (show L = 0 ∨ L = 1 ∨ L = 2 ∨ L = 3 by omega) with rfl | rfl | rfl | rfl
    · exact Int32.lt_of_lt_of_le (by decide) hp
    · exact Int32.lt_of_lt_of_le (by decide) hp
    · exact Int32.lt_of_lt_of_le (by decide) hp
    · exact Int32.lt_of_lt_of_le (by decide) hp
  · obtain ⟨M, rfl⟩ : ∃ M, L = M + 4 := ⟨L - 4, by omega⟩
    have e : Int32.ofNat (M + 4) - 4 = nI M := by
      have e1 : Int32.ofNat (M + 4) = nI M + 4 := (nI_add M 4).symm
      rw [e1, Int32.add_sub_cancel]
    rw [e] at h
    have h2 : ¬ M < i := fun q => h ((nI_ltI (by omega) (by omega)).mpr q)
    omega
set_option maxRecDepth 100000 in
set_option maxHeartbeats 4000000 in
/-- the law's loop -/
theorem J_loop {p : Program} {l : Launch} {e : Env} {s : State} {m : MethodId} {b : Nat} {below : List Frame} {meth : Method} {c : Code} {Q : State → Prop} {sa tb : Nat → Nat} {D : va_G} {cA cL : ClassId} {A : Nat → Prop} {L : Nat} {xs : Nat → Int32} {x h o : Nat} (hst : l.stackTraces = false) (C : LawC p s m c b L xs sa tb D cA cL A)
    (Kend : ∀ (H1 : Heap) (locs1 : List Loc) (ls1 : Array Slot) (cells slots : Nat), cells ≤ 1088 → slots ≤ 8705 → va_S A s.heap H1 locs1 → W p l e room_1 s m #[.ref b] below meth c H1 locs1 cells slots Q (F0 m 1249 ls1 [])) :
    ∀ (f k i : Nat), i = 4 * k → i ≤ L → L < i + f → ∀ (Wd : va_W) (H : Heap) (locs : List Loc) (ls : Array Slot), Good cA cL x h o Wd → va_P D vwCl Wd H → va_D A Wd → va_S A s.heap H locs → lv_has ls 9 (lvL b x h o i) → W p l e room_1 s m #[.ref b] below meth c H locs (48 + k) (417 + 6 * k) Q (F0 m 23 ls []) := by
  obtain ⟨hx, hb, hml, hown, hts, hX, hbl, hbA, hA, hE, hL⟩ := id C
  intro f
  induction f with
  | zero => intro k i _ h1 h2; exact absurd h2 (by omega)
  | succ f ih =>
    intro k i hik hiL hf Wd H locs ls hG hP hD hS hl
    refine lv_iload hx hb dL_law_23 (lv_at hl 4 rfl) ?_
    refine lv_aload_n hx hb dL_law_25 rfl (lv_at hl 0 rfl) ?_
    refine va_slen hx hb hX hbl hbA hS dL_law_26 ?_
    refine lv_iconst (v := 4) hx hb dL_law_27 (by decide) ?_
    refine lv_isub hx hb dL_law_28 ?_
    refine lv_icmp_gt (tgt := 1249) hx hb dL_law_29 (by decide) (fun _ => Kend H locs ls _ _ (by omega) (by omega) hS) (fun hg => ?_)
    have hi := guard_in hL hiL hg
    refine lv_aload_n hx hb dL_law_32 rfl (lv_at hl 0 rfl) ?_
    refine lv_iload hx hb dL_law_33 (lv_at hl 4 rfl) ?_
    refine va_sld hx hb hX hbl hbA hS (vp_in_nI (show i < L by omega) (by omega)) dL_law_35 ?_
    rw [nI_clamp (by omega)]
    refine lv_bipush (v := 31) hx hb dL_law_36 (by decide) ?_
    refine lv_iand hx hb dL_law_38 ?_
    refine J_turn hst hG C (by omega) (by omega) hi hP hD hS hl (fun W' H1 locs1 ls1 hG hP hD hS hl => ?_)
    refine lv_iinc (lv' := [(4, .int (nI (i + 4))), (0, .ref b), (1, .ref x), (2, .ref h), (3, .ref o)]) (k := 4) hx hb dL_law_1243 hl rfl (v := nI (i + 4)) (nI_add i 4) (by decide) rfl (fun ls hl => ?_)
    refine lv_goto (tgt := 23) hx hb dL_law_1246 (by decide) ?_
    have h9 := ih (k + 1) (i + 4) (by omega) (by omega) (by omega) W' H1 locs1 ls hG hP hD hS (lv_sub hl [1, 2, 3, 4, 0] rfl)
    rw [show 48 + (k + 1) = 48 + k + 1 from rfl, show 417 + 6 * (k + 1) = 417 + 6 * k + 6 by omega] at h9
    exact h9
