section
-- ===== PART A: goes FIRST, ahead of the names: the tables' words, and 'selects' of the private methods out of them =====
/-- a private method of a class that the tables say can be made, by its rows of tables_1 -/
def lw_okq (q : MethodName × Nat) : Prop := (q.1.cls ≠ "java/lang/invoke/MethodHandle" ∧ q.1.cls ≠ "java/lang/invoke/VarHandle") ∧ Cond.instantiable q.1.cls q.2 ∈ tables_1 ∧ Cond.privateMethod q.1 ∈ tables_1 ∧ Cond.instanceMethod q.1 ∈ tables_1
theorem lw_p0 : lw_okq (⟨"java/lang/Throwable", "fillInStackTrace", "(I)Ljava/lang/Throwable;"⟩, 6) := ⟨⟨by decide +kernel, by decide +kernel⟩, List.mem_of_getElem? (i := 284) (by decide +kernel), List.mem_of_getElem? (i := 282) (by decide +kernel), List.mem_of_getElem? (i := 283) (by decide +kernel)⟩
theorem lw_p1 : lw_okq (⟨"SedgeBarges", "needBed", "(I)V"⟩, 2) := ⟨⟨by decide +kernel, by decide +kernel⟩, List.mem_of_getElem? (i := 16) (by decide +kernel), List.mem_of_getElem? (i := 362) (by decide +kernel), List.mem_of_getElem? (i := 363) (by decide +kernel)⟩
theorem lw_p2 : lw_okq (⟨"SedgeBarges$Beds", "isCreptInto", "(I)Z"⟩, 10) := ⟨⟨by decide +kernel, by decide +kernel⟩, List.mem_of_getElem? (i := 30) (by decide +kernel), List.mem_of_getElem? (i := 428) (by decide +kernel), List.mem_of_getElem? (i := 429) (by decide +kernel)⟩
theorem lw_p3 : lw_okq (⟨"SedgeBarges", "needBarge", "(I)V"⟩, 2) := ⟨⟨by decide +kernel, by decide +kernel⟩, List.mem_of_getElem? (i := 16) (by decide +kernel), List.mem_of_getElem? (i := 459) (by decide +kernel), List.mem_of_getElem? (i := 460) (by decide +kernel)⟩
theorem lw_p4 : lw_okq (⟨"SedgeBarges$Waterway", "passDay", "()V"⟩, 7) := ⟨⟨by decide +kernel, by decide +kernel⟩, List.mem_of_getElem? (i := 24) (by decide +kernel), List.mem_of_getElem? (i := 540) (by decide +kernel), List.mem_of_getElem? (i := 541) (by decide +kernel)⟩
theorem lw_p5 : lw_okq (⟨"SedgeBargesModel", "no", "(I)I"⟩, 14) := ⟨⟨by decide +kernel, by decide +kernel⟩, List.mem_of_getElem? (i := 597) (by decide +kernel), List.mem_of_getElem? (i := 657) (by decide +kernel), List.mem_of_getElem? (i := 658) (by decide +kernel)⟩
theorem lw_p6 : lw_okq (⟨"SedgeBargesModel", "isBed", "(I)Z"⟩, 14) := ⟨⟨by decide +kernel, by decide +kernel⟩, List.mem_of_getElem? (i := 597) (by decide +kernel), List.mem_of_getElem? (i := 665) (by decide +kernel), List.mem_of_getElem? (i := 666) (by decide +kernel)⟩
theorem lw_p7 : lw_okq (⟨"SedgeBargesModel", "tieOf", "(II)I"⟩, 14) := ⟨⟨by decide +kernel, by decide +kernel⟩, List.mem_of_getElem? (i := 597) (by decide +kernel), List.mem_of_getElem? (i := 681) (by decide +kernel), List.mem_of_getElem? (i := 682) (by decide +kernel)⟩
theorem lw_p8 : lw_okq (⟨"SedgeBargesModel", "bedTold", "(II)I"⟩, 14) := ⟨⟨by decide +kernel, by decide +kernel⟩, List.mem_of_getElem? (i := 597) (by decide +kernel), List.mem_of_getElem? (i := 694) (by decide +kernel), List.mem_of_getElem? (i := 695) (by decide +kernel)⟩
theorem lw_p9 : lw_okq (⟨"SedgeBargesModel", "lookAhead", "()V"⟩, 14) := ⟨⟨by decide +kernel, by decide +kernel⟩, List.mem_of_getElem? (i := 597) (by decide +kernel), List.mem_of_getElem? (i := 702) (by decide +kernel), List.mem_of_getElem? (i := 703) (by decide +kernel)⟩
theorem lw_p10 : lw_okq (⟨"SedgeBargesModel", "endYear", "([I)V"⟩, 14) := ⟨⟨by decide +kernel, by decide +kernel⟩, List.mem_of_getElem? (i := 597) (by decide +kernel), List.mem_of_getElem? (i := 709) (by decide +kernel), List.mem_of_getElem? (i := 710) (by decide +kernel)⟩
theorem lw_p11 : lw_okq (⟨"SedgeBargesModel", "hasReedBeside", "([II)Z"⟩, 14) := ⟨⟨by decide +kernel, by decide +kernel⟩, List.mem_of_getElem? (i := 597) (by decide +kernel), List.mem_of_getElem? (i := 713) (by decide +kernel), List.mem_of_getElem? (i := 714) (by decide +kernel)⟩
theorem lw_p12 : lw_okq (⟨"SedgeBargesModel", "isBarge", "(I)Z"⟩, 14) := ⟨⟨by decide +kernel, by decide +kernel⟩, List.mem_of_getElem? (i := 597) (by decide +kernel), List.mem_of_getElem? (i := 727) (by decide +kernel), List.mem_of_getElem? (i := 728) (by decide +kernel)⟩
theorem lw_p13 : lw_okq (⟨"SedgeBargesModel", "loadOf", "(III)I"⟩, 14) := ⟨⟨by decide +kernel, by decide +kernel⟩, List.mem_of_getElem? (i := 597) (by decide +kernel), List.mem_of_getElem? (i := 738) (by decide +kernel), List.mem_of_getElem? (i := 739) (by decide +kernel)⟩
theorem lw_p14 : lw_okq (⟨"SedgeBargesModel", "aboard", "(I)I"⟩, 14) := ⟨⟨by decide +kernel, by decide +kernel⟩, List.mem_of_getElem? (i := 597) (by decide +kernel), List.mem_of_getElem? (i := 742) (by decide +kernel), List.mem_of_getElem? (i := 743) (by decide +kernel)⟩
theorem lw_p15 : lw_okq (⟨"SedgeBargesModel", "brings", "(III)I"⟩, 14) := ⟨⟨by decide +kernel, by decide +kernel⟩, List.mem_of_getElem? (i := 597) (by decide +kernel), List.mem_of_getElem? (i := 755) (by decide +kernel), List.mem_of_getElem? (i := 756) (by decide +kernel)⟩
def lw_privs_1 : List (MethodName × Nat) := [(⟨"java/lang/Throwable", "fillInStackTrace", "(I)Ljava/lang/Throwable;"⟩, 6), (⟨"SedgeBarges", "needBed", "(I)V"⟩, 2), (⟨"SedgeBarges$Beds", "isCreptInto", "(I)Z"⟩, 10), (⟨"SedgeBarges", "needBarge", "(I)V"⟩, 2), (⟨"SedgeBarges$Waterway", "passDay", "()V"⟩, 7), (⟨"SedgeBargesModel", "no", "(I)I"⟩, 14), (⟨"SedgeBargesModel", "isBed", "(I)Z"⟩, 14), (⟨"SedgeBargesModel", "tieOf", "(II)I"⟩, 14), (⟨"SedgeBargesModel", "bedTold", "(II)I"⟩, 14), (⟨"SedgeBargesModel", "lookAhead", "()V"⟩, 14), (⟨"SedgeBargesModel", "endYear", "([I)V"⟩, 14), (⟨"SedgeBargesModel", "hasReedBeside", "([II)Z"⟩, 14), (⟨"SedgeBargesModel", "isBarge", "(I)Z"⟩, 14), (⟨"SedgeBargesModel", "loadOf", "(III)I"⟩, 14), (⟨"SedgeBargesModel", "aboard", "(I)I"⟩, 14), (⟨"SedgeBargesModel", "brings", "(III)I"⟩, 14)]
theorem lw_r1 : ∀ q ∈ lw_privs_1, lw_okq q := List.forall_mem_cons.mpr ⟨lw_p0, List.forall_mem_cons.mpr ⟨lw_p1, List.forall_mem_cons.mpr ⟨lw_p2, List.forall_mem_cons.mpr ⟨lw_p3, List.forall_mem_cons.mpr ⟨lw_p4, List.forall_mem_cons.mpr ⟨lw_p5, List.forall_mem_cons.mpr ⟨lw_p6, List.forall_mem_cons.mpr ⟨lw_p7, List.forall_mem_cons.mpr ⟨lw_p8, List.forall_mem_cons.mpr ⟨lw_p9, List.forall_mem_cons.mpr ⟨lw_p10, List.forall_mem_cons.mpr ⟨lw_p11, List.forall_mem_cons.mpr ⟨lw_p12, List.forall_mem_cons.mpr ⟨lw_p13, List.forall_mem_cons.mpr ⟨lw_p14, List.forall_mem_cons.mpr ⟨lw_p15, fun _ h => absurd h List.not_mem_nil⟩⟩⟩⟩⟩⟩⟩⟩⟩⟩⟩⟩⟩⟩⟩⟩
theorem lw_p16 : lw_okq (⟨"SedgeBargesModel", "bargeTold", "(II)I"⟩, 14) := ⟨⟨by decide +kernel, by decide +kernel⟩, List.mem_of_getElem? (i := 597) (by decide +kernel), List.mem_of_getElem? (i := 771) (by decide +kernel), List.mem_of_getElem? (i := 772) (by decide +kernel)⟩
theorem lw_p17 : lw_okq (⟨"SedgeBargesModel", "landingTold", "(II)I"⟩, 14) := ⟨⟨by decide +kernel, by decide +kernel⟩, List.mem_of_getElem? (i := 597) (by decide +kernel), List.mem_of_getElem? (i := 779) (by decide +kernel), List.mem_of_getElem? (i := 780) (by decide +kernel)⟩
theorem lw_p18 : lw_okq (⟨"SedgeBargesModel", "wouldBring", "(II)I"⟩, 14) := ⟨⟨by decide +kernel, by decide +kernel⟩, List.mem_of_getElem? (i := 597) (by decide +kernel), List.mem_of_getElem? (i := 787) (by decide +kernel), List.mem_of_getElem? (i := 788) (by decide +kernel)⟩
theorem lw_p19 : lw_okq (⟨"SedgeBargesModel", "pass", "([I[I[II)I"⟩, 14) := ⟨⟨by decide +kernel, by decide +kernel⟩, List.mem_of_getElem? (i := 597) (by decide +kernel), List.mem_of_getElem? (i := 802) (by decide +kernel), List.mem_of_getElem? (i := 803) (by decide +kernel)⟩
theorem lw_p20 : lw_okq (⟨"SedgeBargesModel", "sailOn", "([II)V"⟩, 14) := ⟨⟨by decide +kernel, by decide +kernel⟩, List.mem_of_getElem? (i := 597) (by decide +kernel), List.mem_of_getElem? (i := 806) (by decide +kernel), List.mem_of_getElem? (i := 807) (by decide +kernel)⟩
theorem lw_p21 : lw_okq (⟨"SedgeBargesModel", "counted", "(I)I"⟩, 14) := ⟨⟨by decide +kernel, by decide +kernel⟩, List.mem_of_getElem? (i := 597) (by decide +kernel), List.mem_of_getElem? (i := 817) (by decide +kernel), List.mem_of_getElem? (i := 818) (by decide +kernel)⟩
theorem lw_p22 : lw_okq (⟨"SedgeBargesModel", "sum", "([II)I"⟩, 14) := ⟨⟨by decide +kernel, by decide +kernel⟩, List.mem_of_getElem? (i := 597) (by decide +kernel), List.mem_of_getElem? (i := 821) (by decide +kernel), List.mem_of_getElem? (i := 822) (by decide +kernel)⟩
theorem lw_p23 : lw_okq (⟨"SedgeBargesModel", "aboardAll", "()I"⟩, 14) := ⟨⟨by decide +kernel, by decide +kernel⟩, List.mem_of_getElem? (i := 597) (by decide +kernel), List.mem_of_getElem? (i := 825) (by decide +kernel), List.mem_of_getElem? (i := 826) (by decide +kernel)⟩
theorem lw_p24 : lw_okq (⟨"SedgeBargesModel", "summed", "([I[III)I"⟩, 14) := ⟨⟨by decide +kernel, by decide +kernel⟩, List.mem_of_getElem? (i := 597) (by decide +kernel), List.mem_of_getElem? (i := 829) (by decide +kernel), List.mem_of_getElem? (i := 830) (by decide +kernel)⟩
theorem lw_p25 : lw_okq (⟨"SedgeBargesModel", "giveAll", "([I)I"⟩, 14) := ⟨⟨by decide +kernel, by decide +kernel⟩, List.mem_of_getElem? (i := 597) (by decide +kernel), List.mem_of_getElem? (i := 833) (by decide +kernel), List.mem_of_getElem? (i := 834) (by decide +kernel)⟩
def lw_privs_2 : List (MethodName × Nat) := [(⟨"SedgeBargesModel", "bargeTold", "(II)I"⟩, 14), (⟨"SedgeBargesModel", "landingTold", "(II)I"⟩, 14), (⟨"SedgeBargesModel", "wouldBring", "(II)I"⟩, 14), (⟨"SedgeBargesModel", "pass", "([I[I[II)I"⟩, 14), (⟨"SedgeBargesModel", "sailOn", "([II)V"⟩, 14), (⟨"SedgeBargesModel", "counted", "(I)I"⟩, 14), (⟨"SedgeBargesModel", "sum", "([II)I"⟩, 14), (⟨"SedgeBargesModel", "aboardAll", "()I"⟩, 14), (⟨"SedgeBargesModel", "summed", "([I[III)I"⟩, 14), (⟨"SedgeBargesModel", "giveAll", "([I)I"⟩, 14)]
theorem lw_r2 : ∀ q ∈ lw_privs_2, lw_okq q := List.forall_mem_cons.mpr ⟨lw_p16, List.forall_mem_cons.mpr ⟨lw_p17, List.forall_mem_cons.mpr ⟨lw_p18, List.forall_mem_cons.mpr ⟨lw_p19, List.forall_mem_cons.mpr ⟨lw_p20, List.forall_mem_cons.mpr ⟨lw_p21, List.forall_mem_cons.mpr ⟨lw_p22, List.forall_mem_cons.mpr ⟨lw_p23, List.forall_mem_cons.mpr ⟨lw_p24, List.forall_mem_cons.mpr ⟨lw_p25, fun _ h => absurd h List.not_mem_nil⟩⟩⟩⟩⟩⟩⟩⟩⟩⟩
def lw_privs : List (MethodName × Nat) := lw_privs_1 ++ (lw_privs_2)
def lw_tbl : List Cond := k2_sels lw_privs ++ tables_1
theorem lw_privs_ok : ∀ q ∈ lw_privs, lw_okq q := by
  show ∀ q ∈ lw_privs_1 ++ (lw_privs_2), lw_okq q
  exact List.forall_mem_append.mpr ⟨lw_r1, lw_r2⟩
/-- the streams that the claim lets the run draw from -/
abbrev lw_cs : List Choice := [Jvm.Choice.named "NaN.bits"]
theorem lw_bits : nanBits ∈ lw_cs := by first | decide | exact List.mem_cons_self | simp [lw_cs, nanBits]
-- ===== end of PART A; then your names; then what follows =====
end
section
/-! ===== BEGIN words of one list among another's, by their places ===== -/
theorem goodIn_r {big : List Cond} (ws : List Cond) (ps : List Nat) (hp : ws = ps.filterMap (fun i => big[i]?)) (h : ws.all goodWord = true) : GoodIn big ws := by
  intro w hw
  have h1 := List.all_eq_true.mp h w hw
  rw [hp] at hw
  obtain ⟨i, -, hi⟩ := List.mem_filterMap.mp hw
  have hm : w ∈ big := by first | exact List.mem_of_getElem? hi | exact List.getElem?_mem hi
  exact ⟨hm, good_of_word h1⟩
theorem goodIn_app {big a b : List Cond} (ha : GoodIn big a) (hb : GoodIn big b) : GoodIn big (a ++ b) := fun w h => (List.mem_append.mp h).elim (ha w) (hb w)
theorem goodIn_ca {big a b : List Cond} {c : Cond} (ha : GoodIn big (c :: a)) (hb : GoodIn big b) : GoodIn big (c :: (a ++ b)) := fun w h => (List.mem_cons.mp h).elim (fun e => ha w (List.mem_cons.mpr (Or.inl e))) (fun h => (List.mem_append.mp h).elim (fun h => ha w (List.mem_cons.mpr (Or.inr h))) (hb w))
theorem goodIn_sub {big ws : List Cond} (hm : ∀ w ∈ ws, w ∈ big) (h : ws.all goodWord = true) : GoodIn big ws := fun w hw => ⟨hm w hw, good_of_word (List.all_eq_true.mp h w hw)⟩
/-! ===== END ===== -/

/-! ===== BEGIN exceptions that leave a method, and their catching by the caller (launches without stack traces) ===== -/
section VXA
/-! The laws vx_back, vx_callV, vx_callS, vx_callSW, vx_throw0, vx_throwS follow proofs of the library, with one case more: JvmDerived/Free/Laws.lean (Back.of_free), Shelf42/LK1.lean (callV, callS), Shelf/KitTraced.lean (throwNew0V, throwNewS). -/
/-- where a method has thrown q: the class by its name, the cell, what was written, the world -/
def vx_T (XC : String → State → State → Prop) (st : State) (q : Addr) (t : State) (mc ms : Nat) (free : Addr → Prop) : Prop :=
  ∃ (E : String) (ce : Cell) (L : List Loc), XC E st t ∧ t.heap[q]? = some ce ∧ ce.vm = .none ∧ st.vm.findClass E = some ce.cls ∧ st.WarmedH t.vm ∧ st.sameButNew ({ t with vm := st.vm } : State) L mc ms ∧ ∀ z ∈ L, free z.base
def vx_Q (Qc : Array Value → State → Outcome → State → Prop) (XC : String → State → State → Prop) (mc ms : Nat) (free : Addr → Prop) : Array Value → State → Outcome → State → Prop := fun a st o t =>
  (Qc a st o t ∧ ∃ L, FrameEnd st o t L mc ms ∧ ∀ q ∈ L, free q.base) ∨ ∃ q, o = .threw q ∧ vx_T XC st q t mc ms free
/-- a callee that returns or throws -/
def vx_Met (l : Launch) (y : MethodName) (ws : List Cond) (rm : Room) (Pc : Array Value → State → Prop) (Qc : Array Value → State → Outcome → State → Prop) (XC : String → State → State → Prop) (mc ms : Nat) (free : Addr → Prop) : Prop :=
  MetFree l y (headSpec ws rm) Pc (fun _ _ _ _ _ => True) (vx_Q Qc XC mc ms free)
def vx_Post (XC : String → State → State → Prop) (mc ms : Nat) (free : Addr → Prop) : Pt → Array Value → Addr → Pt → Prop := fun A a q B =>
  ∃ (g : JFrame) (mk : MethodId) (t : State) (L : List Loc) (E : String) (ce : Cell), B.U.heap = t.heap ∧ B.U.vm = t.vm ∧ XC E (A.U.calling g mk a) t ∧ t.heap[q]? = some ce ∧ ce.vm = .none ∧ A.U.vm.findClass E = some ce.cls ∧ B.locs = A.locs ++ L ∧ (∀ z ∈ L, free z.base) ∧ B.cells = A.cells + mc ∧ B.slots = A.slots + ms
def vx_Back (l : Launch) (R : Room) (p : Program) (e : Env) (below : List Frame) (s : State) (sargs : Array Value) (y : MethodName) (len W9 : Nat)
    (Pre : Pt → Array Value → Prop) (Post : Pt → Array Value → Option Value → Pt → Prop) (PostX : Pt → Array Value → Addr → Pt → Prop) : Prop :=
  ∀ (m : MethodId) (meth : Method) (c : Code) (A : Pt) (g : JFrame) (ig : Instr) (mk : MethodId) (a : Array Value),
    Stand p l e R s m sargs below meth c A.U A.locs A.cells A.slots → g.method = m → g.locals.size = c.maxLocals → decode c.code g.pc = .ok (ig, len) →
    2 * g.monitorRoom + (g.stack.map fun v => v.category).sum ≤ W9 → A.U.methodNamed? y = some mk → Pre A a →
    (∃ (v : Option Value) (B : Pt), Stand p l e R s m sargs below meth c B.U B.locs B.cells B.slots ∧ Post A a v B ∧
      Steps p.tables e below (doInvoke e (A.U.setTop g) [] mk a).1 (B.U.setTop { g with pc := g.pc + len, stack := v.toList ++ g.stack })) ∨
    (∃ (q : Addr) (B : Pt), Stand p l e R s m sargs below meth c B.U B.locs B.cells B.slots ∧ PostX A a q B ∧
      Steps p.tables e below (doInvoke e (A.U.setTop g) [] mk a).1 ((B.U.setTop g).pushFrame (.throwing q)))
section Payer
variable {l : Launch} {R : Room} {p : Program} {e : Env} {below : List Frame} {s : State} {sargs : Array Value} {y : MethodName} {len W9 : Nat}
theorem vx_back {ws : List Cond} {rm : Room} {Pc : Array Value → State → Prop} {Qc : Array Value → State → Outcome → State → Prop} {XC : String → State → State → Prop} {mc ms : Nat} {free : Addr → Prop} {bytes : ByteArray} {maxL : Nat} {ret : Option FieldType}
    (hM : vx_Met l y ws rm Pc Qc XC mc ms free) (hblind : FrameBlind Pc) (hrc : rm.cells = mc) (hrs : rm.slots = ms)
    (hframes : rm.frames + 1 ≤ R.frames) (hlocals : W9 + (maxL + 11) + rm.locals ≤ R.locals)
    (hws : ∀ w ∈ ws, ∀ a' U, s.WarmedH U.vm → w.before a' U = true) (hcode : Cond.code y bytes maxL ret ∈ ws) (hinit : ∀ a' U, s.WarmedH U.vm → (Cond.initialized y.cls).before a' U = true) :
    vx_Back l R p e below s sargs y len W9 (PreOf R mc ms Pc) (PostOf Qc mc ms free) (vx_Post XC mc ms free) := by
  intro m meth c A g ig mk a X hg hsize hdg hW hn hp
  have h1 : (headSpec ws rm).pre.before a A.U = true := atoms_intro fun w hw => hws w hw _ _ X.warmed
  have h2 : (Cond.code y bytes maxL ret).before a A.U = true := hws _ hcode _ _ X.warmed
  have h3 : (Cond.initialized y.cls).before a A.U = true := hinit _ _ X.warmed
  have h4 : A.cells + (headSpec ws rm).room.cells ≤ R.cells := by rw [show (headSpec ws rm).room.cells = mc from hrc]; exact hp.1
  have h5 : A.slots + (headSpec ws rm).room.slots ≤ R.slots := by rw [show (headSpec ws rm).room.slots = ms from hrs]; exact hp.2.1
  have hPc : Pc a (A.U.calling g mk a) := hblind _ _ _ _ hp.2.2
  obtain ⟨U, Ls, c0, s0⟩ := A
  dsimp only [Pt.U, Pt.locs, Pt.cells, Pt.slots] at h1 h2 h3 h4 h5 X hn hPc ⊢
  obtain ⟨methY, cY, hmY, hcY, -, hlY, -, -, -, -⟩ := Cond.code_spec hn h2
  obtain ⟨kY, hkY, -⟩ := className_of_methodNamed hn
  have hinitY : kY.init = .initialized := Cond.initialized_spec (findClass_of_methodNamed hn) hkY h3
  have h : At U g.method c below := by rw [hg]; exact X.here
  have hlocals9 : W9 + (maxL + 11) + (headSpec ws rm).room.locals ≤ R.locals := hlocals
  have happ : (headSpec ws rm).appliesLoose y e.platform (U.calling g mk a) = true :=
    Spec.appliesLoose_calling (g := g) h hdg hn hkY hinitY
      (X.room_calling (g := g) (R' := (headSpec ws rm).room) hsize hmY hcY hframes (by rw [hlY]; omega) h4 h5) h1
  obtain ⟨mid, hmid⟩ := h.above
  have hfr : (U.setTop g).frames = (.java g :: mid) ++ below := by rw [State.frames_setTop' g h.top, hmid]; rfl
  obtain ⟨o, s₂, hsteps, -, hend, hq⟩ := Steps.callFree hM p X.admits X.cas X.clock (acts := []) hfr happ hPc trivial
  have hq' : vx_Q Qc XC mc ms free a (U.calling g mk a) o s₂ := hq
  rw [State.frames_setTop' g h.top] at hend
  obtain ⟨g₀, hg0⟩ := Option.isSome_iff_exists.mp h.top
  obtain ⟨r, hr⟩ := State.topJava?_eq_some.mp hg0
  have hr' : (({ U with heap := s₂.heap, slotsUsed := s₂.slotsUsed } : State).setVm s₂.vm).frames = .java g₀ :: r := hr
  rcases hq' with ⟨hqc, L, hfe, hL⟩ | ⟨q, rfl, E, ce, L, hx, hce, hcv, hcl, hW₂, hsm, hL⟩
  · obtain ⟨⟨v, rfl⟩, hW₂, e2, q2, q3, q4, q5, q6⟩ := id hfe
    have e3 : s₂ = ({ (U.calling g mk a).setFrames s₂.frames with heap := s₂.heap, slotsUsed := s₂.slotsUsed } : State).setVm s₂.vm := by
      have : s₂ = ({ s₂ with vm := (U.calling g mk a).vm } : State).setVm s₂.vm := rfl
      rw [e2] at this
      exact this
    obtain ⟨c₂, i₂, len₂, hc₂, hd₂, hf₂⟩ := hend
    have hW' : U.WarmedH s₂.vm := hW₂
    have hcc : c₂ = c := by
      have h1 : s₂.code? g.method = U.code? g.method := by
        rw [State.code?_eq, State.code?_eq, hW'.alike.method?]
      exact Option.some.inj (hc₂.symm.trans (h1.trans h.code))
    subst hcc
    have hlen : len₂ = len := by rw [hdg] at hd₂; cases hd₂; rfl
    subst hlen
    have hs₂ : s₂ = (({ U with heap := s₂.heap, slotsUsed := s₂.slotsUsed } : State).setVm s₂.vm).setTop { g with pc := g.pc + len₂, stack := v.toList ++ g.stack } := by
      refine e3.trans ?_
      rw [hf₂, State.calling_eq h.top, State.setFrames_setFrames, State.setTop_of_frames _ hr', hr]
      rfl
    have hsame : U.sameButNew ({ U with heap := s₂.heap, slotsUsed := s₂.slotsUsed } : State) L mc ms := by
      refine ⟨?_, q2, q3, q4, q5, q6⟩
      obtain ⟨t, ht, -⟩ := State.frames_cons hr
      show ({ U with heap := s₂.heap, slotsUsed := s₂.slotsUsed } : State) = { U.setFrames U.frames with heap := s₂.heap, slotsUsed := s₂.slotsUsed }
      rw [State.setFrames_self ht]
    subst hg
    refine Or.inl ⟨v, ⟨(({ U with heap := s₂.heap, slotsUsed := s₂.slotsUsed } : State).setVm s₂.vm), Ls ++ L, c0 + mc, s0 + ms⟩,
      ⟨X.admits, X.cas, X.clock, X.frames, X.room, X.hears, X.method, X.code, (X.here.setHeapUsed s₂.heap s₂.slotsUsed).setVm hW'.alike, X.tail, State.WarmedH.trans X.warmed hW', X.limits, X.bytes, X.same.trans (hsame.setVm s.vm)⟩,
      ⟨g, mk, s₂, L, rfl, rfl, hqc, rfl, hL, rfl, rfl⟩, ?_⟩
    show Steps p.tables e below _ ((({ U with heap := s₂.heap, slotsUsed := s₂.slotsUsed } : State).setVm s₂.vm).setTop { g with pc := g.pc + len₂, stack := v.toList ++ g.stack })
    rw [← hs₂]
    exact hsteps
  · obtain ⟨e2, q2, q3, q4, q5, q6⟩ := id hsm
    have e3 : s₂ = ({ (U.calling g mk a).setFrames s₂.frames with heap := s₂.heap, slotsUsed := s₂.slotsUsed } : State).setVm s₂.vm := by
      have : s₂ = ({ s₂ with vm := (U.calling g mk a).vm } : State).setVm s₂.vm := rfl
      rw [e2] at this
      exact this
    have hf₂ : s₂.frames = .throwing q :: .java g :: U.frames.tail := hend
    have hW' : U.WarmedH s₂.vm := hW₂
    have hs₂ : s₂ = ((({ U with heap := s₂.heap, slotsUsed := s₂.slotsUsed } : State).setVm s₂.vm).setTop g).pushFrame (.throwing q) := by
      refine e3.trans ?_
      rw [hf₂, State.calling_eq h.top, State.setFrames_setFrames, State.pushFrame, State.frames_setTop _ hr', State.setTop_of_frames _ hr', State.setFrames_setFrames, hr]
      rfl
    have hsame : U.sameButNew ({ U with heap := s₂.heap, slotsUsed := s₂.slotsUsed } : State) L mc ms := by
      refine ⟨?_, q2, q3, q4, q5, q6⟩
      obtain ⟨t, ht, -⟩ := State.frames_cons hr
      show ({ U with heap := s₂.heap, slotsUsed := s₂.slotsUsed } : State) = { U.setFrames U.frames with heap := s₂.heap, slotsUsed := s₂.slotsUsed }
      rw [State.setFrames_self ht]
    subst hg
    refine Or.inr ⟨q, ⟨(({ U with heap := s₂.heap, slotsUsed := s₂.slotsUsed } : State).setVm s₂.vm), Ls ++ L, c0 + mc, s0 + ms⟩,
      ⟨X.admits, X.cas, X.clock, X.frames, X.room, X.hears, X.method, X.code, (X.here.setHeapUsed s₂.heap s₂.slotsUsed).setVm hW'.alike, X.tail, State.WarmedH.trans X.warmed hW', X.limits, X.bytes, X.same.trans (hsame.setVm s.vm)⟩,
      ⟨g, mk, s₂, L, E, ce, rfl, rfl, hx, hce, hcv, hcl, rfl, hL, rfl, rfl⟩, ?_⟩
    show Steps p.tables e below _ (((({ U with heap := s₂.heap, slotsUsed := s₂.slotsUsed } : State).setVm s₂.vm).setTop g).pushFrame (.throwing q))
    rw [← hs₂]
    exact hsteps
end Payer
section Calls
variable {p : Program} {l : Launch} {e : Env} {R : Room} {s : State} {m : MethodId} {args : Array Value} {below : List Frame} {meth : Method} {c : Code} {T : State} {locs : List Loc} {cells slots : Nat}
theorem vx_callV (X : Stand p l e R s m args below meth c T locs cells slots) (hexec : p.tables.exec = Jvm.exec) {own C : String} {index : Nat} {y : MethodName} {bytes : ByteArray} {maxL : Nat} {ret : Option FieldType}
    (hown : s.vm.findClass own = some m.cls) (hlink : (Cond.methodLink own index y).before args s = true) (hinst : (Cond.instanceMethod y).before args s = true) (hsel : (Cond.selects C y y).before args s = true)
    (hcode : (Cond.code y bytes maxL ret).before args s = true) (hy : y.cls ≠ "java/lang/invoke/MethodHandle" ∧ y.cls ≠ "java/lang/invoke/VarHandle")
    {W9 : Nat} {Pre : Pt → Array Value → Prop} {Post : Pt → Array Value → Option Value → Pt → Prop} {PostX : Pt → Array Value → Addr → Pt → Prop} (hK : vx_Back l R p e below s args y 3 W9 Pre Post PostX)
    {b : Addr} {cellB : Cell} (hcell : T.heap[b]? = some cellB) (hobj : cellB.vm.isStatics = false) (hcls : s.vm.findClass C = some cellB.cls)
    {g : JFrame} (hg : g.method = m) (hsize : g.locals.size = c.maxLocals) {argsL rest : List Value} (hlen : ∀ sig, parseMethodDescriptor y.desc = some sig → argsL.length = sig.parameters.length)
    (hstack : g.stack = argsL.reverse ++ .ref b :: rest) (hW : 2 * g.monitorRoom + (rest.map fun v => v.category).sum ≤ W9) (hdg : decode c.code g.pc = .ok (.invokevirtual index, 3))
    (hpre : ∀ vm₁, s.WarmedH vm₁ → Pre ⟨T.setVm vm₁, locs, cells, slots⟩ (Value.ref b :: argsL).toArray) :
    (∃ (v : Option Value) (vm₁ : Vm) (B : Pt), s.WarmedH vm₁ ∧ Stand p l e R s m args below meth c B.U B.locs B.cells B.slots ∧ Post ⟨T.setVm vm₁, locs, cells, slots⟩ (Value.ref b :: argsL).toArray v B ∧
      ∀ target, Steps p.tables e below (B.U.setTop { g with pc := g.pc + 3, stack := v.toList ++ rest }) target → Steps p.tables e below (T.setTop g) target) ∨
    (∃ (q : Addr) (vm₁ : Vm) (B : Pt), s.WarmedH vm₁ ∧ Stand p l e R s m args below meth c B.U B.locs B.cells B.slots ∧ PostX ⟨T.setVm vm₁, locs, cells, slots⟩ (Value.ref b :: argsL).toArray q B ∧
      Steps p.tables e below (T.setTop g) ((B.U.setTop { g with stack := rest }).pushFrame (.throwing q))) := by
  obtain ⟨mk, methM, hnamed, hmethM, hstM, habM⟩ := Cond.instanceMethod_spec hinst
  obtain ⟨methM', cM, hmethM', -, -, -, -, -, -, hsigM⟩ := Cond.code_spec hnamed hcode
  cases hmethM.symm.trans hmethM'
  obtain ⟨c2, r2, m2, q1, q2, q3, q4, kP, hkP, hkPi⟩ := Cond.selects_spec hsel
  cases hcls.symm.trans q1
  cases (State.methodFound?_of_named hnamed hy).symm.trans q2
  cases hnamed.symm.trans q3
  have hselP : selectMethod e.platform s.vm cellB.cls mk = .method mk := by rw [Launch.admits_selectMethod X.admits]; exact q4
  obtain ⟨vm₁, X₁, hstep₁⟩ := X.invokevirtual hexec hown hlink hnamed hmethM hstM hkP hkPi hy (a := b) (cell := cellB) hcell
    (fun z h => by rw [h] at hobj; cases hobj) hselP hmethM habM hkP hkPi (g := g) hg (argsL := argsL) (rest := rest) (hlen _ hsigM) hstack hdg
  rcases hK m meth c ⟨T.setVm vm₁, locs, cells, slots⟩ { g with stack := rest } (.invokevirtual index) mk (Value.ref b :: argsL).toArray X₁ hg hsize hdg hW (X₁.named hnamed) (hpre vm₁ X₁.warmed) with ⟨v, B, X', hpost, hsteps⟩ | ⟨q, B, X', hpost, hsteps⟩
  · exact Or.inl ⟨v, vm₁, B, X₁.warmed, X', hpost, fun target h => hstep₁ _ fun acts => by rw [doInvoke_state]; exact hsteps.trans h⟩
  · exact Or.inr ⟨q, vm₁, B, X₁.warmed, X', hpost, hstep₁ _ fun acts => by rw [doInvoke_state]; exact hsteps⟩
theorem vx_callS (X : Stand p l e R s m args below meth c T locs cells slots) (hexec : p.tables.exec = Jvm.exec) {own : String} {index : Nat} {y : MethodName} {bytes : ByteArray} {maxL : Nat} {ret : Option FieldType}
    (hown : s.vm.findClass own = some m.cls) (hlink : (Cond.methodLink own index y).before args s = true) (hstat : (Cond.static y).before args s = true) (hinit : (Cond.initialized y.cls).before args s = true)
    (hcode : (Cond.code y bytes maxL ret).before args s = true) (hy : y.cls ≠ "java/lang/invoke/MethodHandle" ∧ y.cls ≠ "java/lang/invoke/VarHandle")
    {W9 : Nat} {Pre : Pt → Array Value → Prop} {Post : Pt → Array Value → Option Value → Pt → Prop} {PostX : Pt → Array Value → Addr → Pt → Prop} (hK : vx_Back l R p e below s args y 3 W9 Pre Post PostX)
    {g : JFrame} (hg : g.method = m) (hsize : g.locals.size = c.maxLocals) {argsL rest : List Value} (hlen : ∀ sig, parseMethodDescriptor y.desc = some sig → argsL.length = sig.parameters.length)
    (hstack : g.stack = argsL.reverse ++ rest) (hW : 2 * g.monitorRoom + (rest.map fun v => v.category).sum ≤ W9) (hdg : decode c.code g.pc = .ok (.invokestatic index, 3))
    (hpre : ∀ vm₁, s.WarmedH vm₁ → Pre ⟨T.setVm vm₁, locs, cells, slots⟩ argsL.toArray) :
    (∃ (v : Option Value) (vm₁ : Vm) (B : Pt), s.WarmedH vm₁ ∧ Stand p l e R s m args below meth c B.U B.locs B.cells B.slots ∧ Post ⟨T.setVm vm₁, locs, cells, slots⟩ argsL.toArray v B ∧
      ∀ target, Steps p.tables e below (B.U.setTop { g with pc := g.pc + 3, stack := v.toList ++ rest }) target → Steps p.tables e below (T.setTop g) target) ∨
    (∃ (q : Addr) (vm₁ : Vm) (B : Pt), s.WarmedH vm₁ ∧ Stand p l e R s m args below meth c B.U B.locs B.cells B.slots ∧ PostX ⟨T.setVm vm₁, locs, cells, slots⟩ argsL.toArray q B ∧
      Steps p.tables e below (T.setTop g) ((B.U.setTop { g with stack := rest }).pushFrame (.throwing q))) := by
  obtain ⟨mk, hnamed⟩ := Cond.code_named hcode
  obtain ⟨methM, cM, hmethM, -, -, -, -, -, -, hsigM⟩ := Cond.code_spec hnamed hcode
  have hstatic : methM.isStatic = true := Cond.static_spec hnamed hmethM hstat
  obtain ⟨kP, hkP, -⟩ := className_of_methodNamed hnamed
  have hinitP : kP.init = .initialized := Cond.initialized_spec (findClass_of_methodNamed hnamed) hkP hinit
  obtain ⟨vm₁, X₁, hstep₁⟩ := X.invokestatic hexec hown hlink hnamed hmethM hstatic hkP hinitP hy (g := g) hg (argsL := argsL) (rest := rest) (hlen _ hsigM) hstack hdg
  rcases hK m meth c ⟨T.setVm vm₁, locs, cells, slots⟩ { g with stack := rest } (.invokestatic index) mk argsL.toArray X₁ hg hsize hdg hW (X₁.named hnamed) (hpre vm₁ X₁.warmed) with ⟨v, B, X', hpost, hsteps⟩ | ⟨q, B, X', hpost, hsteps⟩
  · exact Or.inl ⟨v, vm₁, B, X₁.warmed, X', hpost, fun target h => hstep₁ _ fun acts => by rw [doInvoke_state]; exact hsteps.trans h⟩
  · exact Or.inr ⟨q, vm₁, B, X₁.warmed, X', hpost, hstep₁ _ fun acts => by rw [doInvoke_state]; exact hsteps⟩
end Calls
theorem vx_cls {s : State} {T : State} {vm₁ : Vm} {E : String} {k : ClassId} (hW : s.WarmedH vm₁) (h : (T.setVm vm₁).vm.findClass E = some k) : s.vm.findClass E = some k := by
  have h1 : vm₁.findClass E = some k := h
  rw [hW.alike.findClass] at h1
  exact h1
/-- the method's frame g, with q thrown over it -/
def vx_W (p : Program) (l : Launch) (e : Env) (R : Room) (s : State) (m : MethodId) (args : Array Value) (below : List Frame) (meth : Method) (c : Code) (H : Heap) (locs : List Loc) (cells slots : Nat) (Q : State → Prop) (g : JFrame) (q : Addr) : Prop :=
  ∀ T : State, T.heap = H → Stand p l e R s m args below meth c T locs cells slots → ∃ t, Steps p.tables e below ((T.setTop g).pushFrame (.throwing q)) t ∧ Q t
def vx_Run (p : Program) (l : Launch) (e : Env) (R : Room) (s : State) (m : MethodId) (args : Array Value) (below : List Frame) (meth : Method) (c : Code) (H : Heap) (locs : List Loc) (cells slots mc ms : Nat) (g : JFrame) (rest : List Value) (Qa : State → Outcome → State → Prop) (XC : String → State → State → Prop) (free : Addr → Prop) : Prop :=
  ∀ T : State, T.heap = H → Stand p l e R s m args below meth c T locs cells slots →
    (∃ (v : Option Value) (st₀ t T' : State) (L : List Loc), st₀.heap = H ∧ Stand p l e R s m args below meth c T' (locs ++ L) (cells + mc) (slots + ms) ∧ (∀ q ∈ L, free q.base) ∧ T'.heap = t.heap ∧ T'.vm = t.vm ∧ Qa st₀ (.returned v) t ∧
      Goes p e below T g T' { g with pc := g.pc + 3, stack := v.toList ++ rest }) ∨
    (∃ (q : Addr) (st₀ t T' : State) (L : List Loc) (E : String) (ce : Cell), st₀.heap = H ∧ Stand p l e R s m args below meth c T' (locs ++ L) (cells + mc) (slots + ms) ∧ (∀ z ∈ L, free z.base) ∧ T'.heap = t.heap ∧ T'.vm = t.vm ∧ XC E st₀ t ∧ t.heap[q]? = some ce ∧ ce.vm = .none ∧ s.vm.findClass E = some ce.cls ∧
      Steps p.tables e below (T.setTop g) ((T'.setTop { g with stack := rest }).pushFrame (.throwing q)))
def vx_X {S : Type} (px : S → Prop) (B : String → S → State → Prop) (A : Nat → Prop) : String → State → State → Prop := fun E st t => ∃ u : S, px u ∧ B E u t ∧ va_F A st t
section Runs
variable {p : Program} {l : Launch} {e : Env} {R : Room} {s : State} {m : MethodId} {args : Array Value} {below : List Frame} {meth : Method} {c : Code} {H : Heap} {locs : List Loc} {cells slots : Nat}
variable {y : MethodName} {bytes cc : ByteArray} {maxL nL mc ms n index : Nat} {ret : Option FieldType} {ws : List Cond} {rm : Room} {Pc : Array Value → State → Prop} {Qc : Array Value → State → Outcome → State → Prop} {XC : String → State → State → Prop} {free : Addr → Prop} {Ts : List Cond} {own C : String} {b : Addr} {As rest : List Value} {g : JFrame}
theorem vx_callBack (cb : CallB R s args own index y bytes maxL ret ws rm mc ms n) (hM : vx_Met l y ws rm Pc Qc XC mc ms free) (hbl : FrameBlind Pc) : vx_Back l R p e below s args y 3 8 (PreOf R mc ms Pc) (PostOf Qc mc ms free) (vx_Post XC mc ms free) := by
  obtain ⟨hrc, hrs, hfr, hlo, hws, hcw, -, hini, -⟩ := cb
  exact vx_back (bytes := bytes) (maxL := maxL) (ret := ret) hM hbl hrc hrs hfr hlo hws hcw (fun a' U hW => word_at hW (Or.inl (by first | rfl | simp [Cond.onTables, Cond.keeps, Cond.steady])) hini)
theorem vx_runV (S : CallFix p m c cc nL s args Ts own) (hM : vx_Met l y ws rm Pc Qc XC mc ms free) (cw : CallW R s args own C index y bytes maxL ret ws rm mc ms n) (hp : PreV s H C b Pc As)
    (hg : g.method = m) (hn : As.length = n) (hsize : g.locals.size = nL) (hstack : g.stack = As.reverse ++ .ref b :: rest) (hW : 2 * g.monitorRoom + (rest.map fun v => v.category).sum ≤ 8) (hdg : decode cc g.pc = .ok (.invokevirtual index, 3)) (hf : cells + mc ≤ R.cells ∧ slots + ms ≤ R.slots) :
    vx_Run p l e R s m args below meth c H locs cells slots mc ms g rest (Qc (Value.ref b :: As).toArray) XC free := by
  have hK : vx_Back l R p e below s args y 3 8 (PreOf R mc ms Pc) (PostOf Qc mc ms free) (vx_Post XC mc ms free) := vx_callBack cw.1 hM hp.1
  obtain ⟨⟨-, -, -, -, -, -, hcode, -, hy, hlen, hl⟩, hin, hse⟩ := cw
  obtain ⟨hx, hb, hml, ho, -⟩ := S
  obtain ⟨-, ⟨cellB, hcB, hoB, hclB⟩, hPc⟩ := hp
  intro T hT X
  rcases vx_callV X hx (C := C) (bytes := bytes) (maxL := maxL) (ret := ret) ho hl hin hse hcode hy hK (by rw [hT]; exact hcB) hoB hclB hg (hsize.trans hml.symm) (argsL := As) (rest := rest) (fun sig h => hn.trans (hlen sig h)) hstack hW (by rw [hb]; exact hdg)
    (fun vm₁ hW₁ => ⟨hf.1, hf.2, hPc (T.setVm vm₁) hT hW₁⟩) with ⟨v, vm₁, ⟨U', l2, c2, s2⟩, hW₁, X', ⟨g', mk, t, L, e1, e2, hq, h1, hL, h2, h3⟩, st⟩ | ⟨q, vm₁, ⟨U', l2, c2, s2⟩, hW₁, X', ⟨g', mk, t, L, E, ce, e1, e2, hq, hce, hcv, hcl, h1, hL, h2, h3⟩, st⟩
  · dsimp only [Pt.U, Pt.locs, Pt.cells, Pt.slots] at X' e1 e2 h1 h2 h3 st
    subst h1; subst h2; subst h3
    exact Or.inl ⟨v, (T.setVm vm₁).calling g' mk (Value.ref b :: As).toArray, t, U', L, hT, X', hL, e1, e2, hq, st⟩
  · dsimp only [Pt.U, Pt.locs, Pt.cells, Pt.slots] at X' e1 e2 h1 h2 h3 st hcl
    subst h1; subst h2; subst h3
    exact Or.inr ⟨q, (T.setVm vm₁).calling g' mk (Value.ref b :: As).toArray, t, U', L, E, ce, hT, X', hL, e1, e2, hq, hce, hcv, vx_cls hW₁ hcl, st⟩
theorem vx_runS (S : CallFix p m c cc nL s args Ts own) (hM : vx_Met l y ws rm Pc Qc XC mc ms free) (cw : CallB R s args own index y bytes maxL ret ws rm mc ms n ∧ (Cond.static y).before args s = true) (hp : PreS s H Pc As)
    (hg : g.method = m) (hn : As.length = n) (hsize : g.locals.size = nL) (hstack : g.stack = As.reverse ++ rest) (hW : 2 * g.monitorRoom + (rest.map fun v => v.category).sum ≤ 8) (hdg : decode cc g.pc = .ok (.invokestatic index, 3)) (hf : cells + mc ≤ R.cells ∧ slots + ms ≤ R.slots) :
    vx_Run p l e R s m args below meth c H locs cells slots mc ms g rest (Qc As.toArray) XC free := by
  have hK : vx_Back l R p e below s args y 3 8 (PreOf R mc ms Pc) (PostOf Qc mc ms free) (vx_Post XC mc ms free) := vx_callBack cw.1 hM hp.1
  obtain ⟨⟨-, -, -, -, -, -, hcode, hini, hy, hlen, hl⟩, hstt⟩ := cw
  obtain ⟨hx, hb, hml, ho, -⟩ := S
  intro T hT X
  rcases vx_callS X hx (bytes := bytes) (maxL := maxL) (ret := ret) ho hl hstt hini hcode hy hK hg (hsize.trans hml.symm) (argsL := As) (rest := rest) (fun sig h => hn.trans (hlen sig h)) hstack hW (by rw [hb]; exact hdg)
    (fun vm₁ hW₁ => ⟨hf.1, hf.2, hp.2 (T.setVm vm₁) hT hW₁⟩) with ⟨v, vm₁, ⟨U', l2, c2, s2⟩, hW₁, X', ⟨g', mk, t, L, e1, e2, hq, h1, hL, h2, h3⟩, st⟩ | ⟨q, vm₁, ⟨U', l2, c2, s2⟩, hW₁, X', ⟨g', mk, t, L, E, ce, e1, e2, hq, hce, hcv, hcl, h1, hL, h2, h3⟩, st⟩
  · dsimp only [Pt.U, Pt.locs, Pt.cells, Pt.slots] at X' e1 e2 h1 h2 h3 st
    subst h1; subst h2; subst h3
    exact Or.inl ⟨v, (T.setVm vm₁).calling g' mk As.toArray, t, U', L, hT, X', hL, e1, e2, hq, st⟩
  · dsimp only [Pt.U, Pt.locs, Pt.cells, Pt.slots] at X' e1 e2 h1 h2 h3 st hcl
    subst h1; subst h2; subst h3
    exact Or.inr ⟨q, (T.setVm vm₁).calling g' mk As.toArray, t, U', L, E, ce, hT, X', hL, e1, e2, hq, hce, hcv, vx_cls hW₁ hcl, st⟩
end Runs
section Rows
variable {p : Program} {l : Launch} {e : Env} {R : Room} {s : State} {m : MethodId} {args : Array Value} {below : List Frame} {meth : Method} {c : Code} {H : Heap} {locs : List Loc} {cells slots : Nat} {Q : State → Prop}
variable {mc ms : Nat} {free : Addr → Prop} {A0 A1 : Nat → Prop} {H0 : Heap} {a : Array Value} {pc : Nat} {ls : Array Slot} {st0 rest : List Value}
theorem vx_keep {st₀ t T' : State} {L : List Loc} (h0 : st₀.heap = H) (e1 : T'.heap = t.heap) (hS : va_S A0 H0 H locs) (hA : ∀ q, q < H.size → A1 q → A0 q) (hf : ∀ q, free q → A0 q) (hL : ∀ q ∈ L, free q.base) (hF : va_F A1 st₀ t) :
    H.size ≤ T'.heap.size ∧ (∀ q : Nat, q < H.size → ¬ A1 q → T'.heap[q]? = H[q]?) ∧ va_S A0 H0 T'.heap (locs ++ L) := by
  obtain ⟨hz, hk⟩ := hF
  rw [h0] at hz hk
  exact ⟨by rw [e1]; exact hz, fun q h1 h2 => by rw [e1]; exact hk q h1 h2,
    ⟨Nat.le_trans hS.1 (by rw [e1]; exact hz), fun q h1 h2 => by rw [e1, hk q (Nat.lt_of_lt_of_le h1 hS.1) (fun z => h2 (hA q (Nat.lt_of_lt_of_le h1 hS.1) z))]; exact hS.2.1 q h1 h2, fun q hq => by
      rcases List.mem_append.mp hq with h | h
      · exact hS.2.2 q h
      · exact hf _ (hL q h)⟩⟩
theorem vx_calli {S SX : Type} {post : Int32 → S → Prop} {px : SX → Prop} {B : S → State → Prop} {BX : String → SX → State → Prop} {AX : Nat → Prop} (hr : vx_Run p l e R s m args below meth c H locs cells slots mc ms (F0 m pc ls st0) rest (va_Qi post B A1 a) (vx_X px BX AX) free) (hS : va_S A0 H0 H locs) (hA : ∀ q, q < H.size → A1 q → A0 q) (hf : ∀ q, free q → A0 q) (hAX : ∀ q, q < H.size → AX q → A0 q)
    (kx : ∀ (E : String) (ce : Cell) (q9 : Addr) (u : SX) (t : State) (H1 : Heap) (locs1 : List Loc), t.heap = H1 → s.vm.Alike t.vm → px u → BX E u t → H.size ≤ H1.size → (∀ q : Nat, q < H.size → ¬ AX q → H1[q]? = H[q]?) → va_S A0 H0 H1 locs1 → H1[q9]? = some ce → ce.vm = .none → s.vm.findClass E = some ce.cls → vx_W p l e R s m args below meth c H1 locs1 (cells + mc) (slots + ms) Q (F0 m pc ls rest) q9)
    (kk : ∀ (r : Int32) (u : S) (t : State) (H1 : Heap) (locs1 : List Loc), t.heap = H1 → s.vm.Alike t.vm → post r u → B u t → H.size ≤ H1.size → (∀ q : Nat, q < H.size → ¬ A1 q → H1[q]? = H[q]?) → va_S A0 H0 H1 locs1 → W p l e R s m args below meth c H1 locs1 (cells + mc) (slots + ms) Q (F0 m (pc + 3) ls (.int r :: rest))) : W p l e R s m args below meth c H locs cells slots Q (F0 m pc ls st0) := by
  intro T hT X
  rcases hr T hT X with ⟨v, st₀, t, T', L, h0, X', hL, e1, e2, ⟨⟨r, u, hv, hp, hb⟩, hF⟩, st⟩ | ⟨q, st₀, t, T', L, E, ce, h0, X', hL, e1, e2, ⟨u, hp, hb, hF⟩, hce, hcv, hcl, st⟩
  · cases hv
    obtain ⟨k1, k2, k3⟩ := vx_keep h0 e1 hS hA hf hL hF
    obtain ⟨t2, a1, b1⟩ := kk r u t T'.heap (locs ++ L) e1.symm (by rw [← e2]; exact X'.warmed.alike) hp hb k1 k2 k3 T' rfl X'
    exact ⟨t2, st t2 a1, b1⟩
  · obtain ⟨k1, k2, k3⟩ := vx_keep h0 e1 hS hAX hf hL hF
    obtain ⟨t2, a1, b1⟩ := kx E ce q u t T'.heap (locs ++ L) e1.symm (by rw [← e2]; exact X'.warmed.alike) hp hb k1 k2 k3 (by rw [e1]; exact hce) hcv hcl T' rfl X'
    exact ⟨t2, st.trans a1, b1⟩
theorem vx_calll {S SX : Type} {post : Int64 → S → Prop} {px : SX → Prop} {B : S → State → Prop} {BX : String → SX → State → Prop} {AX : Nat → Prop} (hr : vx_Run p l e R s m args below meth c H locs cells slots mc ms (F0 m pc ls st0) rest (va_Ql post B A1 a) (vx_X px BX AX) free) (hS : va_S A0 H0 H locs) (hA : ∀ q, q < H.size → A1 q → A0 q) (hf : ∀ q, free q → A0 q) (hAX : ∀ q, q < H.size → AX q → A0 q)
    (kx : ∀ (E : String) (ce : Cell) (q9 : Addr) (u : SX) (t : State) (H1 : Heap) (locs1 : List Loc), t.heap = H1 → s.vm.Alike t.vm → px u → BX E u t → H.size ≤ H1.size → (∀ q : Nat, q < H.size → ¬ AX q → H1[q]? = H[q]?) → va_S A0 H0 H1 locs1 → H1[q9]? = some ce → ce.vm = .none → s.vm.findClass E = some ce.cls → vx_W p l e R s m args below meth c H1 locs1 (cells + mc) (slots + ms) Q (F0 m pc ls rest) q9)
    (kk : ∀ (r : Int64) (u : S) (t : State) (H1 : Heap) (locs1 : List Loc), t.heap = H1 → s.vm.Alike t.vm → post r u → B u t → H.size ≤ H1.size → (∀ q : Nat, q < H.size → ¬ A1 q → H1[q]? = H[q]?) → va_S A0 H0 H1 locs1 → W p l e R s m args below meth c H1 locs1 (cells + mc) (slots + ms) Q (F0 m (pc + 3) ls (.long r :: rest))) : W p l e R s m args below meth c H locs cells slots Q (F0 m pc ls st0) := by
  intro T hT X
  rcases hr T hT X with ⟨v, st₀, t, T', L, h0, X', hL, e1, e2, ⟨⟨r, u, hv, hp, hb⟩, hF⟩, st⟩ | ⟨q, st₀, t, T', L, E, ce, h0, X', hL, e1, e2, ⟨u, hp, hb, hF⟩, hce, hcv, hcl, st⟩
  · cases hv
    obtain ⟨k1, k2, k3⟩ := vx_keep h0 e1 hS hA hf hL hF
    obtain ⟨t2, a1, b1⟩ := kk r u t T'.heap (locs ++ L) e1.symm (by rw [← e2]; exact X'.warmed.alike) hp hb k1 k2 k3 T' rfl X'
    exact ⟨t2, st t2 a1, b1⟩
  · obtain ⟨k1, k2, k3⟩ := vx_keep h0 e1 hS hAX hf hL hF
    obtain ⟨t2, a1, b1⟩ := kx E ce q u t T'.heap (locs ++ L) e1.symm (by rw [← e2]; exact X'.warmed.alike) hp hb k1 k2 k3 (by rw [e1]; exact hce) hcv hcl T' rfl X'
    exact ⟨t2, st.trans a1, b1⟩
theorem vx_callf {S SX : Type} {post : UInt32 → S → Prop} {px : SX → Prop} {B : S → State → Prop} {BX : String → SX → State → Prop} {AX : Nat → Prop} (hr : vx_Run p l e R s m args below meth c H locs cells slots mc ms (F0 m pc ls st0) rest (va_Qf post B A1 a) (vx_X px BX AX) free) (hS : va_S A0 H0 H locs) (hA : ∀ q, q < H.size → A1 q → A0 q) (hf : ∀ q, free q → A0 q) (hAX : ∀ q, q < H.size → AX q → A0 q)
    (kx : ∀ (E : String) (ce : Cell) (q9 : Addr) (u : SX) (t : State) (H1 : Heap) (locs1 : List Loc), t.heap = H1 → s.vm.Alike t.vm → px u → BX E u t → H.size ≤ H1.size → (∀ q : Nat, q < H.size → ¬ AX q → H1[q]? = H[q]?) → va_S A0 H0 H1 locs1 → H1[q9]? = some ce → ce.vm = .none → s.vm.findClass E = some ce.cls → vx_W p l e R s m args below meth c H1 locs1 (cells + mc) (slots + ms) Q (F0 m pc ls rest) q9)
    (kk : ∀ (r : UInt32) (u : S) (t : State) (H1 : Heap) (locs1 : List Loc), t.heap = H1 → s.vm.Alike t.vm → post r u → B u t → H.size ≤ H1.size → (∀ q : Nat, q < H.size → ¬ A1 q → H1[q]? = H[q]?) → va_S A0 H0 H1 locs1 → W p l e R s m args below meth c H1 locs1 (cells + mc) (slots + ms) Q (F0 m (pc + 3) ls (.float r :: rest))) : W p l e R s m args below meth c H locs cells slots Q (F0 m pc ls st0) := by
  intro T hT X
  rcases hr T hT X with ⟨v, st₀, t, T', L, h0, X', hL, e1, e2, ⟨⟨r, u, hv, hp, hb⟩, hF⟩, st⟩ | ⟨q, st₀, t, T', L, E, ce, h0, X', hL, e1, e2, ⟨u, hp, hb, hF⟩, hce, hcv, hcl, st⟩
  · cases hv
    obtain ⟨k1, k2, k3⟩ := vx_keep h0 e1 hS hA hf hL hF
    obtain ⟨t2, a1, b1⟩ := kk r u t T'.heap (locs ++ L) e1.symm (by rw [← e2]; exact X'.warmed.alike) hp hb k1 k2 k3 T' rfl X'
    exact ⟨t2, st t2 a1, b1⟩
  · obtain ⟨k1, k2, k3⟩ := vx_keep h0 e1 hS hAX hf hL hF
    obtain ⟨t2, a1, b1⟩ := kx E ce q u t T'.heap (locs ++ L) e1.symm (by rw [← e2]; exact X'.warmed.alike) hp hb k1 k2 k3 (by rw [e1]; exact hce) hcv hcl T' rfl X'
    exact ⟨t2, st.trans a1, b1⟩
theorem vx_calld {S SX : Type} {post : UInt64 → S → Prop} {px : SX → Prop} {B : S → State → Prop} {BX : String → SX → State → Prop} {AX : Nat → Prop} (hr : vx_Run p l e R s m args below meth c H locs cells slots mc ms (F0 m pc ls st0) rest (va_Qd post B A1 a) (vx_X px BX AX) free) (hS : va_S A0 H0 H locs) (hA : ∀ q, q < H.size → A1 q → A0 q) (hf : ∀ q, free q → A0 q) (hAX : ∀ q, q < H.size → AX q → A0 q)
    (kx : ∀ (E : String) (ce : Cell) (q9 : Addr) (u : SX) (t : State) (H1 : Heap) (locs1 : List Loc), t.heap = H1 → s.vm.Alike t.vm → px u → BX E u t → H.size ≤ H1.size → (∀ q : Nat, q < H.size → ¬ AX q → H1[q]? = H[q]?) → va_S A0 H0 H1 locs1 → H1[q9]? = some ce → ce.vm = .none → s.vm.findClass E = some ce.cls → vx_W p l e R s m args below meth c H1 locs1 (cells + mc) (slots + ms) Q (F0 m pc ls rest) q9)
    (kk : ∀ (r : UInt64) (u : S) (t : State) (H1 : Heap) (locs1 : List Loc), t.heap = H1 → s.vm.Alike t.vm → post r u → B u t → H.size ≤ H1.size → (∀ q : Nat, q < H.size → ¬ A1 q → H1[q]? = H[q]?) → va_S A0 H0 H1 locs1 → W p l e R s m args below meth c H1 locs1 (cells + mc) (slots + ms) Q (F0 m (pc + 3) ls (.double r :: rest))) : W p l e R s m args below meth c H locs cells slots Q (F0 m pc ls st0) := by
  intro T hT X
  rcases hr T hT X with ⟨v, st₀, t, T', L, h0, X', hL, e1, e2, ⟨⟨r, u, hv, hp, hb⟩, hF⟩, st⟩ | ⟨q, st₀, t, T', L, E, ce, h0, X', hL, e1, e2, ⟨u, hp, hb, hF⟩, hce, hcv, hcl, st⟩
  · cases hv
    obtain ⟨k1, k2, k3⟩ := vx_keep h0 e1 hS hA hf hL hF
    obtain ⟨t2, a1, b1⟩ := kk r u t T'.heap (locs ++ L) e1.symm (by rw [← e2]; exact X'.warmed.alike) hp hb k1 k2 k3 T' rfl X'
    exact ⟨t2, st t2 a1, b1⟩
  · obtain ⟨k1, k2, k3⟩ := vx_keep h0 e1 hS hAX hf hL hF
    obtain ⟨t2, a1, b1⟩ := kx E ce q u t T'.heap (locs ++ L) e1.symm (by rw [← e2]; exact X'.warmed.alike) hp hb k1 k2 k3 (by rw [e1]; exact hce) hcv hcl T' rfl X'
    exact ⟨t2, st.trans a1, b1⟩
theorem vx_callv {S SX : Type} {post : S → Prop} {px : SX → Prop} {B : S → State → Prop} {BX : String → SX → State → Prop} {AX : Nat → Prop} (hr : vx_Run p l e R s m args below meth c H locs cells slots mc ms (F0 m pc ls st0) rest (va_Qv post B A1 a) (vx_X px BX AX) free) (hS : va_S A0 H0 H locs) (hA : ∀ q, q < H.size → A1 q → A0 q) (hf : ∀ q, free q → A0 q) (hAX : ∀ q, q < H.size → AX q → A0 q)
    (kx : ∀ (E : String) (ce : Cell) (q9 : Addr) (u : SX) (t : State) (H1 : Heap) (locs1 : List Loc), t.heap = H1 → s.vm.Alike t.vm → px u → BX E u t → H.size ≤ H1.size → (∀ q : Nat, q < H.size → ¬ AX q → H1[q]? = H[q]?) → va_S A0 H0 H1 locs1 → H1[q9]? = some ce → ce.vm = .none → s.vm.findClass E = some ce.cls → vx_W p l e R s m args below meth c H1 locs1 (cells + mc) (slots + ms) Q (F0 m pc ls rest) q9)
    (kk : ∀ (u : S) (t : State) (H1 : Heap) (locs1 : List Loc), t.heap = H1 → s.vm.Alike t.vm → post u → B u t → H.size ≤ H1.size → (∀ q : Nat, q < H.size → ¬ A1 q → H1[q]? = H[q]?) → va_S A0 H0 H1 locs1 → W p l e R s m args below meth c H1 locs1 (cells + mc) (slots + ms) Q (F0 m (pc + 3) ls (rest))) : W p l e R s m args below meth c H locs cells slots Q (F0 m pc ls st0) := by
  intro T hT X
  rcases hr T hT X with ⟨v, st₀, t, T', L, h0, X', hL, e1, e2, ⟨⟨u, hv, hp, hb⟩, hF⟩, st⟩ | ⟨q, st₀, t, T', L, E, ce, h0, X', hL, e1, e2, ⟨u, hp, hb, hF⟩, hce, hcv, hcl, st⟩
  · cases hv
    obtain ⟨k1, k2, k3⟩ := vx_keep h0 e1 hS hA hf hL hF
    obtain ⟨t2, a1, b1⟩ := kk u t T'.heap (locs ++ L) e1.symm (by rw [← e2]; exact X'.warmed.alike) hp hb k1 k2 k3 T' rfl X'
    exact ⟨t2, st t2 a1, b1⟩
  · obtain ⟨k1, k2, k3⟩ := vx_keep h0 e1 hS hAX hf hL hF
    obtain ⟨t2, a1, b1⟩ := kx E ce q u t T'.heap (locs ++ L) e1.symm (by rw [← e2]; exact X'.warmed.alike) hp hb k1 k2 k3 (by rw [e1]; exact hce) hcv hcl T' rfl X'
    exact ⟨t2, st.trans a1, b1⟩
/-- caught by the row x of this method's table; the rows ahead don't take it -/
theorem vx_catch {own name : String} {E : String} {ce : Cell} {q : Addr} (hown : s.vm.findClass own = some m.cls) (pre : List ExceptionTableEntry) (x : ExceptionTableEntry) (suf : List ExceptionTableEntry) (hsplit : c.exceptionTable.toList = pre ++ x :: suf)
    (hpass : ∀ z ∈ pre, covers z pc = false ∨ (z.catchType ≠ 0 ∧ ∃ nm : String, (Cond.classLink own z.catchType nm).before args s = true ∧ va_Nc E nm s)) (hx : covers x pc = true) (h0 : x.catchType ≠ 0)
    (hlink : (Cond.classLink own x.catchType name).before args s = true) (hcast : (Cond.castable E name).before args s = true) (hcell : H[q]? = some ce) (hv : ce.vm = .none) (hcl : s.vm.findClass E = some ce.cls)
    (kk : W p l e R s m args below meth c H locs cells slots Q (F0 m x.handlerPc ls [.ref q])) : vx_W p l e R s m args below meth c H locs cells slots Q (F0 m pc ls rest) q := by
  intro T hT X
  have hpl : e.platform.magicAccessors = ({} : Platform).magicAccessors := by rw [X.admits.platform]
  obtain ⟨c3, c4, hc3, hc4, hasg⟩ := Cond.castable_spec hcast
  cases Option.some.inj (hc3.symm.trans hcl)
  obtain ⟨c5, hc5, hcl5⟩ := Cond.classLink_spec hown hlink e.platform hpl
  cases Option.some.inj (hc4.symm.trans hc5)
  obtain ⟨vm', X', st⟩ := X.thenCaughtThrough q (g := F0 m pc ls rest) rfl (Steps.refl _) (by rw [hT]; exact hcell) (by rw [hv]; rfl) (by obtain ⟨k9, h9, -⟩ := Vm.findClass_spec hcl; exact ⟨k9, h9⟩) pre x suf hsplit
    (fun z hz => by
      rcases hpass z hz with h | ⟨hz0, nm, hl1, hn1⟩
      · exact Or.inl h
      · obtain ⟨c6, hc6, hcl6⟩ := Cond.classLink_spec hown hl1 e.platform hpl
        obtain ⟨a8, b8, h1, h2, h3⟩ := hn1
        cases Option.some.inj (h1.symm.trans hcl)
        cases Option.some.inj (h2.symm.trans hc6)
        exact Or.inr ⟨hz0, _, hcl6, h3⟩) hx (Or.inr ⟨h0, c4, hcl5, hasg⟩)
  obtain ⟨t, a1, b1⟩ := kk (T.setVm vm') hT X'
  exact ⟨t, st.trans a1, b1⟩
end Rows
section Ends
variable {p : Program} {l : Launch} {e : Env} {R : Room} {s : State} {m : MethodId} {args : Array Value} {below : List Frame} {meth : Method} {c : Code} {H : Heap} {locs : List Loc} {cells slots : Nat} {Q : State → Prop}
variable {mc ms : Nat} {free : Addr → Prop} {A0 A1 : Nat → Prop} {H0 : Heap} {a : Array Value} {ls : Array Slot} {st0 rest : List Value}
variable {Qc : Array Value → State → Outcome → State → Prop} {XC : String → State → State → Prop}
/-- what a body that may throw owes at its end -/
def vx_MQ (below : List Frame) (Qc : Array Value → State → Outcome → State → Prop) (XC : String → State → State → Prop) (a : Array Value) (s : State) (mc ms : Nat) (free : Addr → Prop) : State → Prop := fun t =>
  ∃ o, t.status = .running ∧ Ended t below o ∧ vx_Q Qc XC mc ms free a s o t
theorem vx_ret {g : JFrame} {mc ms : Nat} (k : W p l e R s m args below meth c H locs cells slots (MQ below Qc args s mc ms free) g) : W p l e R s m args below meth c H locs cells slots (vx_MQ below Qc XC args s mc ms free) g := by
  intro T hT X
  obtain ⟨t, a1, o, b1, b2, b3, b4⟩ := k T hT X
  exact ⟨t, a1, o, b1, b2, Or.inl ⟨b3, b4⟩⟩
/-- not caught here: it goes on to the caller -/
theorem vx_widen {g : JFrame} {q : Addr} {k n : Nat} (h1 : cells ≤ k) (h2 : slots ≤ n) (kk : vx_W p l e R s m args below meth c H locs k n Q g q) : vx_W p l e R s m args below meth c H locs cells slots Q g q := fun T hT X => kk T hT (stand_widen X h1 h2)
theorem vx_out {pc : Nat} {E : String} {ce : Cell} {q : Addr} {mc ms : Nat} (hout : ∀ x ∈ c.exceptionTable.toList, covers x pc = false) (hlocks : meth.locks = false) (hcell : H[q]? = some ce) (hv : ce.vm = .none) (hcl : s.vm.findClass E = some ce.cls)
    (hx : ∀ t : State, t.heap = H → s.vm.Alike t.vm → XC E s t) (hf : ∀ z ∈ locs, free z.base) (hc : cells ≤ mc) (hs : slots ≤ ms) :
    vx_W p l e R s m args below meth c H locs cells slots (vx_MQ below Qc XC args s mc ms free) (F0 m pc ls rest) q := by
  intro T hT X
  obtain ⟨st1, hrun, hend, hW, hsm⟩ := X.leaveThrown q (g := F0 m pc ls rest) rfl rfl rfl hout hlocks
  have hcell9 : (T.setFrames (.throwing q :: below)).heap[q]? = some ce := by
    show T.heap[q]? = some ce
    rw [hT]; exact hcell
  exact ⟨_, st1, .threw q, hrun, hend, Or.inr ⟨q, rfl, E, ce, locs, hx _ hT hW.alike, hcell9, hv, hcl, hW, hsm.mono hc hs, hf⟩⟩
theorem vx_frame {U : State} {k n : Nat} (h : s.sameButNew ({ U with vm := s.vm } : State) locs k n) : s.heap.size ≤ U.heap.size ∧ ∀ q : Nat, q < s.heap.size → (∀ z ∈ locs, z.base ≠ q) → U.heap[q]? = s.heap[q]? := by
  obtain ⟨-, h2, -, -, -, h6⟩ := h
  refine ⟨h2, fun q hq hz => ?_⟩
  obtain ⟨c9, e1, e2, e3, e4⟩ := h6 q _ (Array.getElem?_eq_getElem hq)
  have hs : c9.slots = (s.heap[q]).slots := Array.ext_getElem? fun i => e4 i fun hm => hz _ hm rfl
  have h9 : c9 = s.heap[q] := by
    rw [hs] at e2
    exact e2
  have e5 : U.heap[q]? = some c9 := e1
  rw [e5, h9, Array.getElem?_eq_getElem hq]
/-- the words of a throw but the four that speak of the heap -/
def vx_no (w : Cond) : Bool := decide (w ≠ .isRef (.static Bundle.tN "UNASSIGNED_STACK" Bundle.steD)) && decide (w ≠ .isRef (.static Bundle.tN "SUPPRESSED_SENTINEL" Bundle.listD)) && decide (w ≠ .laysStatic Bundle.tN "UNASSIGNED_STACK" Bundle.steD) && decide (w ≠ .laysStatic Bundle.tN "SUPPRESSED_SENTINEL" Bundle.listD)
def vx_at0 (own : String) (ic : Nat) (X : String) (names : List String) : List Cond := (Bundle.ownAtoms0 own ic X names).filter vx_no
def vx_atS (own : String) (ic : Nat) (X : String) (names : List String) : List Cond := (Bundle.ownAtoms own ic X names).filter vx_no
/-- a word that the tables alone decide, or a good one -/
def vx_ot (w : Cond) : Bool := w.onTables || goodWord w
theorem vx_ot_at {args a' : Array Value} {s U : State} {w : Cond} (hW : s.WarmedH U.vm) (hvm : s.vm = U.vm) (hg : vx_ot w = true) (h : w.before args s = true) : w.before a' U = true := by
  simp only [vx_ot, Bool.or_eq_true] at hg
  rcases hg with hg | hg
  · exact va_tabs hg hvm h
  · exact word_at hW (good_of_word hg) h
/-- a list's words: the good ones out of the method's own list, the others by premises of their own -/
theorem vx_hat {args : Array Value} {s : State} {L B : List Cond} (h1 : ∀ w ∈ L.filter goodWord, w.before args s = true) (h2 : ∀ w ∈ L.filter (fun w => !goodWord w), w ∈ B) (h3 : ∀ w ∈ B, w.before args s = true) : ∀ w ∈ L, w.before args s = true := by
  intro w hw
  by_cases g : goodWord w = true
  · exact h1 w (List.mem_filter.mpr ⟨hw, g⟩)
  · refine h3 w (h2 w (List.mem_filter.mpr ⟨hw, ?_⟩))
    show (!goodWord w) = true
    cases hgw : goodWord w
    · rfl
    · exact absurd hgw g
theorem vx_c {args : Array Value} {s : State} {w : Cond} {B : List Cond} (h : w.before args s = true) (t : ∀ w ∈ B, w.before args s = true) : ∀ w' ∈ w :: B, w'.before args s = true := fun w' h' => (List.mem_cons.mp h').elim (fun e => by rw [e]; exact h) (t w')
theorem vx_n {args : Array Value} {s : State} : ∀ w ∈ ([] : List Cond), w.before args s = true := fun _ h => nomatch h
theorem vx_own {args : Array Value} {s : State} {L : List Cond} (h1 : ∀ w ∈ L.filter vx_no, w.before args s = true)
    (hU : (Cond.isRef (.static Bundle.tN "UNASSIGNED_STACK" Bundle.steD)).before args s = true) (hN : (Cond.isRef (.static Bundle.tN "SUPPRESSED_SENTINEL" Bundle.listD)).before args s = true)
    (lU : (Cond.laysStatic Bundle.tN "UNASSIGNED_STACK" Bundle.steD).before args s = true) (lN : (Cond.laysStatic Bundle.tN "SUPPRESSED_SENTINEL" Bundle.listD).before args s = true) : ∀ w ∈ L, w.before args s = true := by
  intro w hw
  by_cases e1 : w = .isRef (.static Bundle.tN "UNASSIGNED_STACK" Bundle.steD)
  · rw [e1]; exact hU
  · by_cases e2 : w = .isRef (.static Bundle.tN "SUPPRESSED_SENTINEL" Bundle.listD)
    · rw [e2]; exact hN
    · by_cases e3 : w = .laysStatic Bundle.tN "UNASSIGNED_STACK" Bundle.steD
      · rw [e3]; exact lU
      · by_cases e4 : w = .laysStatic Bundle.tN "SUPPRESSED_SENTINEL" Bundle.listD
        · rw [e4]; exact lN
        · exact h1 w (List.mem_filter.mpr ⟨hw, by unfold vx_no; rw [decide_eq_true e1, decide_eq_true e2, decide_eq_true e3, decide_eq_true e4]; rfl⟩)
/-- where a static field lies, its class's statics cell in H -/
def vx_L (C n d : String) (A : Nat → Prop) (U : State) (H : Heap) : Prop := ∃ (c : ClassId) (k : Class) (i : Nat) (f : Field) (a : Nat) (cell : Cell), U.vm.findClass C = some c ∧ U.fieldFound? C n d = some (c, k, i, f) ∧ f.isStatic = true ∧ k.statics = some a ∧ H[a]? = some cell ∧ cell.vm.isStatics = true ∧ cell.cls = c ∧ f.slot < cell.slots.size ∧ k.staticTypes[f.slot]? = some f.type ∧ ¬ A a
theorem vx_L.moved {C n d : String} {A : Nat → Prop} {u U : State} {H : Heap} (hvm : u.vm.Alike U.vm) (h : vx_L C n d A u H) : vx_L C n d A U H := by
  obtain ⟨c, k, i, f, a, cell, h1, h2, h3, h4, h5, h6, h7, h8, h9, h10⟩ := h
  obtain ⟨k', hi', he⟩ := State.fieldFound?_setVm hvm h2
  exact ⟨c, k', i, f, a, cell, by rw [hvm.findClass]; exact h1, hi', h3, by rw [he]; exact h4, h5, h6, h7, h8, by rw [he]; exact h9, h10⟩
theorem vx_L.kept {C n d : String} {A : Nat → Prop} {U : State} {H H1 : Heap} (h : vx_L C n d A U H) (hq : ∀ a : Nat, a < H.size → ¬ A a → H1[a]? = H[a]?) : vx_L C n d A U H1 := by
  obtain ⟨c, k, i, f, a, cell, h1, h2, h3, h4, h5, h6, h7, h8, h9, h10⟩ := h
  exact ⟨c, k, i, f, a, cell, h1, h2, h3, h4, by rw [hq a (Array.getElem?_eq_some_iff.mp h5).1 h10]; exact h5, h6, h7, h8, h9, h10⟩
theorem vx_L.narrow {C n d : String} {A B : Nat → Prop} {U : State} {H : Heap} (h : vx_L C n d A U H) (hAB : ∀ q, B q → A q) : vx_L C n d B U H := by
  obtain ⟨c, k, i, f, a, cell, h1, h2, h3, h4, h5, h6, h7, h8, h9, h10⟩ := h
  exact ⟨c, k, i, f, a, cell, h1, h2, h3, h4, h5, h6, h7, h8, h9, fun z => h10 (hAB _ z)⟩
theorem vx_L.word {C n d : String} {A : Nat → Prop} {s : State} {args : Array Value} (h : vx_L C n d A s s.heap) : (Cond.laysStatic C n d).before args s = true := by
  obtain ⟨c, k, i, f, a, cell, h1, h2, h3, h4, h5, h6, h7, h8, h9, -⟩ := h
  show (Cond.laysStatic C n d).holds args s none s [] = true
  exact Cond.laysStatic_of h1 h2 h3 h4 h5 h6 h7 h8 h9
/-- .. and what it holds: null or some reference -/
def vx_Zq (C n d : String) (A : Nat → Prop) (U : State) (H : Heap) : Prop := va_Zq C n d A U H ∧ vx_L C n d A U H
theorem vx_Zq.moved {C n d : String} {A : Nat → Prop} {u U : State} {H : Heap} (hvm : u.vm.Alike U.vm) (h : vx_Zq C n d A u H) : vx_Zq C n d A U H := ⟨va_Zq.moved hvm h.1, vx_L.moved hvm h.2⟩
theorem vx_Zq.kept {C n d : String} {A : Nat → Prop} {U : State} {H H1 : Heap} (h : vx_Zq C n d A U H) (hq : ∀ a : Nat, a < H.size → ¬ A a → H1[a]? = H[a]?) : vx_Zq C n d A U H1 := ⟨va_Zq.kept h.1 hq, vx_L.kept h.2 hq⟩
theorem vx_Zq.narrow {C n d : String} {A B : Nat → Prop} {U : State} {H : Heap} (h : vx_Zq C n d A U H) (hAB : ∀ q, B q → A q) : vx_Zq C n d B U H := ⟨va_Zq.narrow h.1 hAB, vx_L.narrow h.2 hAB⟩
theorem vx_Zqof {args : Array Value} {s : State} {C n d : String} {A : Nat → Prop} (hl : (Cond.laysStatic C n d).before args s = true) (hini : (Cond.initialized C).before args s = true) (h : (Cond.isRef (.static C n d)).before args s = true) (hA : ∀ a : Nat, a < s.heap.size → ¬ A a) : vx_Zq C n d A s s.heap := by
  refine ⟨va_Zqof hl hini h hA, ?_⟩
  obtain ⟨c, k, i, f, a, cell, h1, h2, h3, h4, h5, h6, h7, h8, h9⟩ := Cond.laysStatic_spec hl
  exact ⟨c, k, i, f, a, cell, h1, h2, h3, h4, h5, h6, h7, h8, h9, hA a (Array.getElem?_eq_some_iff.mp h5).1⟩
theorem vx_isRef {C n d : String} {v : Value} {A : Nat → Prop} {s : State} {args : Array Value} (h : va_Z C n d v A s s.heap) (hv : v.isRef = true) : (Cond.isRef (.static C n d)).before args s = true := by
  obtain ⟨cf, kf, fi, f, a, cell, h1, h2, h3, h4, h5, h6, h7, -⟩ := h
  have he : (Term.static C n d).eval args s none [] s = some v := by
    simp [Term.eval, State.fieldNamed?, h1, h2, h4, h5, h6, h7]
  simp only [Cond.before, Cond.holds, Cond.value, he]
  cases v <;> simp_all [Value.isRef]
theorem vx_isRefq {C n d : String} {A : Nat → Prop} {s : State} {args : Array Value} (h : va_Zq C n d A s s.heap) : (Cond.isRef (.static C n d)).before args s = true := by
  rcases h with h | ⟨t, h⟩
  · exact vx_isRef h rfl
  · exact vx_isRef h rfl
/-- the same frame, seen from here: as if the method were called anew in this heap -/
theorem vx_rebase {T : State} (X : Stand p l e R s m args below meth c T locs cells slots) {R' : Room} (hf : R'.frames ≤ R.frames) (hl : R'.locals ≤ R.locals) (hc : cells + R'.cells ≤ R.cells) (hs : slots + R'.slots ≤ R.slots) :
    Stand p l e R' ((T.setVm s.vm).setFrames (.invoking m args :: below)) m args below meth c T [] 0 0 := by
  have htop : (T.setVm s.vm).topJava?.isSome := X.here.top
  have hF : ((T.setVm s.vm).setFrames (.invoking m args :: below)).frames = .invoking m args :: below := State.frames_setFrames _ (State.cur_lt_of_top htop)
  obtain ⟨g₀, hg0⟩ := Option.isSome_iff_exists.mp htop
  obtain ⟨r, hr⟩ := State.topJava?_eq_some.mp hg0
  have hl9 : e.platform.stackLimits (T.setVm s.vm).me = e.platform.stackLimits s.me := X.limits
  have hb9 : (T.setVm s.vm).me.stackBytes = s.me.stackBytes := X.bytes
  refine ⟨X.admits, X.cas, X.clock, hF, ?_, X.hears, X.method, X.code, X.here, X.tail, X.warmed, ?_, ?_, ?_⟩
  · have h := X.room
    have hU : ((T.setVm s.vm).setFrames (.invoking m args :: below)).localsInUse = s.localsInUse := by
      rw [State.localsInUse_invoking hF (meth := meth) (c := c) X.method X.code, State.localsInUse_invoking X.frames X.method X.code]
    simp only [State.hasRoom, Bool.and_eq_true, decide_eq_true_eq] at h ⊢
    obtain ⟨⟨⟨⟨h1, h2, h3, h4, h5, h6⟩, h7⟩, h8⟩, h9⟩ := h
    rw [X.frames, List.length_cons] at h2 h3
    have q1 := X.heapSize
    have q2 := X.used
    simp only [hF, hU, List.length_cons, State.stackLimits_setFrames, State.stackBytes_setFrames, hl9, hb9]
    refine ⟨⟨⟨⟨by omega, by omega, by omega, by omega, by omega, h6⟩, ?_⟩, ?_⟩, X.book⟩
    · show T.heap.size + R'.cells ≤ e.platform.maxCells
      omega
    · show T.slotsUsed + R'.slots ≤ e.platform.maxSlots
      omega
  · rw [State.stackLimits_setFrames]; rfl
  · rw [State.stackBytes_setFrames]; rfl
  · refine ⟨?_, Nat.le_refl _, Nat.le_refl _, ?_, ?_, fun a c9 h9 => ⟨c9, h9, rfl, rfl, fun _ _ => rfl⟩⟩
    · obtain ⟨t, ht, -⟩ := State.frames_cons hr
      show T.setVm s.vm = { ((T.setVm s.vm).setFrames (.invoking m args :: below)).setFrames (T.setVm s.vm).frames with heap := T.heap, slotsUsed := T.slotsUsed }
      rw [State.setFrames_setFrames, State.setFrames_self ht]
      rfl
    · show T.slotsUsed = T.slotsUsed + ((T.heap.toList.drop T.heap.size).map (·.slots.size)).sum
      rw [List.drop_eq_nil_of_le (Nat.le_of_eq Array.length_toList)]
      rfl
    · show ((T.heap.toList.drop T.heap.size).map (·.slots.size)).sum ≤ 0
      rw [List.drop_eq_nil_of_le (Nat.le_of_eq Array.length_toList)]
      exact Nat.le_refl _
/-- 'throw new E()': new; dup; invokespecial; athrow -/
theorem vx_throw0 {cc : ByteArray} {pc : Nat} (hexec : p.tables.exec = Jvm.exec) (hb : c.code = cc) (hl : l.stackTraces = false) {own cls : String} {names : List String} {ik ic mc ms : Nat} {A : Nat → Prop}
    (hown : s.vm.findClass own = some m.cls) (hcls : Bundle.fit cls = true) (hnames : ∀ n ∈ names, Bundle.fit n = true)
    (hk : (Cond.classLink own ik cls).before args s = true) (hini : (Cond.initialized cls).before args s = true) (hat : ∀ w ∈ vx_at0 own ic cls names, w.before args s = true)
    (hgood : ∀ w ∈ Cond.classLink own ik cls :: Cond.initialized cls :: vx_at0 own ic cls names, vx_ot w = true)
    (hU : vx_Zq Bundle.tN "UNASSIGNED_STACK" Bundle.steD A s s.heap) (hN : vx_Zq Bundle.tN "SUPPRESSED_SENTINEL" Bundle.listD A s s.heap) (hS : va_S A s.heap H locs) (hsize : ls.size = c.maxLocals)
    (d0 : decode cc pc = .ok (.new ik, 3)) (d3 : decode cc (pc + 3) = .ok (.dup, 1)) (d4 : decode cc (pc + 4) = .ok (.invokespecial ic, 3)) (d7 : decode cc (pc + 7) = .ok (.athrow, 1))
    (hout : ∀ x ∈ c.exceptionTable.toList, covers x (pc + 7) = false)
    (hRframes : names.length + 3 < R.frames) (hRlocals : (rest.map fun v => v.category).sum + (13 * (names.length + 1) + 42) ≤ R.locals) (hRcells : cells + 1 ≤ R.cells) (hRslots : slots + 6 ≤ R.slots) (hlocks : meth.locks = false)
    (hx : ∀ t : State, s.vm.Alike t.vm → H.size ≤ t.heap.size → (∀ q : Nat, q < H.size → t.heap[q]? = H[q]?) → XC cls s t)
    (hf : ∀ z ∈ locs, free z.base) (hc : cells + 1 ≤ mc) (hs : slots + 6 ≤ ms) :
    W p l e R s m args below meth c H locs cells slots (vx_MQ below Qc XC args s mc ms free) (F0 m pc ls rest) := by
  intro T hT X
  have htr : e.platform.stackTraces = false := (show e.platform.stackTraces = l.stackTraces by rw [X.admits.platform]).trans hl
  have Y := vx_rebase X (R' := { frames := R.frames, locals := R.locals, cells := 1, slots := 6 }) (Nat.le_refl _) (Nat.le_refl _) hRcells hRslots
  obtain ⟨s', hA⟩ : ∃ z, z = (T.setVm s.vm).setFrames (.invoking m args :: below) := ⟨_, rfl⟩
  rw [← hA] at Y
  have hvm : s'.vm = s.vm := by rw [hA]; rfl
  have hhp : s'.heap = H := by rw [hA]; exact hT
  have hW0 : s.WarmedH s'.vm := by rw [hvm]; exact State.WarmedH.refl s
  have hat' : ∀ w ∈ vx_at0 own ic cls names, w.before args s' = true := fun w hw => vx_ot_at hW0 hvm.symm (hgood w (List.mem_cons_of_mem _ (List.mem_cons_of_mem _ hw))) (hat w hw)
  have hk' : (Cond.classLink own ik cls).before args s' = true := vx_ot_at hW0 hvm.symm (hgood _ List.mem_cons_self) hk
  have hini' : (Cond.initialized cls).before args s' = true := vx_ot_at hW0 hvm.symm (hgood _ (List.mem_cons_of_mem _ List.mem_cons_self)) hini
  have hU' : vx_Zq Bundle.tN "UNASSIGNED_STACK" Bundle.steD A s' s'.heap := by rw [hhp]; exact vx_Zq.moved hW0.alike (hU.kept hS.2.1)
  have hN' : vx_Zq Bundle.tN "SUPPRESSED_SENTINEL" Bundle.listD A s' s'.heap := by rw [hhp]; exact vx_Zq.moved hW0.alike (hN.kept hS.2.1)
  have h : ∀ w ∈ Bundle.ownAtoms0 own ic cls names, w.before args s' = true := vx_own hat' (vx_isRefq hU'.1) (vx_isRefq hN'.1) hU'.2.word hN'.2.word
  have hown' : s'.vm.findClass own = some m.cls := by rw [hvm]; exact hown
  have hins : (Cond.instantiable cls 6).before args s' = true := h _ (by simp [Bundle.ownAtoms0])
  obtain ⟨vm₁, cX, kX, hfX, hkX, -, -, X₁, st1⟩ := Y.newCold hexec (own := own) (C := cls) (index := ik) (n := 6) hown' hk' hins hini'
    (g := F0 m pc ls rest) rfl (by rw [hb]; exact d0) (Nat.le_refl _) (Nat.le_refl _)
  generalize hT1 : (T.setVm vm₁).pushCell { cls := cX, slots := kX.instanceTypes.map defaultValue, vm := .none } = T1 at X₁ st1
  have hcat : (Value.ref T.heap.size).category = 1 := rfl
  have hcellA : T1.heap[T.heap.size]? = some (freshCell cX kX) := by rw [← hT1]; exact State.heap_pushCell_size _ _
  have d3' : decode c.code (pc + 3) = .ok (.dup, 1) := by rw [hb]; exact d3
  obtain ⟨U, hsteps, hrun, hend, hW, hsame, ce, hce, hO⟩ := X₁.ctorThrow0 hexec htr (own := own) (cls := cls) (names := names) (ic := ic) hown' hcls hnames h (fun x hx => nomatch hx) hfX hkX hcellA (by rw [hhp, hT]; exact Nat.le_refl _)
    (g := { method := m, pc := pc + 4, locals := ls, stack := .ref T.heap.size :: .ref T.heap.size :: rest, locked := none }) rfl hsize rfl rfl (rest := rest) rfl
    (by rw [hb]; exact d4) (by rw [hb]; exact d7) hout hRframes (by simp only [List.map_cons, List.sum_cons, hcat]; omega) hlocks
  obtain ⟨f1, f2⟩ := vx_frame hsame
  rw [hhp] at f1 f2
  have hWs : s.WarmedH U.vm := State.WarmedH.trans hW0 hW
  have hcl : s.vm.findClass cls = some ce.cls := by
    have h9 := hO.cls
    rw [hvm] at h9
    exact h9
  have hall : s.sameButNew ({ U with vm := s.vm } : State) locs mc ms := by
    subst hA
    obtain ⟨e1, e2⟩ := hsame
    rw [State.setFrames_setFrames] at e1
    have h2 : (T.setVm s.vm).sameButNew ({ U with vm := s.vm } : State) [] (0 + 1) (0 + 6) := ⟨e1, e2⟩
    have h3 := X.same.trans h2
    rw [List.append_nil] at h3
    exact h3.mono hc hs
  refine ⟨U, ?_, .threw T.heap.size, hrun, hend, Or.inr ⟨T.heap.size, rfl, cls, ce, locs, hx U hWs.alike f1 (fun q hq => f2 q hq (fun z hz => nomatch hz)), hce, hO.vm, hcl, hWs, hall, hf⟩⟩
  refine st1 _ ?_
  show Steps p.tables e below (T1.setTop { method := m, pc := pc + 3, locals := ls, stack := .ref T.heap.size :: rest, locked := none }) _
  jvm_step X₁.here [X₁.here.top, hexec, d3', Value.category]
  exact hsteps
/-- 'throw new E("text")': new; dup; ldc; invokespecial; athrow -/
theorem vx_throwS {cc : ByteArray} {pc : Nat} (hexec : p.tables.exec = Jvm.exec) (hb : c.code = cc) (hl : l.stackTraces = false) {own cls text : String} {names : List String} {ik is ic mc ms sa : Nat} {A : Nat → Prop}
    (hown : s.vm.findClass own = some m.cls) (hcls : Bundle.fit cls = true) (hnames : ∀ n ∈ names, Bundle.fit n = true)
    (hk : (Cond.classLink own ik cls).before args s = true) (hini : (Cond.initialized cls).before args s = true) (hstr : vk_R own is text sa s) (hat : ∀ w ∈ vx_atS own ic cls names, w.before args s = true)
    (hgood : ∀ w ∈ Cond.classLink own ik cls :: Cond.initialized cls :: vx_atS own ic cls names, vx_ot w = true)
    (hU : vx_Zq Bundle.tN "UNASSIGNED_STACK" Bundle.steD A s s.heap) (hN : vx_Zq Bundle.tN "SUPPRESSED_SENTINEL" Bundle.listD A s s.heap) (hS : va_S A s.heap H locs) (hsize : ls.size = c.maxLocals)
    (d0 : decode cc pc = .ok (.new ik, 3)) (d3 : decode cc (pc + 3) = .ok (.dup, 1)) (d4 : decode cc (pc + 4) = .ok (.ldc is, 2)) (d6 : decode cc (pc + 6) = .ok (.invokespecial ic, 3)) (d9 : decode cc (pc + 9) = .ok (.athrow, 1))
    (hout : ∀ x ∈ c.exceptionTable.toList, covers x (pc + 9) = false)
    (hRframes : names.length + 3 < R.frames) (hRlocals : (rest.map fun v => v.category).sum + (13 * (names.length + 1) + 43) ≤ R.locals) (hRcells : cells + 1 ≤ R.cells) (hRslots : slots + 6 ≤ R.slots) (hlocks : meth.locks = false)
    (hx : ∀ t : State, s.vm.Alike t.vm → H.size ≤ t.heap.size → (∀ q : Nat, q < H.size → t.heap[q]? = H[q]?) → XC cls s t)
    (hf : ∀ z ∈ locs, free z.base) (hc : cells + 1 ≤ mc) (hs : slots + 6 ≤ ms) :
    W p l e R s m args below meth c H locs cells slots (vx_MQ below Qc XC args s mc ms free) (F0 m pc ls rest) := by
  intro T hT X
  have htr : e.platform.stackTraces = false := (show e.platform.stackTraces = l.stackTraces by rw [X.admits.platform]).trans hl
  have Y := vx_rebase X (R' := { frames := R.frames, locals := R.locals, cells := 1, slots := 6 }) (Nat.le_refl _) (Nat.le_refl _) hRcells hRslots
  obtain ⟨s', hA⟩ : ∃ z, z = (T.setVm s.vm).setFrames (.invoking m args :: below) := ⟨_, rfl⟩
  rw [← hA] at Y
  have hvm : s'.vm = s.vm := by rw [hA]; rfl
  have hhp : s'.heap = H := by rw [hA]; exact hT
  have hW0 : s.WarmedH s'.vm := by rw [hvm]; exact State.WarmedH.refl s
  have hat' : ∀ w ∈ vx_atS own ic cls names, w.before args s' = true := fun w hw => vx_ot_at hW0 hvm.symm (hgood w (List.mem_cons_of_mem _ (List.mem_cons_of_mem _ hw))) (hat w hw)
  have hk' : (Cond.classLink own ik cls).before args s' = true := vx_ot_at hW0 hvm.symm (hgood _ List.mem_cons_self) hk
  have hini' : (Cond.initialized cls).before args s' = true := vx_ot_at hW0 hvm.symm (hgood _ (List.mem_cons_of_mem _ List.mem_cons_self)) hini
  have hU' : vx_Zq Bundle.tN "UNASSIGNED_STACK" Bundle.steD A s' s'.heap := by rw [hhp]; exact vx_Zq.moved hW0.alike (hU.kept hS.2.1)
  have hN' : vx_Zq Bundle.tN "SUPPRESSED_SENTINEL" Bundle.listD A s' s'.heap := by rw [hhp]; exact vx_Zq.moved hW0.alike (hN.kept hS.2.1)
  have h : ∀ w ∈ Bundle.ownAtoms own ic cls names, w.before args s' = true := vx_own hat' (vx_isRefq hU'.1) (vx_isRefq hN'.1) hU'.2.word hN'.2.word
  have hown' : s'.vm.findClass own = some m.cls := by rw [hvm]; exact hown
  have hins : (Cond.instantiable cls 6).before args s' = true := h _ (by simp [Bundle.ownAtoms])
  obtain ⟨vm₁, cX, kX, hfX, hkX, -, -, X₁, st1⟩ := Y.newCold hexec (own := own) (C := cls) (index := ik) (n := 6) hown' hk' hins hini'
    (g := F0 m pc ls rest) rfl (by rw [hb]; exact d0) (Nat.le_refl _) (Nat.le_refl _)
  generalize hT1 : (T.setVm vm₁).pushCell { cls := cX, slots := kX.instanceTypes.map defaultValue, vm := .none } = T1 at X₁ st1
  have hcat : (Value.ref T.heap.size).category = 1 := rfl
  have hcellA : T1.heap[T.heap.size]? = some (freshCell cX kX) := by rw [← hT1]; exact State.heap_pushCell_size _ _
  have d3' : decode c.code (pc + 3) = .ok (.dup, 1) := by rw [hb]; exact d3
  have d4' : decode c.code (pc + 4) = .ok (.ldc is, 2) := by rw [hb]; exact d4
  have hstr' : vk_R own is text sa s' := vk_R.warm hW0 hstr
  obtain ⟨U, hsteps, hrun, hend, hW, hsame, ce, hce, hO⟩ := X₁.ctorThrowS hexec htr (own := own) (cls := cls) (names := names) (ic := ic) hown' hcls hnames h (fun x hx => nomatch hx) hfX hkX hcellA (by rw [hhp, hT]; exact Nat.le_refl _) (msg := .ref sa) rfl
    (g := { method := m, pc := pc + 6, locals := ls, stack := .ref sa :: .ref T.heap.size :: .ref T.heap.size :: rest, locked := none }) rfl hsize rfl rfl (rest := rest) rfl
    (by rw [hb]; exact d6) (by rw [hb]; exact d9) hout hRframes (by simp only [List.map_cons, List.sum_cons, hcat]; omega) hlocks
  obtain ⟨f1, f2⟩ := vx_frame hsame
  rw [hhp] at f1 f2
  have hWs : s.WarmedH U.vm := State.WarmedH.trans hW0 hW
  have hcl : s.vm.findClass cls = some ce.cls := by
    have h9 := hO.cls
    rw [hvm] at h9
    exact h9
  have hall : s.sameButNew ({ U with vm := s.vm } : State) locs mc ms := by
    subst hA
    obtain ⟨e1, e2⟩ := hsame
    rw [State.setFrames_setFrames] at e1
    have h2 : (T.setVm s.vm).sameButNew ({ U with vm := s.vm } : State) [] (0 + 1) (0 + 6) := ⟨e1, e2⟩
    have h3 := X.same.trans h2
    rw [List.append_nil] at h3
    exact h3.mono hc hs
  refine ⟨U, ?_, .threw T.heap.size, hrun, hend, Or.inr ⟨T.heap.size, rfl, cls, ce, locs, hx U hWs.alike f1 (fun q hq => f2 q hq (fun z hz => nomatch hz)), hce, hO.vm, hcl, hWs, hall, hf⟩⟩
  refine st1 _ ?_
  show Steps p.tables e below (T1.setTop { method := m, pc := pc + 3, locals := ls, stack := .ref T.heap.size :: rest, locked := none }) _
  jvm_step X₁.here [X₁.here.top, hexec, d3', Value.category]
  exact X₁.ldcString hexec (own := own) (text := text) (index := is) (a := sa) hown' hstr'.1 hstr'.2
    (g := { method := m, pc := pc + 4, locals := ls, stack := .ref T.heap.size :: .ref T.heap.size :: rest, locked := none }) rfl d4' _ hsteps
/-- 'throw new E("text")', the text by a wide index -/
theorem vx_throwSW {cc : ByteArray} {pc : Nat} (hexec : p.tables.exec = Jvm.exec) (hb : c.code = cc) (hl : l.stackTraces = false) {own cls text : String} {names : List String} {ik is ic mc ms sa : Nat} {A : Nat → Prop}
    (hown : s.vm.findClass own = some m.cls) (hcls : Bundle.fit cls = true) (hnames : ∀ n ∈ names, Bundle.fit n = true)
    (hk : (Cond.classLink own ik cls).before args s = true) (hini : (Cond.initialized cls).before args s = true) (hstr : vk_R own is text sa s) (hat : ∀ w ∈ vx_atS own ic cls names, w.before args s = true)
    (hgood : ∀ w ∈ Cond.classLink own ik cls :: Cond.initialized cls :: vx_atS own ic cls names, vx_ot w = true)
    (hU : vx_Zq Bundle.tN "UNASSIGNED_STACK" Bundle.steD A s s.heap) (hN : vx_Zq Bundle.tN "SUPPRESSED_SENTINEL" Bundle.listD A s s.heap) (hS : va_S A s.heap H locs) (hsize : ls.size = c.maxLocals)
    (d0 : decode cc pc = .ok (.new ik, 3)) (d3 : decode cc (pc + 3) = .ok (.dup, 1)) (d4 : decode cc (pc + 4) = .ok (.ldc_w is, 3)) (d7 : decode cc (pc + 7) = .ok (.invokespecial ic, 3)) (d10 : decode cc (pc + 10) = .ok (.athrow, 1))
    (hout : ∀ x ∈ c.exceptionTable.toList, covers x (pc + 10) = false)
    (hRframes : names.length + 3 < R.frames) (hRlocals : (rest.map fun v => v.category).sum + (13 * (names.length + 1) + 43) ≤ R.locals) (hRcells : cells + 1 ≤ R.cells) (hRslots : slots + 6 ≤ R.slots) (hlocks : meth.locks = false)
    (hx : ∀ t : State, s.vm.Alike t.vm → H.size ≤ t.heap.size → (∀ q : Nat, q < H.size → t.heap[q]? = H[q]?) → XC cls s t)
    (hf : ∀ z ∈ locs, free z.base) (hc : cells + 1 ≤ mc) (hs : slots + 6 ≤ ms) :
    W p l e R s m args below meth c H locs cells slots (vx_MQ below Qc XC args s mc ms free) (F0 m pc ls rest) := by
  intro T hT X
  have htr : e.platform.stackTraces = false := (show e.platform.stackTraces = l.stackTraces by rw [X.admits.platform]).trans hl
  have Y := vx_rebase X (R' := { frames := R.frames, locals := R.locals, cells := 1, slots := 6 }) (Nat.le_refl _) (Nat.le_refl _) hRcells hRslots
  obtain ⟨s', hA⟩ : ∃ z, z = (T.setVm s.vm).setFrames (.invoking m args :: below) := ⟨_, rfl⟩
  rw [← hA] at Y
  have hvm : s'.vm = s.vm := by rw [hA]; rfl
  have hhp : s'.heap = H := by rw [hA]; exact hT
  have hW0 : s.WarmedH s'.vm := by rw [hvm]; exact State.WarmedH.refl s
  have hat' : ∀ w ∈ vx_atS own ic cls names, w.before args s' = true := fun w hw => vx_ot_at hW0 hvm.symm (hgood w (List.mem_cons_of_mem _ (List.mem_cons_of_mem _ hw))) (hat w hw)
  have hk' : (Cond.classLink own ik cls).before args s' = true := vx_ot_at hW0 hvm.symm (hgood _ List.mem_cons_self) hk
  have hini' : (Cond.initialized cls).before args s' = true := vx_ot_at hW0 hvm.symm (hgood _ (List.mem_cons_of_mem _ List.mem_cons_self)) hini
  have hU' : vx_Zq Bundle.tN "UNASSIGNED_STACK" Bundle.steD A s' s'.heap := by rw [hhp]; exact vx_Zq.moved hW0.alike (hU.kept hS.2.1)
  have hN' : vx_Zq Bundle.tN "SUPPRESSED_SENTINEL" Bundle.listD A s' s'.heap := by rw [hhp]; exact vx_Zq.moved hW0.alike (hN.kept hS.2.1)
  have h : ∀ w ∈ Bundle.ownAtoms own ic cls names, w.before args s' = true := vx_own hat' (vx_isRefq hU'.1) (vx_isRefq hN'.1) hU'.2.word hN'.2.word
  have hown' : s'.vm.findClass own = some m.cls := by rw [hvm]; exact hown
  have hins : (Cond.instantiable cls 6).before args s' = true := h _ (by simp [Bundle.ownAtoms])
  obtain ⟨vm₁, cX, kX, hfX, hkX, -, -, X₁, st1⟩ := Y.newCold hexec (own := own) (C := cls) (index := ik) (n := 6) hown' hk' hins hini'
    (g := F0 m pc ls rest) rfl (by rw [hb]; exact d0) (Nat.le_refl _) (Nat.le_refl _)
  generalize hT1 : (T.setVm vm₁).pushCell { cls := cX, slots := kX.instanceTypes.map defaultValue, vm := .none } = T1 at X₁ st1
  have hcat : (Value.ref T.heap.size).category = 1 := rfl
  have hcellA : T1.heap[T.heap.size]? = some (freshCell cX kX) := by rw [← hT1]; exact State.heap_pushCell_size _ _
  have d3' : decode c.code (pc + 3) = .ok (.dup, 1) := by rw [hb]; exact d3
  have d4' : decode c.code (pc + 4) = .ok (.ldc_w is, 3) := by rw [hb]; exact d4
  have hstr' : vk_R own is text sa s' := vk_R.warm hW0 hstr
  obtain ⟨U, hsteps, hrun, hend, hW, hsame, ce, hce, hO⟩ := X₁.ctorThrowS hexec htr (own := own) (cls := cls) (names := names) (ic := ic) hown' hcls hnames h (fun x hx => nomatch hx) hfX hkX hcellA (by rw [hhp, hT]; exact Nat.le_refl _) (msg := .ref sa) rfl
    (g := { method := m, pc := pc + 7, locals := ls, stack := .ref sa :: .ref T.heap.size :: .ref T.heap.size :: rest, locked := none }) rfl hsize rfl rfl (rest := rest) rfl
    (by rw [hb]; exact d7) (by rw [hb]; exact d10) hout hRframes (by simp only [List.map_cons, List.sum_cons, hcat]; omega) hlocks
  obtain ⟨f1, f2⟩ := vx_frame hsame
  rw [hhp] at f1 f2
  have hWs : s.WarmedH U.vm := State.WarmedH.trans hW0 hW
  have hcl : s.vm.findClass cls = some ce.cls := by
    have h9 := hO.cls
    rw [hvm] at h9
    exact h9
  have hall : s.sameButNew ({ U with vm := s.vm } : State) locs mc ms := by
    subst hA
    obtain ⟨e1, e2⟩ := hsame
    rw [State.setFrames_setFrames] at e1
    have h2 : (T.setVm s.vm).sameButNew ({ U with vm := s.vm } : State) [] (0 + 1) (0 + 6) := ⟨e1, e2⟩
    have h3 := X.same.trans h2
    rw [List.append_nil] at h3
    exact h3.mono hc hs
  refine ⟨U, ?_, .threw T.heap.size, hrun, hend, Or.inr ⟨T.heap.size, rfl, cls, ce, locs, hx U hWs.alike f1 (fun q hq => f2 q hq (fun z hz => nomatch hz)), hce, hO.vm, hcl, hWs, hall, hf⟩⟩
  refine st1 _ ?_
  show Steps p.tables e below (T1.setTop { method := m, pc := pc + 3, locals := ls, stack := .ref T.heap.size :: rest, locked := none }) _
  jvm_step X₁.here [X₁.here.top, hexec, d3', Value.category]
  exact X₁.ldcStringW hexec (own := own) (text := text) (index := is) (a := sa) hown' hstr'.1 hstr'.2
    (g := { method := m, pc := pc + 4, locals := ls, stack := .ref T.heap.size :: .ref T.heap.size :: rest, locked := none }) rfl d4' _ hsteps
end Ends
section Bodies
variable {l : Launch}
theorem vx_ofW {y : MethodName} {ws ws' : List Cond} {rm : Room} {Pc : Array Value → State → Prop} {Qc : Array Value → State → Outcome → State → Prop} {XC : String → State → State → Prop} {mc ms : Nat} {free : Addr → Prop} {cc : ByteArray} {maxL : Nat} {ret : Option FieldType}
    (hy : plainName y.cls = true) (hw : ws = Cond.code y cc maxL ret :: ws')
    (body : ∀ p e s m args below meth c s₁, BodyLoose p l y (headSpec ws rm) cc maxL ret e s m args below meth c s₁ → c.maxLocals = maxL → (∀ x ∈ c.exceptionTable.toList, False) → Pc args s →
      W p l e (headSpec ws rm).room s m args below meth c s.heap [] 0 0 (vx_MQ below Qc XC args s mc ms free) (entryFrame m args maxL)) : vx_Met l y ws rm Pc Qc XC mc ms free := by
  refine MetFree.of_bodyS (code := cc) (maxLocals := maxL) (ret := ret) hy ?_ ?_
  · intro args s m h hn
    obtain ⟨meth, c, h1, h2, h3, h4, h5, h6, -, -⟩ := Cond.code_spec hn (atoms_spec (ws := ws) h _ (by rw [hw]; exact List.mem_cons_self))
    exact ⟨meth, c, h1, h2, h3, h4, h5, h6⟩
  · intro p e s m args below meth c s₁ B hml hP _
    have hh0 : s₁.heap = s.heap := by rw [B.state]; rfl
    have ht : ∀ x ∈ c.exceptionTable.toList, False := by
      obtain ⟨meth9, c9, h1, h2, -, -, -, -, h7, -⟩ := Cond.code_spec B.named (atoms_spec (ws := ws) B.pre _ (by rw [hw]; exact List.mem_cons_self))
      cases Option.some.inj (h1.symm.trans B.method)
      cases Option.some.inj (h2.symm.trans (Stand.of_body B).code)
      intro x hx
      rw [Array.isEmpty_iff.mp h7] at hx
      cases hx
    obtain ⟨t, a1, o, b1, b2, b3⟩ := body p e s m args below meth c s₁ B hml ht hP s₁ hh0 (Stand.of_body B)
    exact ⟨t, o, a1, b1, b2, b3⟩
/-- the table of a body with handlers -/
theorem vx_table {p : Program} {x y : MethodName} {S : Spec} {cc bytes : ByteArray} {maxL maxL' : Nat} {ret ret' : Option FieldType} {e : Env} {s s₁ : State} {m : MethodId} {args : Array Value} {below : List Frame} {meth : Method} {c : Code} {hh : List (Nat × Nat × Nat × Nat)}
    (B : BodyLoose p l y S cc maxL ret e s m args below meth c s₁) (h : (Cond.codeWith y bytes maxL' ret' hh).before args s = true) : c.exceptionTable.toList = tableOf hh := by
  obtain ⟨m9, meth9, c9, hn9, h1, h2, -, -, h6, -⟩ := Cond.codeWith_spec h
  cases Option.some.inj (hn9.symm.trans B.named)
  cases Option.some.inj (h1.symm.trans B.method)
  cases Option.some.inj (h2.symm.trans (Stand.of_body B).code)
  rw [← h6, table_eq]
end Bodies
end VXA
/-! ===== END ===== -/
/-! ===== BEGIN a static call of a method with an exception table ===== -/
section VXS
variable {p : Program} {l : Launch} {e : Env} {R : Room} {s : State} {m : MethodId} {args : Array Value} {below : List Frame} {meth : Method} {c : Code} {T : State} {H : Heap} {locs : List Loc} {cells slots : Nat}
abbrev vx_CSW (R : Room) (s : State) (args : Array Value) (own : String) (index : Nat) (y : MethodName) (bytes : ByteArray) (maxL : Nat) (ret : Option FieldType) (hh : List (Nat × Nat × Nat × Nat)) (ws : List Cond) (rm : Room) (mc ms n : Nat) : Prop :=
  (rm.cells = mc ∧ rm.slots = ms ∧ rm.frames + 1 ≤ R.frames ∧ 8 + (maxL + 11) + rm.locals ≤ R.locals ∧ (∀ w ∈ ws, ∀ (a' : Array Value) (U : State), s.WarmedH U.vm → w.before a' U = true) ∧ Cond.codeWith y bytes maxL ret hh ∈ ws) ∧
  (Cond.codeWith y bytes maxL ret hh).before args s = true ∧ (Cond.initialized y.cls).before args s = true ∧ (y.cls ≠ "java/lang/invoke/MethodHandle" ∧ y.cls ≠ "java/lang/invoke/VarHandle") ∧
  (∀ sig, parseMethodDescriptor y.desc = some sig → n = sig.parameters.length) ∧ (Cond.methodLink own index y).before args s = true ∧ (Cond.static y).before args s = true
theorem vx_cwSW {own : String} {index maxL mc ms : Nat} {y : MethodName} {bytes : ByteArray} {ret : Option FieldType} {hh : List (Nat × Nat × Nat × Nat)} {Ts ws ws' : List Cond} {rm : Room} (n : Nat) (ht : ∀ w ∈ Ts, w.before args s = true) (hT : GoodIn Ts (va_wsS own index y ws)) (hw : ws = Cond.codeWith y bytes maxL ret hh :: ws') (hrc : rm.cells = mc) (hrs : rm.slots = ms)
    (hd : y.cls ≠ "java/lang/invoke/MethodHandle" ∧ y.cls ≠ "java/lang/invoke/VarHandle" ∧ (parseMethodDescriptor y.desc).map (fun d => d.parameters.length) = some n) (hR : rm.frames + 1 ≤ R.frames ∧ 8 + (maxL + 11) + rm.locals ≤ R.locals) :
    vx_CSW R s args own index y bytes maxL ret hh ws rm mc ms n := by
  have ok : ∀ w ∈ va_wsS own index y ws, w.before args s = true := fun w h => ht w (hT w h).1
  have hG : GoodIn Ts ws := fun w h => hT w (by unfold va_wsS; exact List.mem_append_right _ h)
  have hc : Cond.codeWith y bytes maxL ret hh ∈ ws := by rw [hw]; exact List.mem_cons_self
  refine ⟨⟨hrc, hrs, hR.1, hR.2, pay_in ht hG, hc⟩, ht _ (hG _ hc).1, ok _ (by simp [va_wsS]), ⟨hd.1, hd.2.1⟩, fun sig h => ?_, ok _ (by simp [va_wsS]), ok _ (by simp [va_wsS])⟩
  have h2 := hd.2.2
  rw [h] at h2
  exact (Option.some.inj h2).symm
theorem vx_callSW (X : Stand p l e R s m args below meth c T locs cells slots) (hexec : p.tables.exec = Jvm.exec) {own : String} {index : Nat} {y : MethodName} {bytes : ByteArray} {maxL : Nat} {ret : Option FieldType} {hh : List (Nat × Nat × Nat × Nat)}
    (hown : s.vm.findClass own = some m.cls) (hlink : (Cond.methodLink own index y).before args s = true) (hstat : (Cond.static y).before args s = true) (hinit : (Cond.initialized y.cls).before args s = true)
    (hcode : (Cond.codeWith y bytes maxL ret hh).before args s = true) (hy : y.cls ≠ "java/lang/invoke/MethodHandle" ∧ y.cls ≠ "java/lang/invoke/VarHandle")
    {W9 : Nat} {Pre : Pt → Array Value → Prop} {Post : Pt → Array Value → Option Value → Pt → Prop} (hK : Back l R p e below s args y 3 W9 Pre Post)
    {g : JFrame} (hg : g.method = m) (hsize : g.locals.size = c.maxLocals) {argsL rest : List Value} (hlen : ∀ sig, parseMethodDescriptor y.desc = some sig → argsL.length = sig.parameters.length)
    (hstack : g.stack = argsL.reverse ++ rest) (hW : 2 * g.monitorRoom + (rest.map fun v => v.category).sum ≤ W9) (hdg : decode c.code g.pc = .ok (.invokestatic index, 3))
    (hpre : ∀ vm₁, s.WarmedH vm₁ → Pre ⟨T.setVm vm₁, locs, cells, slots⟩ argsL.toArray) :
    ∃ (v : Option Value) (vm₁ : Vm) (B : Pt), s.WarmedH vm₁ ∧ Stand p l e R s m args below meth c B.U B.locs B.cells B.slots ∧ Post ⟨T.setVm vm₁, locs, cells, slots⟩ argsL.toArray v B ∧
      ∀ target, Steps p.tables e below (B.U.setTop { g with pc := g.pc + 3, stack := v.toList ++ rest }) target → Steps p.tables e below (T.setTop g) target := by
  obtain ⟨mk, methM, cM, hnamed, hmethM, -, -, -, -, -, -, hsigM⟩ := Cond.codeWith_spec hcode
  have hstatic : methM.isStatic = true := Cond.static_spec hnamed hmethM hstat
  obtain ⟨kP, hkP, -⟩ := className_of_methodNamed hnamed
  have hinitP : kP.init = .initialized := Cond.initialized_spec (findClass_of_methodNamed hnamed) hkP hinit
  obtain ⟨vm₁, X₁, hstep₁⟩ := X.invokestatic hexec hown hlink hnamed hmethM hstatic hkP hinitP hy (g := g) hg (argsL := argsL) (rest := rest) (hlen _ hsigM) hstack hdg
  obtain ⟨v, B, X', hpost, hsteps⟩ := hK m meth c ⟨T.setVm vm₁, locs, cells, slots⟩ { g with stack := rest } (.invokestatic index) mk argsL.toArray X₁ hg hsize hdg hW (X₁.named hnamed) (hpre vm₁ X₁.warmed)
  exact ⟨v, vm₁, B, X₁.warmed, X', hpost, fun target h => hstep₁ _ fun acts => by rw [doInvoke_state]; exact hsteps.trans h⟩
theorem vx_runSW {y : MethodName} {bytes cc : ByteArray} {maxL nL mc ms n index : Nat} {ret : Option FieldType} {hh : List (Nat × Nat × Nat × Nat)} {ws : List Cond} {rm : Room} {Pc : Array Value → State → Prop} {Qc : Array Value → State → Outcome → State → Prop} {free : Addr → Prop} {Ts : List Cond} {own : String} {As rest : List Value} {g : JFrame}
    (S : CallFix p m c cc nL s args Ts own) (hM : Met l y ws rm Pc Qc mc ms free) (cw : vx_CSW R s args own index y bytes maxL ret hh ws rm mc ms n) (hp : PreS s H Pc As)
    (hg : g.method = m) (hn : As.length = n) (hsize : g.locals.size = nL) (hstack : g.stack = As.reverse ++ rest) (hW : 2 * g.monitorRoom + (rest.map fun v => v.category).sum ≤ 8) (hdg : decode cc g.pc = .ok (.invokestatic index, 3)) (hf : cells + mc ≤ R.cells ∧ slots + ms ≤ R.slots) :
    va_Run p l e R s m args below meth c H locs cells slots mc ms g rest (Qc As.toArray) (free) := by
  obtain ⟨⟨hrc, hrs, hfr, hlo, hws, hcw⟩, hcode, hini, hy, hlen, hl, hstt⟩ := cw
  have hK : Back l R p e below s args y 3 8 (PreOf R mc ms Pc) (PostOf Qc mc ms free) := va_backW (hh := hh) (bytes := bytes) (maxL := maxL) (ret := ret) hM hp.1 hrc hrs hfr hlo hws hcw (fun a' U hW => word_at hW (Or.inl (by first | rfl | simp [Cond.onTables, Cond.keeps, Cond.steady])) hini)
  obtain ⟨hx, hb, hml, ho, -⟩ := S
  intro T hT X
  obtain ⟨v, vm₁, ⟨U', l2, c2, s2⟩, hW₁, X', ⟨g', mk, t, L, e1, e2, hq, h1, hL, h2, h3⟩, st⟩ := vx_callSW X hx (hh := hh) (bytes := bytes) (maxL := maxL) (ret := ret) ho hl hstt hini hcode hy hK hg (hsize.trans hml.symm) (argsL := As) (rest := rest) (fun sig h => hn.trans (hlen sig h)) hstack hW (by rw [hb]; exact hdg)
    (fun vm₁ hW₁ => ⟨hf.1, hf.2, hp.2 (T.setVm vm₁) hT hW₁⟩)
  dsimp only [Pt.U, Pt.locs, Pt.cells, Pt.slots] at X' e1 e2 h1 h2 h3 st
  subst h1; subst h2; subst h3
  exact ⟨v, (T.setVm vm₁).calling g' mk As.toArray, t, U', L, hT, X', hL, e1, e2, hq, st⟩
/-- not caught here, past rows that name other classes: it goes on to the caller -/
theorem vx_outP {p : Program} {l : Launch} {e : Env} {R : Room} {s : State} {m : MethodId} {args : Array Value} {below : List Frame} {meth : Method} {c : Code} {H : Heap} {locs : List Loc} {cells slots : Nat} {free : Addr → Prop} {ls : Array Slot} {rest : List Value} {Qc : Array Value → State → Outcome → State → Prop} {XC : String → State → State → Prop}
    {pc : Nat} {own E : String} {ce : Cell} {q : Addr} {mc ms : Nat} (hown : s.vm.findClass own = some m.cls) (hlocks : meth.locks = false)
    (hpass : ∀ z ∈ c.exceptionTable.toList, covers z pc = false ∨ (z.catchType ≠ 0 ∧ ∃ nm : String, (Cond.classLink own z.catchType nm).before args s = true ∧ va_Nc E nm s)) (hcell : H[q]? = some ce) (hv : ce.vm = .none) (hcl : s.vm.findClass E = some ce.cls)
    (hx : ∀ t : State, t.heap = H → s.vm.Alike t.vm → XC E s t) (hf : ∀ z ∈ locs, free z.base) (hc : cells ≤ mc) (hs : slots ≤ ms) :
    vx_W p l e R s m args below meth c H locs cells slots (vx_MQ below Qc XC args s mc ms free) (F0 m pc ls rest) q := by
  intro T hT X
  have hpl : e.platform.magicAccessors = ({} : Platform).magicAccessors := by rw [X.admits.platform]
  obtain ⟨vm', hW', X', st⟩ := X.outThrough hlocks q (g := F0 m pc ls rest) rfl rfl rfl (cell := ce) (by rw [hT]; exact hcell) (by rw [hv]; rfl)
    (by obtain ⟨k9, h9, -⟩ := Vm.findClass_spec hcl; exact ⟨k9, h9⟩) (fun z hz => by
      rcases hpass z hz with h | ⟨hz0, nm, hl1, hn1⟩
      · exact Or.inl h
      · obtain ⟨c6, hc6, hcl6⟩ := Cond.classLink_spec hown hl1 e.platform hpl
        obtain ⟨a8, b8, h1, h2, h3⟩ := hn1
        cases Option.some.inj (h1.symm.trans hcl)
        cases Option.some.inj (h2.symm.trans hc6)
        exact Or.inr ⟨hz0, _, hcl6, h3⟩)
  obtain ⟨g₀, hfr⟩ := X'.frames_eq
  have hcell9 : ((T.setVm vm').setFrames (.throwing q :: below)).heap[q]? = some ce := by
    show T.heap[q]? = some ce
    rw [hT]; exact hcell
  have hend : Ended ((T.setVm vm').setFrames (.throwing q :: below)) below (.threw q) := State.frames_setFrames _ (State.cur_lt_of_frames hfr)
  refine ⟨(T.setVm vm').setFrames (.throwing q :: below), ?_, .threw q, X'.here.running, hend, Or.inr ⟨q, rfl, E, ce, locs, hx _ hT (X'.ends _).1.alike, hcell9, hv, hcl, (X'.ends _).1, (X'.ends _).2.mono hc hs, hf⟩⟩
  rw [X.pushThrowing_eq]
  exact st
/-- a thing of a world lies in the heap -/
theorem vx_lt {D : va_G} {cl : List vw_C} {ws : va_W} {H1 : Heap} (h : va_P D cl ws H1) {k : Nat} {q : Nat × va_E} (hk : ws[k]? = some q) : q.1 < H1.size := (h k q hk).lt
end VXS
/-! ===== END ===== -/
/-! ===== BEGIN methods with a table of their own: called by a name, returning or throwing ===== -/
section VXH
/-! vx_backW, vx_callVX, vx_callSX, vx_callVW, vx_runVW, vx_runVX, vx_runSX, vx_ofWH follow the same proofs as their sisters above (Free/Laws.lean, Shelf42/LK1.lean); vx_outP calls Shelf42/NT130.lean (outThrough). -/
section
variable {l : Launch} {R : Room} {p : Program} {e : Env} {below : List Frame} {s : State} {sargs : Array Value} {y : MethodName} {len W9 : Nat}
theorem vx_backW {ws : List Cond} {rm : Room} {Pc : Array Value → State → Prop} {Qc : Array Value → State → Outcome → State → Prop} {XC : String → State → State → Prop} {mc ms : Nat} {free : Addr → Prop} {bytes : ByteArray} {maxL : Nat} {ret : Option FieldType} {hh : List (Nat × Nat × Nat × Nat)}
    (hM : vx_Met l y ws rm Pc Qc XC mc ms free) (hblind : FrameBlind Pc) (hrc : rm.cells = mc) (hrs : rm.slots = ms)
    (hframes : rm.frames + 1 ≤ R.frames) (hlocals : W9 + (maxL + 11) + rm.locals ≤ R.locals)
    (hws : ∀ w ∈ ws, ∀ a' U, s.WarmedH U.vm → w.before a' U = true) (hcode : Cond.codeWith y bytes maxL ret hh ∈ ws) (hinit : ∀ a' U, s.WarmedH U.vm → (Cond.initialized y.cls).before a' U = true) :
    vx_Back l R p e below s sargs y len W9 (PreOf R mc ms Pc) (PostOf Qc mc ms free) (vx_Post XC mc ms free) := by
  intro m meth c A g ig mk a X hg hsize hdg hW hn hp
  have h1 : (headSpec ws rm).pre.before a A.U = true := atoms_intro fun w hw => hws w hw _ _ X.warmed
  have h2 : (Cond.codeWith y bytes maxL ret hh).before a A.U = true := hws _ hcode _ _ X.warmed
  have h3 : (Cond.initialized y.cls).before a A.U = true := hinit _ _ X.warmed
  have h4 : A.cells + (headSpec ws rm).room.cells ≤ R.cells := by rw [show (headSpec ws rm).room.cells = mc from hrc]; exact hp.1
  have h5 : A.slots + (headSpec ws rm).room.slots ≤ R.slots := by rw [show (headSpec ws rm).room.slots = ms from hrs]; exact hp.2.1
  have hPc : Pc a (A.U.calling g mk a) := hblind _ _ _ _ hp.2.2
  obtain ⟨U, Ls, c0, s0⟩ := A
  dsimp only [Pt.U, Pt.locs, Pt.cells, Pt.slots] at h1 h2 h3 h4 h5 X hn hPc ⊢
  obtain ⟨m9, methY, cY, hn9, hmY, hcY, -, hlY, -⟩ := Cond.codeWith_spec h2
  cases Option.some.inj (hn9.symm.trans hn)
  obtain ⟨kY, hkY, -⟩ := className_of_methodNamed hn
  have hinitY : kY.init = .initialized := Cond.initialized_spec (findClass_of_methodNamed hn) hkY h3
  have h : At U g.method c below := by rw [hg]; exact X.here
  have hlocals9 : W9 + (maxL + 11) + (headSpec ws rm).room.locals ≤ R.locals := hlocals
  have happ : (headSpec ws rm).appliesLoose y e.platform (U.calling g mk a) = true :=
    Spec.appliesLoose_calling (g := g) h hdg hn hkY hinitY
      (X.room_calling (g := g) (R' := (headSpec ws rm).room) hsize hmY hcY hframes (by rw [hlY]; omega) h4 h5) h1
  obtain ⟨mid, hmid⟩ := h.above
  have hfr : (U.setTop g).frames = (.java g :: mid) ++ below := by rw [State.frames_setTop' g h.top, hmid]; rfl
  obtain ⟨o, s₂, hsteps, -, hend, hq⟩ := Steps.callFree hM p X.admits X.cas X.clock (acts := []) hfr happ hPc trivial
  have hq' : vx_Q Qc XC mc ms free a (U.calling g mk a) o s₂ := hq
  rw [State.frames_setTop' g h.top] at hend
  obtain ⟨g₀, hg0⟩ := Option.isSome_iff_exists.mp h.top
  obtain ⟨r, hr⟩ := State.topJava?_eq_some.mp hg0
  have hr' : (({ U with heap := s₂.heap, slotsUsed := s₂.slotsUsed } : State).setVm s₂.vm).frames = .java g₀ :: r := hr
  rcases hq' with ⟨hqc, L, hfe, hL⟩ | ⟨q, rfl, E, ce, L, hx, hce, hcv, hcl, hW₂, hsm, hL⟩
  · obtain ⟨⟨v, rfl⟩, hW₂, e2, q2, q3, q4, q5, q6⟩ := id hfe
    have e3 : s₂ = ({ (U.calling g mk a).setFrames s₂.frames with heap := s₂.heap, slotsUsed := s₂.slotsUsed } : State).setVm s₂.vm := by
      have : s₂ = ({ s₂ with vm := (U.calling g mk a).vm } : State).setVm s₂.vm := rfl
      rw [e2] at this
      exact this
    obtain ⟨c₂, i₂, len₂, hc₂, hd₂, hf₂⟩ := hend
    have hW' : U.WarmedH s₂.vm := hW₂
    have hcc : c₂ = c := by
      have h1 : s₂.code? g.method = U.code? g.method := by
        rw [State.code?_eq, State.code?_eq, hW'.alike.method?]
      exact Option.some.inj (hc₂.symm.trans (h1.trans h.code))
    subst hcc
    have hlen : len₂ = len := by rw [hdg] at hd₂; cases hd₂; rfl
    subst hlen
    have hs₂ : s₂ = (({ U with heap := s₂.heap, slotsUsed := s₂.slotsUsed } : State).setVm s₂.vm).setTop { g with pc := g.pc + len₂, stack := v.toList ++ g.stack } := by
      refine e3.trans ?_
      rw [hf₂, State.calling_eq h.top, State.setFrames_setFrames, State.setTop_of_frames _ hr', hr]
      rfl
    have hsame : U.sameButNew ({ U with heap := s₂.heap, slotsUsed := s₂.slotsUsed } : State) L mc ms := by
      refine ⟨?_, q2, q3, q4, q5, q6⟩
      obtain ⟨t, ht, -⟩ := State.frames_cons hr
      show ({ U with heap := s₂.heap, slotsUsed := s₂.slotsUsed } : State) = { U.setFrames U.frames with heap := s₂.heap, slotsUsed := s₂.slotsUsed }
      rw [State.setFrames_self ht]
    subst hg
    refine Or.inl ⟨v, ⟨(({ U with heap := s₂.heap, slotsUsed := s₂.slotsUsed } : State).setVm s₂.vm), Ls ++ L, c0 + mc, s0 + ms⟩,
      ⟨X.admits, X.cas, X.clock, X.frames, X.room, X.hears, X.method, X.code, (X.here.setHeapUsed s₂.heap s₂.slotsUsed).setVm hW'.alike, X.tail, State.WarmedH.trans X.warmed hW', X.limits, X.bytes, X.same.trans (hsame.setVm s.vm)⟩,
      ⟨g, mk, s₂, L, rfl, rfl, hqc, rfl, hL, rfl, rfl⟩, ?_⟩
    show Steps p.tables e below _ ((({ U with heap := s₂.heap, slotsUsed := s₂.slotsUsed } : State).setVm s₂.vm).setTop { g with pc := g.pc + len₂, stack := v.toList ++ g.stack })
    rw [← hs₂]
    exact hsteps
  · obtain ⟨e2, q2, q3, q4, q5, q6⟩ := id hsm
    have e3 : s₂ = ({ (U.calling g mk a).setFrames s₂.frames with heap := s₂.heap, slotsUsed := s₂.slotsUsed } : State).setVm s₂.vm := by
      have : s₂ = ({ s₂ with vm := (U.calling g mk a).vm } : State).setVm s₂.vm := rfl
      rw [e2] at this
      exact this
    have hf₂ : s₂.frames = .throwing q :: .java g :: U.frames.tail := hend
    have hW' : U.WarmedH s₂.vm := hW₂
    have hs₂ : s₂ = ((({ U with heap := s₂.heap, slotsUsed := s₂.slotsUsed } : State).setVm s₂.vm).setTop g).pushFrame (.throwing q) := by
      refine e3.trans ?_
      rw [hf₂, State.calling_eq h.top, State.setFrames_setFrames, State.pushFrame, State.frames_setTop _ hr', State.setTop_of_frames _ hr', State.setFrames_setFrames, hr]
      rfl
    have hsame : U.sameButNew ({ U with heap := s₂.heap, slotsUsed := s₂.slotsUsed } : State) L mc ms := by
      refine ⟨?_, q2, q3, q4, q5, q6⟩
      obtain ⟨t, ht, -⟩ := State.frames_cons hr
      show ({ U with heap := s₂.heap, slotsUsed := s₂.slotsUsed } : State) = { U.setFrames U.frames with heap := s₂.heap, slotsUsed := s₂.slotsUsed }
      rw [State.setFrames_self ht]
    subst hg
    refine Or.inr ⟨q, ⟨(({ U with heap := s₂.heap, slotsUsed := s₂.slotsUsed } : State).setVm s₂.vm), Ls ++ L, c0 + mc, s0 + ms⟩,
      ⟨X.admits, X.cas, X.clock, X.frames, X.room, X.hears, X.method, X.code, (X.here.setHeapUsed s₂.heap s₂.slotsUsed).setVm hW'.alike, X.tail, State.WarmedH.trans X.warmed hW', X.limits, X.bytes, X.same.trans (hsame.setVm s.vm)⟩,
      ⟨g, mk, s₂, L, E, ce, rfl, rfl, hx, hce, hcv, hcl, rfl, hL, rfl, rfl⟩, ?_⟩
    show Steps p.tables e below _ (((({ U with heap := s₂.heap, slotsUsed := s₂.slotsUsed } : State).setVm s₂.vm).setTop g).pushFrame (.throwing q))
    rw [← hs₂]
    exact hsteps
end
variable {p : Program} {l : Launch} {e : Env} {R : Room} {s : State} {m : MethodId} {args : Array Value} {below : List Frame} {meth : Method} {c : Code} {T : State} {H : Heap} {locs : List Loc} {cells slots : Nat}
theorem vx_callVX (X : Stand p l e R s m args below meth c T locs cells slots) (hexec : p.tables.exec = Jvm.exec) {own C : String} {index : Nat} {y : MethodName} {bytes : ByteArray} {maxL : Nat} {ret : Option FieldType} {hh : List (Nat × Nat × Nat × Nat)}
    (hown : s.vm.findClass own = some m.cls) (hlink : (Cond.methodLink own index y).before args s = true) (hinst : (Cond.instanceMethod y).before args s = true) (hsel : (Cond.selects C y y).before args s = true)
    (hcode : (Cond.codeWith y bytes maxL ret hh).before args s = true) (hy : y.cls ≠ "java/lang/invoke/MethodHandle" ∧ y.cls ≠ "java/lang/invoke/VarHandle")
    {W9 : Nat} {Pre : Pt → Array Value → Prop} {Post : Pt → Array Value → Option Value → Pt → Prop} {PostX : Pt → Array Value → Addr → Pt → Prop} (hK : vx_Back l R p e below s args y 3 W9 Pre Post PostX)
    {b : Addr} {cellB : Cell} (hcell : T.heap[b]? = some cellB) (hobj : cellB.vm.isStatics = false) (hcls : s.vm.findClass C = some cellB.cls)
    {g : JFrame} (hg : g.method = m) (hsize : g.locals.size = c.maxLocals) {argsL rest : List Value} (hlen : ∀ sig, parseMethodDescriptor y.desc = some sig → argsL.length = sig.parameters.length)
    (hstack : g.stack = argsL.reverse ++ .ref b :: rest) (hW : 2 * g.monitorRoom + (rest.map fun v => v.category).sum ≤ W9) (hdg : decode c.code g.pc = .ok (.invokevirtual index, 3))
    (hpre : ∀ vm₁, s.WarmedH vm₁ → Pre ⟨T.setVm vm₁, locs, cells, slots⟩ (Value.ref b :: argsL).toArray) :
    (∃ (v : Option Value) (vm₁ : Vm) (B : Pt), s.WarmedH vm₁ ∧ Stand p l e R s m args below meth c B.U B.locs B.cells B.slots ∧ Post ⟨T.setVm vm₁, locs, cells, slots⟩ (Value.ref b :: argsL).toArray v B ∧
      ∀ target, Steps p.tables e below (B.U.setTop { g with pc := g.pc + 3, stack := v.toList ++ rest }) target → Steps p.tables e below (T.setTop g) target) ∨
    (∃ (q : Addr) (vm₁ : Vm) (B : Pt), s.WarmedH vm₁ ∧ Stand p l e R s m args below meth c B.U B.locs B.cells B.slots ∧ PostX ⟨T.setVm vm₁, locs, cells, slots⟩ (Value.ref b :: argsL).toArray q B ∧
      Steps p.tables e below (T.setTop g) ((B.U.setTop { g with stack := rest }).pushFrame (.throwing q))) := by
  obtain ⟨mk, methM, hnamed, hmethM, hstM, habM⟩ := Cond.instanceMethod_spec hinst
  obtain ⟨m8, methM', cM, hn8, hmethM', -, -, -, -, -, -, hsigM⟩ := Cond.codeWith_spec hcode
  cases Option.some.inj (hn8.symm.trans hnamed)
  cases hmethM.symm.trans hmethM'
  obtain ⟨c2, r2, m2, q1, q2, q3, q4, kP, hkP, hkPi⟩ := Cond.selects_spec hsel
  cases hcls.symm.trans q1
  cases (State.methodFound?_of_named hnamed hy).symm.trans q2
  cases hnamed.symm.trans q3
  have hselP : selectMethod e.platform s.vm cellB.cls mk = .method mk := by rw [Launch.admits_selectMethod X.admits]; exact q4
  obtain ⟨vm₁, X₁, hstep₁⟩ := X.invokevirtual hexec hown hlink hnamed hmethM hstM hkP hkPi hy (a := b) (cell := cellB) hcell
    (fun z h => by rw [h] at hobj; cases hobj) hselP hmethM habM hkP hkPi (g := g) hg (argsL := argsL) (rest := rest) (hlen _ hsigM) hstack hdg
  rcases hK m meth c ⟨T.setVm vm₁, locs, cells, slots⟩ { g with stack := rest } (.invokevirtual index) mk (Value.ref b :: argsL).toArray X₁ hg hsize hdg hW (X₁.named hnamed) (hpre vm₁ X₁.warmed) with ⟨v, B, X', hpost, hsteps⟩ | ⟨q, B, X', hpost, hsteps⟩
  · exact Or.inl ⟨v, vm₁, B, X₁.warmed, X', hpost, fun target h => hstep₁ _ fun acts => by rw [doInvoke_state]; exact hsteps.trans h⟩
  · exact Or.inr ⟨q, vm₁, B, X₁.warmed, X', hpost, hstep₁ _ fun acts => by rw [doInvoke_state]; exact hsteps⟩
theorem vx_callSX (X : Stand p l e R s m args below meth c T locs cells slots) (hexec : p.tables.exec = Jvm.exec) {own : String} {index : Nat} {y : MethodName} {bytes : ByteArray} {maxL : Nat} {ret : Option FieldType} {hh : List (Nat × Nat × Nat × Nat)}
    (hown : s.vm.findClass own = some m.cls) (hlink : (Cond.methodLink own index y).before args s = true) (hstat : (Cond.static y).before args s = true) (hinit : (Cond.initialized y.cls).before args s = true)
    (hcode : (Cond.codeWith y bytes maxL ret hh).before args s = true) (hy : y.cls ≠ "java/lang/invoke/MethodHandle" ∧ y.cls ≠ "java/lang/invoke/VarHandle")
    {W9 : Nat} {Pre : Pt → Array Value → Prop} {Post : Pt → Array Value → Option Value → Pt → Prop} {PostX : Pt → Array Value → Addr → Pt → Prop} (hK : vx_Back l R p e below s args y 3 W9 Pre Post PostX)
    {g : JFrame} (hg : g.method = m) (hsize : g.locals.size = c.maxLocals) {argsL rest : List Value} (hlen : ∀ sig, parseMethodDescriptor y.desc = some sig → argsL.length = sig.parameters.length)
    (hstack : g.stack = argsL.reverse ++ rest) (hW : 2 * g.monitorRoom + (rest.map fun v => v.category).sum ≤ W9) (hdg : decode c.code g.pc = .ok (.invokestatic index, 3))
    (hpre : ∀ vm₁, s.WarmedH vm₁ → Pre ⟨T.setVm vm₁, locs, cells, slots⟩ argsL.toArray) :
    (∃ (v : Option Value) (vm₁ : Vm) (B : Pt), s.WarmedH vm₁ ∧ Stand p l e R s m args below meth c B.U B.locs B.cells B.slots ∧ Post ⟨T.setVm vm₁, locs, cells, slots⟩ argsL.toArray v B ∧
      ∀ target, Steps p.tables e below (B.U.setTop { g with pc := g.pc + 3, stack := v.toList ++ rest }) target → Steps p.tables e below (T.setTop g) target) ∨
    (∃ (q : Addr) (vm₁ : Vm) (B : Pt), s.WarmedH vm₁ ∧ Stand p l e R s m args below meth c B.U B.locs B.cells B.slots ∧ PostX ⟨T.setVm vm₁, locs, cells, slots⟩ argsL.toArray q B ∧
      Steps p.tables e below (T.setTop g) ((B.U.setTop { g with stack := rest }).pushFrame (.throwing q))) := by
  obtain ⟨mk, methM, cM, hnamed, hmethM, -, -, -, -, -, -, hsigM⟩ := Cond.codeWith_spec hcode
  have hstatic : methM.isStatic = true := Cond.static_spec hnamed hmethM hstat
  obtain ⟨kP, hkP, -⟩ := className_of_methodNamed hnamed
  have hinitP : kP.init = .initialized := Cond.initialized_spec (findClass_of_methodNamed hnamed) hkP hinit
  obtain ⟨vm₁, X₁, hstep₁⟩ := X.invokestatic hexec hown hlink hnamed hmethM hstatic hkP hinitP hy (g := g) hg (argsL := argsL) (rest := rest) (hlen _ hsigM) hstack hdg
  rcases hK m meth c ⟨T.setVm vm₁, locs, cells, slots⟩ { g with stack := rest } (.invokestatic index) mk argsL.toArray X₁ hg hsize hdg hW (X₁.named hnamed) (hpre vm₁ X₁.warmed) with ⟨v, B, X', hpost, hsteps⟩ | ⟨q, B, X', hpost, hsteps⟩
  · exact Or.inl ⟨v, vm₁, B, X₁.warmed, X', hpost, fun target h => hstep₁ _ fun acts => by rw [doInvoke_state]; exact hsteps.trans h⟩
  · exact Or.inr ⟨q, vm₁, B, X₁.warmed, X', hpost, hstep₁ _ fun acts => by rw [doInvoke_state]; exact hsteps⟩
theorem vx_callVW (X : Stand p l e R s m args below meth c T locs cells slots) (hexec : p.tables.exec = Jvm.exec) {own C : String} {index : Nat} {y : MethodName} {bytes : ByteArray} {maxL : Nat} {ret : Option FieldType} {hh : List (Nat × Nat × Nat × Nat)}
    (hown : s.vm.findClass own = some m.cls) (hlink : (Cond.methodLink own index y).before args s = true) (hinst : (Cond.instanceMethod y).before args s = true) (hsel : (Cond.selects C y y).before args s = true)
    (hcode : (Cond.codeWith y bytes maxL ret hh).before args s = true) (hy : y.cls ≠ "java/lang/invoke/MethodHandle" ∧ y.cls ≠ "java/lang/invoke/VarHandle")
    {W9 : Nat} {Pre : Pt → Array Value → Prop} {Post : Pt → Array Value → Option Value → Pt → Prop} (hK : Back l R p e below s args y 3 W9 Pre Post)
    {b : Addr} {cellB : Cell} (hcell : T.heap[b]? = some cellB) (hobj : cellB.vm.isStatics = false) (hcls : s.vm.findClass C = some cellB.cls)
    {g : JFrame} (hg : g.method = m) (hsize : g.locals.size = c.maxLocals) {argsL rest : List Value} (hlen : ∀ sig, parseMethodDescriptor y.desc = some sig → argsL.length = sig.parameters.length)
    (hstack : g.stack = argsL.reverse ++ .ref b :: rest) (hW : 2 * g.monitorRoom + (rest.map fun v => v.category).sum ≤ W9) (hdg : decode c.code g.pc = .ok (.invokevirtual index, 3))
    (hpre : ∀ vm₁, s.WarmedH vm₁ → Pre ⟨T.setVm vm₁, locs, cells, slots⟩ (Value.ref b :: argsL).toArray) :
    ∃ (v : Option Value) (vm₁ : Vm) (B : Pt), s.WarmedH vm₁ ∧ Stand p l e R s m args below meth c B.U B.locs B.cells B.slots ∧ Post ⟨T.setVm vm₁, locs, cells, slots⟩ (Value.ref b :: argsL).toArray v B ∧
      ∀ target, Steps p.tables e below (B.U.setTop { g with pc := g.pc + 3, stack := v.toList ++ rest }) target → Steps p.tables e below (T.setTop g) target := by
  obtain ⟨mk, methM, hnamed, hmethM, hstM, habM⟩ := Cond.instanceMethod_spec hinst
  obtain ⟨m8, methM', cM, hn8, hmethM', -, -, -, -, -, -, hsigM⟩ := Cond.codeWith_spec hcode
  cases Option.some.inj (hn8.symm.trans hnamed)
  cases hmethM.symm.trans hmethM'
  obtain ⟨c2, r2, m2, q1, q2, q3, q4, kP, hkP, hkPi⟩ := Cond.selects_spec hsel
  cases hcls.symm.trans q1
  cases (State.methodFound?_of_named hnamed hy).symm.trans q2
  cases hnamed.symm.trans q3
  have hselP : selectMethod e.platform s.vm cellB.cls mk = .method mk := by rw [Launch.admits_selectMethod X.admits]; exact q4
  obtain ⟨vm₁, X₁, hstep₁⟩ := X.invokevirtual hexec hown hlink hnamed hmethM hstM hkP hkPi hy (a := b) (cell := cellB) hcell
    (fun z h => by rw [h] at hobj; cases hobj) hselP hmethM habM hkP hkPi (g := g) hg (argsL := argsL) (rest := rest) (hlen _ hsigM) hstack hdg
  obtain ⟨v, B, X', hpost, hsteps⟩ := hK m meth c ⟨T.setVm vm₁, locs, cells, slots⟩ { g with stack := rest } (.invokevirtual index) mk (Value.ref b :: argsL).toArray X₁ hg hsize hdg hW (X₁.named hnamed) (hpre vm₁ X₁.warmed)
  exact ⟨v, vm₁, B, X₁.warmed, X', hpost, fun target h => hstep₁ _ fun acts => by rw [doInvoke_state]; exact hsteps.trans h⟩
abbrev vx_CVW (R : Room) (s : State) (args : Array Value) (own C : String) (index : Nat) (y : MethodName) (bytes : ByteArray) (maxL : Nat) (ret : Option FieldType) (hh : List (Nat × Nat × Nat × Nat)) (ws : List Cond) (rm : Room) (mc ms n : Nat) : Prop :=
  (rm.cells = mc ∧ rm.slots = ms ∧ rm.frames + 1 ≤ R.frames ∧ 8 + (maxL + 11) + rm.locals ≤ R.locals ∧ (∀ w ∈ ws, ∀ (a' : Array Value) (U : State), s.WarmedH U.vm → w.before a' U = true) ∧ Cond.codeWith y bytes maxL ret hh ∈ ws) ∧
  (Cond.codeWith y bytes maxL ret hh).before args s = true ∧ (Cond.initialized y.cls).before args s = true ∧ (y.cls ≠ "java/lang/invoke/MethodHandle" ∧ y.cls ≠ "java/lang/invoke/VarHandle") ∧
  (∀ sig, parseMethodDescriptor y.desc = some sig → n = sig.parameters.length) ∧ (Cond.methodLink own index y).before args s = true ∧ (Cond.instanceMethod y).before args s = true ∧ (Cond.selects C y y).before args s = true
theorem vx_cwVW {own C : String} {index maxL mc ms : Nat} {y : MethodName} {bytes : ByteArray} {ret : Option FieldType} {hh : List (Nat × Nat × Nat × Nat)} {Ts ws ws' : List Cond} {rm : Room} (n : Nat) (ht : ∀ w ∈ Ts, w.before args s = true) (hT : GoodIn Ts (wsV own index C y ws)) (hw : ws = Cond.codeWith y bytes maxL ret hh :: ws') (hrc : rm.cells = mc) (hrs : rm.slots = ms)
    (hd : y.cls = C ∧ y.cls ≠ "java/lang/invoke/MethodHandle" ∧ y.cls ≠ "java/lang/invoke/VarHandle" ∧ (parseMethodDescriptor y.desc).map (fun d => d.parameters.length) = some n) (hR : rm.frames + 1 ≤ R.frames ∧ 8 + (maxL + 11) + rm.locals ≤ R.locals) :
    vx_CVW R s args own C index y bytes maxL ret hh ws rm mc ms n := by
  obtain ⟨hC, hd⟩ := hd
  subst hC
  have ok : ∀ w ∈ wsV own index y.cls y ws, w.before args s = true := fun w h => ht w (hT w h).1
  have hG : GoodIn Ts ws := fun w h => hT w (by unfold wsV; exact List.mem_append_right _ h)
  have hc : Cond.codeWith y bytes maxL ret hh ∈ ws := by rw [hw]; exact List.mem_cons_self
  refine ⟨⟨hrc, hrs, hR.1, hR.2, pay_in ht hG, hc⟩, ht _ (hG _ hc).1, ok _ (by simp [wsV]), ⟨hd.1, hd.2.1⟩, fun sig h => ?_, ok _ (by simp [wsV]), ok _ (by simp [wsV]), ok _ (by simp [wsV])⟩
  have h2 := hd.2.2
  rw [h] at h2
  exact (Option.some.inj h2).symm
theorem vx_runVW {y : MethodName} {bytes cc : ByteArray} {maxL nL mc ms n index : Nat} {ret : Option FieldType} {hh : List (Nat × Nat × Nat × Nat)} {ws : List Cond} {rm : Room} {Pc : Array Value → State → Prop} {Qc : Array Value → State → Outcome → State → Prop} {free : Addr → Prop} {Ts : List Cond} {own C : String} {b : Addr} {As rest : List Value} {g : JFrame}
    (S : CallFix p m c cc nL s args Ts own) (hM : Met l y ws rm Pc Qc mc ms free) (cw : vx_CVW R s args own C index y bytes maxL ret hh ws rm mc ms n) (hp : PreV s H C b Pc As)
    (hg : g.method = m) (hn : As.length = n) (hsize : g.locals.size = nL) (hstack : g.stack = As.reverse ++ .ref b :: rest) (hW : 2 * g.monitorRoom + (rest.map fun v => v.category).sum ≤ 8) (hdg : decode cc g.pc = .ok (.invokevirtual index, 3)) (hf : cells + mc ≤ R.cells ∧ slots + ms ≤ R.slots) :
    va_Run p l e R s m args below meth c H locs cells slots mc ms g rest (Qc (Value.ref b :: As).toArray) free := by
  obtain ⟨⟨hrc, hrs, hfr, hlo, hws, hcw⟩, hcode, hini, hy, hlen, hl, hin, hse⟩ := cw
  have hK : Back l R p e below s args y 3 8 (PreOf R mc ms Pc) (PostOf Qc mc ms free) := va_backW (hh := hh) (bytes := bytes) (maxL := maxL) (ret := ret) hM hp.1 hrc hrs hfr hlo hws hcw (fun a' U hW => word_at hW (Or.inl (by first | rfl | simp [Cond.onTables, Cond.keeps, Cond.steady])) hini)
  obtain ⟨hx, hb, hml, ho, -⟩ := S
  obtain ⟨-, ⟨cellB, hcB, hoB, hclB⟩, hPc⟩ := hp
  intro T hT X
  obtain ⟨v, vm₁, ⟨U', l2, c2, s2⟩, hW₁, X', ⟨g', mk, t, L, e1, e2, hq, h1, hL, h2, h3⟩, st⟩ := vx_callVW X hx (C := C) (hh := hh) (bytes := bytes) (maxL := maxL) (ret := ret) ho hl hin hse hcode hy hK (by rw [hT]; exact hcB) hoB hclB hg (hsize.trans hml.symm) (argsL := As) (rest := rest) (fun sig h => hn.trans (hlen sig h)) hstack hW (by rw [hb]; exact hdg)
    (fun vm₁ hW₁ => ⟨hf.1, hf.2, hPc (T.setVm vm₁) hT hW₁⟩)
  dsimp only [Pt.U, Pt.locs, Pt.cells, Pt.slots] at X' e1 e2 h1 h2 h3 st
  subst h1; subst h2; subst h3
  exact ⟨v, (T.setVm vm₁).calling g' mk (Value.ref b :: As).toArray, t, U', L, hT, X', hL, e1, e2, hq, st⟩
section
variable {y : MethodName} {bytes cc : ByteArray} {maxL nL mc ms n index : Nat} {ret : Option FieldType} {ws : List Cond} {rm : Room} {Pc : Array Value → State → Prop} {Qc : Array Value → State → Outcome → State → Prop} {XC : String → State → State → Prop} {free : Addr → Prop} {Ts : List Cond} {own C : String} {b : Addr} {As rest : List Value} {g : JFrame}
theorem vx_runVX {hh : List (Nat × Nat × Nat × Nat)} (S : CallFix p m c cc nL s args Ts own) (hM : vx_Met l y ws rm Pc Qc XC mc ms free) (cw : vx_CVW R s args own C index y bytes maxL ret hh ws rm mc ms n) (hp : PreV s H C b Pc As)
    (hg : g.method = m) (hn : As.length = n) (hsize : g.locals.size = nL) (hstack : g.stack = As.reverse ++ .ref b :: rest) (hW : 2 * g.monitorRoom + (rest.map fun v => v.category).sum ≤ 8) (hdg : decode cc g.pc = .ok (.invokevirtual index, 3)) (hf : cells + mc ≤ R.cells ∧ slots + ms ≤ R.slots) :
    vx_Run p l e R s m args below meth c H locs cells slots mc ms g rest (Qc (Value.ref b :: As).toArray) XC free := by
  obtain ⟨⟨hrc, hrs, hfr, hlo, hws, hcw⟩, hcode, hini, hy, hlen, hl, hin, hse⟩ := cw
  have hK : vx_Back l R p e below s args y 3 8 (PreOf R mc ms Pc) (PostOf Qc mc ms free) (vx_Post XC mc ms free) := vx_backW (hh := hh) (bytes := bytes) (maxL := maxL) (ret := ret) hM hp.1 hrc hrs hfr hlo hws hcw (fun a' U hW => word_at hW (Or.inl (by first | rfl | simp [Cond.onTables, Cond.keeps, Cond.steady])) hini)
  obtain ⟨hx, hb, hml, ho, -⟩ := S
  obtain ⟨-, ⟨cellB, hcB, hoB, hclB⟩, hPc⟩ := hp
  intro T hT X
  rcases vx_callVX X hx (C := C) (hh := hh) (bytes := bytes) (maxL := maxL) (ret := ret) ho hl hin hse hcode hy hK (by rw [hT]; exact hcB) hoB hclB hg (hsize.trans hml.symm) (argsL := As) (rest := rest) (fun sig h => hn.trans (hlen sig h)) hstack hW (by rw [hb]; exact hdg)
    (fun vm₁ hW₁ => ⟨hf.1, hf.2, hPc (T.setVm vm₁) hT hW₁⟩) with ⟨v, vm₁, ⟨U', l2, c2, s2⟩, hW₁, X', ⟨g', mk, t, L, e1, e2, hq, h1, hL, h2, h3⟩, st⟩ | ⟨q, vm₁, ⟨U', l2, c2, s2⟩, hW₁, X', ⟨g', mk, t, L, E, ce, e1, e2, hq, hce, hcv, hcl, h1, hL, h2, h3⟩, st⟩
  · dsimp only [Pt.U, Pt.locs, Pt.cells, Pt.slots] at X' e1 e2 h1 h2 h3 st
    subst h1; subst h2; subst h3
    exact Or.inl ⟨v, (T.setVm vm₁).calling g' mk (Value.ref b :: As).toArray, t, U', L, hT, X', hL, e1, e2, hq, st⟩
  · dsimp only [Pt.U, Pt.locs, Pt.cells, Pt.slots] at X' e1 e2 h1 h2 h3 st hcl
    subst h1; subst h2; subst h3
    exact Or.inr ⟨q, (T.setVm vm₁).calling g' mk (Value.ref b :: As).toArray, t, U', L, E, ce, hT, X', hL, e1, e2, hq, hce, hcv, vx_cls hW₁ hcl, st⟩
theorem vx_runSX {hh : List (Nat × Nat × Nat × Nat)} (S : CallFix p m c cc nL s args Ts own) (hM : vx_Met l y ws rm Pc Qc XC mc ms free) (cw : vx_CSW R s args own index y bytes maxL ret hh ws rm mc ms n) (hp : PreS s H Pc As)
    (hg : g.method = m) (hn : As.length = n) (hsize : g.locals.size = nL) (hstack : g.stack = As.reverse ++ rest) (hW : 2 * g.monitorRoom + (rest.map fun v => v.category).sum ≤ 8) (hdg : decode cc g.pc = .ok (.invokestatic index, 3)) (hf : cells + mc ≤ R.cells ∧ slots + ms ≤ R.slots) :
    vx_Run p l e R s m args below meth c H locs cells slots mc ms g rest (Qc As.toArray) XC free := by
  obtain ⟨⟨hrc, hrs, hfr, hlo, hws, hcw⟩, hcode, hini, hy, hlen, hl, hstt⟩ := cw
  have hK : vx_Back l R p e below s args y 3 8 (PreOf R mc ms Pc) (PostOf Qc mc ms free) (vx_Post XC mc ms free) := vx_backW (hh := hh) (bytes := bytes) (maxL := maxL) (ret := ret) hM hp.1 hrc hrs hfr hlo hws hcw (fun a' U hW => word_at hW (Or.inl (by first | rfl | simp [Cond.onTables, Cond.keeps, Cond.steady])) hini)
  obtain ⟨hx, hb, hml, ho, -⟩ := S
  intro T hT X
  rcases vx_callSX X hx (hh := hh) (bytes := bytes) (maxL := maxL) (ret := ret) ho hl hstt hini hcode hy hK hg (hsize.trans hml.symm) (argsL := As) (rest := rest) (fun sig h => hn.trans (hlen sig h)) hstack hW (by rw [hb]; exact hdg)
    (fun vm₁ hW₁ => ⟨hf.1, hf.2, hp.2 (T.setVm vm₁) hT hW₁⟩) with ⟨v, vm₁, ⟨U', l2, c2, s2⟩, hW₁, X', ⟨g', mk, t, L, e1, e2, hq, h1, hL, h2, h3⟩, st⟩ | ⟨q, vm₁, ⟨U', l2, c2, s2⟩, hW₁, X', ⟨g', mk, t, L, E, ce, e1, e2, hq, hce, hcv, hcl, h1, hL, h2, h3⟩, st⟩
  · dsimp only [Pt.U, Pt.locs, Pt.cells, Pt.slots] at X' e1 e2 h1 h2 h3 st
    subst h1; subst h2; subst h3
    exact Or.inl ⟨v, (T.setVm vm₁).calling g' mk As.toArray, t, U', L, hT, X', hL, e1, e2, hq, st⟩
  · dsimp only [Pt.U, Pt.locs, Pt.cells, Pt.slots] at X' e1 e2 h1 h2 h3 st hcl
    subst h1; subst h2; subst h3
    exact Or.inr ⟨q, (T.setVm vm₁).calling g' mk As.toArray, t, U', L, E, ce, hT, X', hL, e1, e2, hq, hce, hcv, vx_cls hW₁ hcl, st⟩
end
end VXH
theorem vx_ofWH {l : Launch} {y : MethodName} {ws ws' : List Cond} {rm : Room} {Pc : Array Value → State → Prop} {Qc : Array Value → State → Outcome → State → Prop} {XC : String → State → State → Prop} {mc ms : Nat} {free : Addr → Prop} {cc : ByteArray} {maxL : Nat} {ret : Option FieldType} {hh : List (Nat × Nat × Nat × Nat)}
    (hy : plainName y.cls = true) (hw : ws = Cond.codeWith y cc maxL ret hh :: ws')
    (body : ∀ p e s m args below meth c s₁, BodyLoose p l y (headSpec ws rm) cc maxL ret e s m args below meth c s₁ → c.maxLocals = maxL → Pc args s →
      W p l e (headSpec ws rm).room s m args below meth c s.heap [] 0 0 (vx_MQ below Qc XC args s mc ms free) (entryFrame m args maxL)) : vx_Met l y ws rm Pc Qc XC mc ms free := by
  refine MetFree.of_bodyS (code := cc) (maxLocals := maxL) (ret := ret) hy ?_ ?_
  · intro args s m h hn
    obtain ⟨m9, meth, c, hn9, h1, h2, h3, h4, -, h5, h6, -⟩ := Cond.codeWith_spec (atoms_spec (ws := ws) h _ (by rw [hw]; exact List.mem_cons_self))
    cases hn.symm.trans hn9
    exact ⟨meth, c, h1, h2, h3, h4, h5, h6⟩
  · intro p e s m args below meth c s₁ B hml hP _
    have hh0 : s₁.heap = s.heap := by rw [B.state]; rfl
    obtain ⟨t, a1, o, b1, b2, b3⟩ := body p e s m args below meth c s₁ B hml hP s₁ hh0 (Stand.of_body B)
    exact ⟨t, o, a1, b1, b2, b3⟩
/-! ===== END ===== -/
end
section
/-! ===== BEGIN printed: names, fields, word lists, decode rows ===== -/
def RX0 : String := "SedgeBarges$Barges"
def TX0 : u_T := fun k => match k with
  | 0 => ("SedgeBarges$Barges", "number", "I", false)
  | 1 => ("SedgeBarges$Barges", "place", "[I", true)
  | 2 => ("SedgeBarges$Barges", "goal", "[I", true)
  | 3 => ("SedgeBarges$Barges", "sedge", "[I", true)
  | 4 => ("SedgeBarges$Barges", "reed", "[I", true)
  | _ => ("SedgeBarges$Barges", "brought", "[I", true)
def tyX0 : Nat → FieldType := fun k => match k with
  | 0 => .int
  | 1 => .array .int
  | 2 => .array .int
  | 3 => .array .int
  | 4 => .array .int
  | _ => .array .int
abbrev wsX00 : List Cond := u_ws RX0 TX0 6
theorem nmX0 : ∀ a, a < 6 → ∀ b, b < 6 → a ≠ b → (TX0 a).2.1 ≠ (TX0 b).2.1 := by decide +kernel
theorem tyX0_ok : ∀ k, k < 6 → parseFieldDescriptor (TX0 k).2.2.1 = some (tyX0 k) := by decide +kernel
abbrev cX0_init : ByteArray := prog_2_method_1_code
def yX0_init : MethodName := ⟨RX0, "<init>", "()V"⟩
abbrev cX0_areFull : ByteArray := prog_2_method_2_code
def yX0_areFull : MethodName := ⟨RX0, "areFull", "()Z"⟩
abbrev cX0_add : ByteArray := prog_2_method_3_code
def yX0_add : MethodName := ⟨RX0, "add", "(I)I"⟩
abbrev cX0_copyFrom : ByteArray := prog_2_method_4_code
def yX0_copyFrom : MethodName := ⟨RX0, "copyFrom", "(LSedgeBarges$Barges;)V"⟩
abbrev cX0_send : ByteArray := prog_2_method_5_code
def yX0_send : MethodName := ⟨RX0, "send", "(II)I"⟩
abbrev cX0_sailOn : ByteArray := prog_2_method_6_code
def yX0_sailOn : MethodName := ⟨RX0, "sailOn", "()V"⟩
abbrev cX0_aboard : ByteArray := prog_2_method_7_code
def yX0_aboard : MethodName := ⟨RX0, "aboard", "(I)I"⟩
abbrev cX0_tell : ByteArray := prog_2_method_8_code
def yX0_tell : MethodName := ⟨RX0, "tell", "(II)I"⟩
abbrev cX0_aboardAll : ByteArray := prog_2_method_9_code
def yX0_aboardAll : MethodName := ⟨RX0, "aboardAll", "()I"⟩
def RX1 : String := "SedgeBarges$Beds"
def TX1 : u_T := fun k => match k with
  | 0 => ("SedgeBarges$Beds", "number", "I", false)
  | 1 => ("SedgeBarges$Beds", "place", "[I", true)
  | 2 => ("SedgeBarges$Beds", "size", "[I", true)
  | 3 => ("SedgeBarges$Beds", "age", "[I", true)
  | 4 => ("SedgeBarges$Beds", "sedge", "[I", true)
  | 5 => ("SedgeBarges$Beds", "untiedSedge", "[I", true)
  | 6 => ("SedgeBarges$Beds", "untiedReed", "[I", true)
  | 7 => ("SedgeBarges$Beds", "tiedSedge", "[I", true)
  | 8 => ("SedgeBarges$Beds", "tiedReed", "[I", true)
  | _ => ("SedgeBarges$Beds", "change", "[I", true)
def tyX1 : Nat → FieldType := fun k => match k with
  | 0 => .int
  | 1 => .array .int
  | 2 => .array .int
  | 3 => .array .int
  | 4 => .array .int
  | 5 => .array .int
  | 6 => .array .int
  | 7 => .array .int
  | 8 => .array .int
  | _ => .array .int
abbrev wsX10 : List Cond := u_ws RX1 TX1 10
theorem nmX1 : ∀ a, a < 10 → ∀ b, b < 10 → a ≠ b → (TX1 a).2.1 ≠ (TX1 b).2.1 := by decide +kernel
theorem tyX1_ok : ∀ k, k < 10 → parseFieldDescriptor (TX1 k).2.2.1 = some (tyX1 k) := by decide +kernel
abbrev cX1_init : ByteArray := prog_3_method_1_code
def yX1_init : MethodName := ⟨RX1, "<init>", "()V"⟩
abbrev cX1_areFull : ByteArray := prog_3_method_2_code
def yX1_areFull : MethodName := ⟨RX1, "areFull", "()Z"⟩
abbrev cX1_add : ByteArray := prog_3_method_3_code
def yX1_add : MethodName := ⟨RX1, "add", "(III)I"⟩
abbrev cX1_copyFrom : ByteArray := prog_3_method_4_code
def yX1_copyFrom : MethodName := ⟨RX1, "copyFrom", "(LSedgeBarges$Beds;)V"⟩
abbrev cX1_given : ByteArray := prog_3_method_5_code
def yX1_given : MethodName := ⟨RX1, "given", "(I)I"⟩
abbrev cX1_sedgeGiven : ByteArray := prog_3_method_6_code
def yX1_sedgeGiven : MethodName := ⟨RX1, "sedgeGiven", "(I)I"⟩
abbrev cX1_cutDown : ByteArray := prog_3_method_7_code
def yX1_cutDown : MethodName := ⟨RX1, "cutDown", "(I)I"⟩
abbrev cX1_tieUp : ByteArray := prog_3_method_8_code
def yX1_tieUp : MethodName := ⟨RX1, "tieUp", "(II)I"⟩
abbrev cX1_rot : ByteArray := prog_3_method_9_code
def yX1_rot : MethodName := ⟨RX1, "rot", "()I"⟩
abbrev cX1_endYear : ByteArray := prog_3_method_10_code
def yX1_endYear : MethodName := ⟨RX1, "endYear", "()V"⟩
abbrev cX1_changeByAge : ByteArray := prog_3_method_11_code
def yX1_changeByAge : MethodName := ⟨RX1, "changeByAge", "(I)I"⟩
abbrev cX1_isCreptInto : ByteArray := prog_3_method_12_code
def yX1_isCreptInto : MethodName := ⟨RX1, "isCreptInto", "(I)Z"⟩
abbrev cX1_tell : ByteArray := prog_3_method_13_code
def yX1_tell : MethodName := ⟨RX1, "tell", "(II)I"⟩
abbrev cX1_sedgeOfAll : ByteArray := prog_3_method_14_code
def yX1_sedgeOfAll : MethodName := ⟨RX1, "sedgeOfAll", "()I"⟩
abbrev cX1_givenByAll : ByteArray := prog_3_method_15_code
def yX1_givenByAll : MethodName := ⟨RX1, "givenByAll", "()I"⟩
abbrev cX1_untiedOfAll : ByteArray := prog_3_method_16_code
def yX1_untiedOfAll : MethodName := ⟨RX1, "untiedOfAll", "()I"⟩
abbrev cX1_tiedOfAll : ByteArray := prog_3_method_17_code
def yX1_tiedOfAll : MethodName := ⟨RX1, "tiedOfAll", "()I"⟩
def RX2 : String := "SedgeBarges$Landings"
def TX2 : u_T := fun k => match k with
  | _ => ("SedgeBarges$Landings", "store", "[I", true)
def tyX2 : Nat → FieldType := fun k => match k with
  | _ => .array .int
abbrev wsX20 : List Cond := u_ws RX2 TX2 1
theorem nmX2 : ∀ a, a < 1 → ∀ b, b < 1 → a ≠ b → (TX2 a).2.1 ≠ (TX2 b).2.1 := by decide +kernel
theorem tyX2_ok : ∀ k, k < 1 → parseFieldDescriptor (TX2 k).2.2.1 = some (tyX2 k) := by decide +kernel
abbrev cX2_init : ByteArray := prog_4_method_1_code
def yX2_init : MethodName := ⟨RX2, "<init>", "()V"⟩
abbrev cX2_copyFrom : ByteArray := prog_4_method_2_code
def yX2_copyFrom : MethodName := ⟨RX2, "copyFrom", "(LSedgeBarges$Landings;)V"⟩
abbrev cX2_sedgePrice : ByteArray := prog_4_method_3_code
def yX2_sedgePrice : MethodName := ⟨RX2, "sedgePrice", "(I)I"⟩
abbrev cX2_reedPrice : ByteArray := prog_4_method_4_code
def yX2_reedPrice : MethodName := ⟨RX2, "reedPrice", "(I)I"⟩
abbrev cX2_thatch : ByteArray := prog_4_method_5_code
def yX2_thatch : MethodName := ⟨RX2, "thatch", "()V"⟩
abbrev cX2_tell : ByteArray := prog_4_method_6_code
def yX2_tell : MethodName := ⟨RX2, "tell", "(II)I"⟩
abbrev cX2_storeOfAll : ByteArray := prog_4_method_7_code
def yX2_storeOfAll : MethodName := ⟨RX2, "storeOfAll", "()I"⟩
def RX3 : String := "SedgeBarges$Waterway"
def TX3 : u_T := fun k => match k with
  | 0 => ("SedgeBarges$Waterway", "day", "I", false)
  | 1 => ("SedgeBarges$Waterway", "coins", "I", false)
  | 2 => ("SedgeBarges$Waterway", "ties", "I", false)
  | 3 => ("SedgeBarges$Waterway", "rotted", "I", false)
  | 4 => ("SedgeBarges$Waterway", "beds", "LSedgeBarges$Beds;", true)
  | 5 => ("SedgeBarges$Waterway", "barges", "LSedgeBarges$Barges;", true)
  | _ => ("SedgeBarges$Waterway", "landings", "LSedgeBarges$Landings;", true)
def tyX3 : Nat → FieldType := fun k => match k with
  | 0 => .int
  | 1 => .int
  | 2 => .int
  | 3 => .int
  | 4 => .object "SedgeBarges$Beds"
  | 5 => .object "SedgeBarges$Barges"
  | _ => .object "SedgeBarges$Landings"
abbrev wsX30 : List Cond := u_ws RX3 TX3 7
theorem nmX3 : ∀ a, a < 7 → ∀ b, b < 7 → a ≠ b → (TX3 a).2.1 ≠ (TX3 b).2.1 := by decide +kernel
theorem tyX3_ok : ∀ k, k < 7 → parseFieldDescriptor (TX3 k).2.2.1 = some (tyX3 k) := by decide +kernel
abbrev cX3_init : ByteArray := prog_5_method_1_code
def yX3_init : MethodName := ⟨RX3, "<init>", "()V"⟩
abbrev cX3_copyFrom : ByteArray := prog_5_method_2_code
def yX3_copyFrom : MethodName := ⟨RX3, "copyFrom", "(LSedgeBarges$Waterway;)V"⟩
abbrev cX3_takeAboard : ByteArray := prog_5_method_3_code
def yX3_takeAboard : MethodName := ⟨RX3, "takeAboard", "(II)I"⟩
abbrev cX3_sellAll : ByteArray := prog_5_method_4_code
def yX3_sellAll : MethodName := ⟨RX3, "sellAll", "(II)I"⟩
abbrev cX3_passDays : ByteArray := prog_5_method_5_code
def yX3_passDays : MethodName := ⟨RX3, "passDays", "(I)I"⟩
abbrev cX3_passDay : ByteArray := prog_5_method_6_code
def yX3_passDay : MethodName := ⟨RX3, "passDay", "()V"⟩
abbrev cX3_tell : ByteArray := prog_5_method_7_code
def yX3_tell : MethodName := ⟨RX3, "tell", "(I)I"⟩
def RX4 : String := "SedgeBarges"
def TX4 : u_T := fun k => match k with
  | 0 => ("SedgeBarges", "now", "LSedgeBarges$Waterway;", true)
  | _ => ("SedgeBarges", "ahead", "LSedgeBarges$Waterway;", true)
def tyX4 : Nat → FieldType := fun k => match k with
  | 0 => .object "SedgeBarges$Waterway"
  | _ => .object "SedgeBarges$Waterway"
abbrev wsX40 : List Cond := u_ws RX4 TX4 2
theorem nmX4 : ∀ a, a < 2 → ∀ b, b < 2 → a ≠ b → (TX4 a).2.1 ≠ (TX4 b).2.1 := by decide +kernel
theorem tyX4_ok : ∀ k, k < 2 → parseFieldDescriptor (TX4 k).2.2.1 = some (tyX4 k) := by decide +kernel
abbrev cX4_init : ByteArray := prog_1_method_1_code
def yX4_init : MethodName := ⟨RX4, "<init>", "()V"⟩
abbrev cX4_bed : ByteArray := prog_1_method_2_code
def yX4_bed : MethodName := ⟨RX4, "bed", "(III)I"⟩
abbrev cX4_cut : ByteArray := prog_1_method_3_code
def yX4_cut : MethodName := ⟨RX4, "cut", "(I)I"⟩
abbrev cX4_tie : ByteArray := prog_1_method_4_code
def yX4_tie : MethodName := ⟨RX4, "tie", "(I)I"⟩
abbrev cX4_buy : ByteArray := prog_1_method_5_code
def yX4_buy : MethodName := ⟨RX4, "buy", "(I)I"⟩
abbrev cX4_about : ByteArray := prog_1_method_6_code
def yX4_about : MethodName := ⟨RX4, "about", "(II)I"⟩
abbrev cX4_best : ByteArray := prog_1_method_7_code
def yX4_best : MethodName := ⟨RX4, "best", "(I)I"⟩
abbrev cX4_barge : ByteArray := prog_1_method_8_code
def yX4_barge : MethodName := ⟨RX4, "barge", "(I)I"⟩
abbrev cX4_sail : ByteArray := prog_1_method_9_code
def yX4_sail : MethodName := ⟨RX4, "sail", "(II)I"⟩
abbrev cX4_load : ByteArray := prog_1_method_10_code
def yX4_load : MethodName := ⟨RX4, "load", "(II)I"⟩
abbrev cX4_sell : ByteArray := prog_1_method_11_code
def yX4_sell : MethodName := ⟨RX4, "sell", "(I)I"⟩
abbrev cX4_told : ByteArray := prog_1_method_12_code
def yX4_told : MethodName := ⟨RX4, "told", "(II)I"⟩
abbrev cX4_landing : ByteArray := prog_1_method_13_code
def yX4_landing : MethodName := ⟨RX4, "landing", "(II)I"⟩
abbrev cX4_would : ByteArray := prog_1_method_14_code
def yX4_would : MethodName := ⟨RX4, "would", "(II)I"⟩
abbrev cX4_advise : ByteArray := prog_1_method_15_code
def yX4_advise : MethodName := ⟨RX4, "advise", "(I)I"⟩
abbrev cX4_count : ByteArray := prog_1_method_16_code
def yX4_count : MethodName := ⟨RX4, "count", "(I)I"⟩
abbrev cX4_pass : ByteArray := prog_1_method_17_code
def yX4_pass : MethodName := ⟨RX4, "pass", "(I)I"⟩
abbrev cX4_foresee : ByteArray := prog_1_method_18_code
def yX4_foresee : MethodName := ⟨RX4, "foresee", "(II)I"⟩
abbrev cX4_mean : ByteArray := prog_1_method_19_code
def yX4_mean : MethodName := ⟨RX4, "mean", "()D"⟩
abbrev cX4_digest : ByteArray := prog_1_method_20_code
def yX4_digest : MethodName := ⟨RX4, "digest", "()J"⟩
abbrev cX4_needBed : ByteArray := prog_1_method_21_code
def yX4_needBed : MethodName := ⟨RX4, "needBed", "(I)V"⟩
abbrev cX4_needBarge : ByteArray := prog_1_method_22_code
def yX4_needBarge : MethodName := ⟨RX4, "needBarge", "(I)V"⟩
abbrev cX4_needLanding : ByteArray := prog_1_method_23_code
def yX4_needLanding : MethodName := ⟨RX4, "needLanding", "(I)V"⟩
abbrev cX4_needPlace : ByteArray := prog_1_method_24_code
def yX4_needPlace : MethodName := ⟨RX4, "needPlace", "(I)V"⟩
abbrev cX4_needFigure : ByteArray := prog_1_method_25_code
def yX4_needFigure : MethodName := ⟨RX4, "needFigure", "(II)V"⟩
abbrev cX4_needDays : ByteArray := prog_1_method_26_code
def yX4_needDays : MethodName := ⟨RX4, "needDays", "(I)V"⟩
abbrev cX4_tenthRoundedUp : ByteArray := prog_1_method_27_code
def yX4_tenthRoundedUp : MethodName := ⟨RX4, "tenthRoundedUp", "(I)I"⟩
abbrev cX4_twentiethRoundedUp : ByteArray := prog_1_method_28_code
def yX4_twentiethRoundedUp : MethodName := ⟨RX4, "twentiethRoundedUp", "(I)I"⟩
abbrev cX4_landingAt : ByteArray := prog_1_method_29_code
def yX4_landingAt : MethodName := ⟨RX4, "landingAt", "(I)I"⟩
def RX5 : String := "SedgeBargesModel"
def TX5 : u_T := fun k => match k with
  | 0 => ("SedgeBargesModel", "thrown", "I", false)
  | 1 => ("SedgeBargesModel", "day", "I", false)
  | 2 => ("SedgeBargesModel", "coins", "I", false)
  | 3 => ("SedgeBargesModel", "ties", "I", false)
  | 4 => ("SedgeBargesModel", "rotted", "I", false)
  | 5 => ("SedgeBargesModel", "beds", "I", false)
  | 6 => ("SedgeBargesModel", "barges", "I", false)
  | 7 => ("SedgeBargesModel", "b", "[I", true)
  | 8 => ("SedgeBargesModel", "g", "[I", true)
  | 9 => ("SedgeBargesModel", "store", "[I", true)
  | 10 => ("SedgeBargesModel", "bAhead", "[I", true)
  | 11 => ("SedgeBargesModel", "gAhead", "[I", true)
  | 12 => ("SedgeBargesModel", "storeAhead", "[I", true)
  | _ => ("SedgeBargesModel", "more", "[I", true)
def tyX5 : Nat → FieldType := fun k => match k with
  | 0 => .int
  | 1 => .int
  | 2 => .int
  | 3 => .int
  | 4 => .int
  | 5 => .int
  | 6 => .int
  | 7 => .array .int
  | 8 => .array .int
  | 9 => .array .int
  | 10 => .array .int
  | 11 => .array .int
  | 12 => .array .int
  | _ => .array .int
abbrev wsX50 : List Cond := u_ws RX5 TX5 14
theorem nmX5 : ∀ a, a < 14 → ∀ b, b < 14 → a ≠ b → (TX5 a).2.1 ≠ (TX5 b).2.1 := by decide +kernel
theorem tyX5_ok : ∀ k, k < 14 → parseFieldDescriptor (TX5 k).2.2.1 = some (tyX5 k) := by decide +kernel
abbrev cX5_init : ByteArray := prog_7_method_1_code
def yX5_init : MethodName := ⟨RX5, "<init>", "()V"⟩
abbrev cX5_thrown : ByteArray := prog_7_method_2_code
def yX5_thrown : MethodName := ⟨RX5, "thrown", "()I"⟩
abbrev cX5_no : ByteArray := prog_7_method_3_code
def yX5_no : MethodName := ⟨RX5, "no", "(I)I"⟩
abbrev cX5_isIn : ByteArray := prog_7_method_4_code
def yX5_isIn : MethodName := ⟨RX5, "isIn", "(III)Z"⟩
abbrev cX5_isBed : ByteArray := prog_7_method_5_code
def yX5_isBed : MethodName := ⟨RX5, "isBed", "(I)Z"⟩
abbrev cX5_isBarge : ByteArray := prog_7_method_6_code
def yX5_isBarge : MethodName := ⟨RX5, "isBarge", "(I)Z"⟩
abbrev cX5_gives : ByteArray := prog_7_method_7_code
def yX5_gives : MethodName := ⟨RX5, "gives", "([II)I"⟩
abbrev cX5_givesSedge : ByteArray := prog_7_method_8_code
def yX5_givesSedge : MethodName := ⟨RX5, "givesSedge", "([II)I"⟩
abbrev cX5_bed : ByteArray := prog_7_method_9_code
def yX5_bed : MethodName := ⟨RX5, "bed", "(III)I"⟩
abbrev cX5_cut : ByteArray := prog_7_method_10_code
def yX5_cut : MethodName := ⟨RX5, "cut", "(I)I"⟩
abbrev cX5_tie : ByteArray := prog_7_method_11_code
def yX5_tie : MethodName := ⟨RX5, "tie", "(I)I"⟩
abbrev cX5_tieOf : ByteArray := prog_7_method_12_code
def yX5_tieOf : MethodName := ⟨RX5, "tieOf", "(II)I"⟩
abbrev cX5_buy : ByteArray := prog_7_method_13_code
def yX5_buy : MethodName := ⟨RX5, "buy", "(I)I"⟩
abbrev cX5_bedTold : ByteArray := prog_7_method_14_code
def yX5_bedTold : MethodName := ⟨RX5, "bedTold", "(II)I"⟩
abbrev cX5_about : ByteArray := prog_7_method_15_code
def yX5_about : MethodName := ⟨RX5, "about", "(II)I"⟩
abbrev cX5_best : ByteArray := prog_7_method_16_code
def yX5_best : MethodName := ⟨RX5, "best", "(I)I"⟩
abbrev cX5_barge : ByteArray := prog_7_method_17_code
def yX5_barge : MethodName := ⟨RX5, "barge", "(I)I"⟩
abbrev cX5_days : ByteArray := prog_7_method_18_code
def yX5_days : MethodName := ⟨RX5, "days", "(II)I"⟩
abbrev cX5_sail : ByteArray := prog_7_method_19_code
def yX5_sail : MethodName := ⟨RX5, "sail", "(II)I"⟩
abbrev cX5_aboard : ByteArray := prog_7_method_20_code
def yX5_aboard : MethodName := ⟨RX5, "aboard", "(I)I"⟩
abbrev cX5_load : ByteArray := prog_7_method_21_code
def yX5_load : MethodName := ⟨RX5, "load", "(II)I"⟩
abbrev cX5_loadOf : ByteArray := prog_7_method_22_code
def yX5_loadOf : MethodName := ⟨RX5, "loadOf", "(III)I"⟩
abbrev cX5_landingAt : ByteArray := prog_7_method_23_code
def yX5_landingAt : MethodName := ⟨RX5, "landingAt", "(I)I"⟩
abbrev cX5_price : ByteArray := prog_7_method_24_code
def yX5_price : MethodName := ⟨RX5, "price", "(II)I"⟩
abbrev cX5_reedPrice : ByteArray := prog_7_method_25_code
def yX5_reedPrice : MethodName := ⟨RX5, "reedPrice", "(II)I"⟩
abbrev cX5_brings : ByteArray := prog_7_method_26_code
def yX5_brings : MethodName := ⟨RX5, "brings", "(III)I"⟩
abbrev cX5_sell : ByteArray := prog_7_method_27_code
def yX5_sell : MethodName := ⟨RX5, "sell", "(I)I"⟩
abbrev cX5_bargeTold : ByteArray := prog_7_method_28_code
def yX5_bargeTold : MethodName := ⟨RX5, "bargeTold", "(II)I"⟩
abbrev cX5_told : ByteArray := prog_7_method_29_code
def yX5_told : MethodName := ⟨RX5, "told", "(II)I"⟩
abbrev cX5_landingTold : ByteArray := prog_7_method_30_code
def yX5_landingTold : MethodName := ⟨RX5, "landingTold", "(II)I"⟩
abbrev cX5_landing : ByteArray := prog_7_method_31_code
def yX5_landing : MethodName := ⟨RX5, "landing", "(II)I"⟩
abbrev cX5_left : ByteArray := prog_7_method_32_code
def yX5_left : MethodName := ⟨RX5, "left", "(I)I"⟩
abbrev cX5_wouldBring : ByteArray := prog_7_method_33_code
def yX5_wouldBring : MethodName := ⟨RX5, "wouldBring", "(II)I"⟩
abbrev cX5_would : ByteArray := prog_7_method_34_code
def yX5_would : MethodName := ⟨RX5, "would", "(II)I"⟩
abbrev cX5_advise : ByteArray := prog_7_method_35_code
def yX5_advise : MethodName := ⟨RX5, "advise", "(I)I"⟩
abbrev cX5_sailOn : ByteArray := prog_7_method_36_code
def yX5_sailOn : MethodName := ⟨RX5, "sailOn", "([II)V"⟩
abbrev cX5_rot : ByteArray := prog_7_method_37_code
def yX5_rot : MethodName := ⟨RX5, "rot", "([II)I"⟩
abbrev cX5_hasReedBeside : ByteArray := prog_7_method_38_code
def yX5_hasReedBeside : MethodName := ⟨RX5, "hasReedBeside", "([II)Z"⟩
abbrev cX5_endYear : ByteArray := prog_7_method_39_code
def yX5_endYear : MethodName := ⟨RX5, "endYear", "([I)V"⟩
abbrev cX5_pass : ByteArray := prog_7_method_40_code
def yX5_pass : MethodName := ⟨RX5, "pass", "([I[I[II)I"⟩
abbrev cX5_pass_ : ByteArray := prog_7_method_41_code
def yX5_pass_ : MethodName := ⟨RX5, "pass", "(I)I"⟩
abbrev cX5_lookAhead : ByteArray := prog_7_method_42_code
def yX5_lookAhead : MethodName := ⟨RX5, "lookAhead", "()V"⟩
abbrev cX5_sum : ByteArray := prog_7_method_43_code
def yX5_sum : MethodName := ⟨RX5, "sum", "([II)I"⟩
abbrev cX5_giveAll : ByteArray := prog_7_method_44_code
def yX5_giveAll : MethodName := ⟨RX5, "giveAll", "([I)I"⟩
abbrev cX5_aboardAll : ByteArray := prog_7_method_45_code
def yX5_aboardAll : MethodName := ⟨RX5, "aboardAll", "()I"⟩
abbrev cX5_summed : ByteArray := prog_7_method_46_code
def yX5_summed : MethodName := ⟨RX5, "summed", "([I[III)I"⟩
abbrev cX5_counted : ByteArray := prog_7_method_47_code
def yX5_counted : MethodName := ⟨RX5, "counted", "(I)I"⟩
abbrev cX5_count : ByteArray := prog_7_method_48_code
def yX5_count : MethodName := ⟨RX5, "count", "(I)I"⟩
abbrev cX5_foresee : ByteArray := prog_7_method_49_code
def yX5_foresee : MethodName := ⟨RX5, "foresee", "(II)I"⟩
abbrev cX5_mean : ByteArray := prog_7_method_50_code
def yX5_mean : MethodName := ⟨RX5, "mean", "()D"⟩
abbrev cX5_digest : ByteArray := prog_7_method_51_code
def yX5_digest : MethodName := ⟨RX5, "digest", "()J"⟩
def RJ9 : String := "java/lang/Math"
def TJ9 : u_T := fun k => match k with
  | _ => ("", "", "", false)
def tyJ9 : Nat → FieldType := fun k => match k with
  | _ => .int
abbrev wsJ90 : List Cond := u_ws RJ9 TJ9 0
theorem nmJ9 : ∀ a, a < 0 → ∀ b, b < 0 → a ≠ b → (TJ9 a).2.1 ≠ (TJ9 b).2.1 := by decide +kernel
theorem tyJ9_ok : ∀ k, k < 0 → parseFieldDescriptor (TJ9 k).2.2.1 = some (tyJ9 k) := by decide +kernel
abbrev cJ9_abs_0f7a4 : ByteArray := prog_12_method_59_code
def yJ9_abs_0f7a4 : MethodName := ⟨RJ9, "abs", "(I)I"⟩
abbrev cJ9_max_7cf53 : ByteArray := prog_12_method_65_code
def yJ9_max_7cf53 : MethodName := ⟨RJ9, "max", "(II)I"⟩
abbrev cJ9_min_7cf53 : ByteArray := prog_12_method_69_code
def yJ9_min_7cf53 : MethodName := ⟨RJ9, "min", "(II)I"⟩
def RJ0 : String := "java/lang/String"
def TJ0 : u_T := fun k => match k with
  | _ => ("", "", "", false)
def tyJ0 : Nat → FieldType := fun k => match k with
  | _ => .int
abbrev wsJ00 : List Cond := u_ws RJ0 TJ0 0
theorem nmJ0 : ∀ a, a < 0 → ∀ b, b < 0 → a ≠ b → (TJ0 a).2.1 ≠ (TJ0 b).2.1 := by decide +kernel
theorem tyJ0_ok : ∀ k, k < 0 → parseFieldDescriptor (TJ0 k).2.2.1 = some (tyJ0 k) := by decide +kernel
def RJ10 : String := "java/lang/System"
def TJ10 : u_T := fun k => match k with
  | _ => ("", "", "", false)
def tyJ10 : Nat → FieldType := fun k => match k with
  | _ => .int
abbrev wsJ100 : List Cond := u_ws RJ10 TJ10 0
theorem nmJ10 : ∀ a, a < 0 → ∀ b, b < 0 → a ≠ b → (TJ10 a).2.1 ≠ (TJ10 b).2.1 := by decide +kernel
theorem tyJ10_ok : ∀ k, k < 0 → parseFieldDescriptor (TJ10 k).2.2.1 = some (tyJ10 k) := by decide +kernel
def RL : String := "SedgeBargesLaw"
abbrev cL_bed : ByteArray := method_3_code
def yL_bed : MethodName := ⟨RL, "bed", "(LSedgeBarges;III[J)I"⟩
abbrev cL_cut : ByteArray := method_4_code
def yL_cut : MethodName := ⟨RL, "cut", "(LSedgeBarges;I[J)I"⟩
abbrev cL_tie : ByteArray := method_5_code
def yL_tie : MethodName := ⟨RL, "tie", "(LSedgeBarges;I[J)I"⟩
abbrev cL_buy : ByteArray := method_6_code
def yL_buy : MethodName := ⟨RL, "buy", "(LSedgeBarges;I[J)I"⟩
abbrev cL_about : ByteArray := method_7_code
def yL_about : MethodName := ⟨RL, "about", "(LSedgeBarges;II[J)I"⟩
abbrev cL_best : ByteArray := method_8_code
def yL_best : MethodName := ⟨RL, "best", "(LSedgeBarges;I[J)I"⟩
abbrev cL_barge : ByteArray := method_9_code
def yL_barge : MethodName := ⟨RL, "barge", "(LSedgeBarges;I[J)I"⟩
abbrev cL_sail : ByteArray := method_10_code
def yL_sail : MethodName := ⟨RL, "sail", "(LSedgeBarges;II[J)I"⟩
abbrev cL_load : ByteArray := method_11_code
def yL_load : MethodName := ⟨RL, "load", "(LSedgeBarges;II[J)I"⟩
abbrev cL_sell : ByteArray := method_12_code
def yL_sell : MethodName := ⟨RL, "sell", "(LSedgeBarges;I[J)I"⟩
abbrev cL_told : ByteArray := method_13_code
def yL_told : MethodName := ⟨RL, "told", "(LSedgeBarges;II[J)I"⟩
abbrev cL_landing : ByteArray := method_14_code
def yL_landing : MethodName := ⟨RL, "landing", "(LSedgeBarges;II[J)I"⟩
abbrev cL_would : ByteArray := method_15_code
def yL_would : MethodName := ⟨RL, "would", "(LSedgeBarges;II[J)I"⟩
abbrev cL_advise : ByteArray := method_16_code
def yL_advise : MethodName := ⟨RL, "advise", "(LSedgeBarges;I[J)I"⟩
abbrev cL_count : ByteArray := method_17_code
def yL_count : MethodName := ⟨RL, "count", "(LSedgeBarges;I[J)I"⟩
abbrev cL_pass : ByteArray := method_18_code
def yL_pass : MethodName := ⟨RL, "pass", "(LSedgeBarges;I[J)I"⟩
abbrev cL_foresee : ByteArray := method_19_code
def yL_foresee : MethodName := ⟨RL, "foresee", "(LSedgeBarges;II[J)I"⟩
abbrev cL_law : ByteArray := code
def yL_law : MethodName := ⟨RL, "law", "([I)Z"⟩
def wsX0_init : List Cond := .code yX0_init cX0_init 1 none :: ([.methodLink RX0 3 objectInit, .instanceMethod objectInit, .code objectInit ⟨#[0xb1]⟩ 1 none, .arrayClass .int, .fieldLink RX0 9 "SedgeBarges$Barges" "place" "[I", .fieldLink RX0 15 "SedgeBarges$Barges" "goal" "[I", .fieldLink RX0 18 "SedgeBarges$Barges" "sedge" "[I", .fieldLink RX0 21 "SedgeBarges$Barges" "reed" "[I", .fieldLink RX0 24 "SedgeBarges$Barges" "brought" "[I"] ++ wsX00)
def wsX0_areFull : List Cond := .code yX0_areFull cX0_areFull 1 (some .boolean) :: ([.fieldLink RX0 27 "SedgeBarges$Barges" "number" "I"] ++ wsX00)
def wsX0_add : List Cond := .code yX0_add cX0_add 3 (some .int) :: ([.fieldLink RX0 27 "SedgeBarges$Barges" "number" "I", .fieldLink RX0 9 "SedgeBarges$Barges" "place" "[I", .fieldLink RX0 15 "SedgeBarges$Barges" "goal" "[I"] ++ wsX00)
def wsX0_copyFrom : List Cond := .code yX0_copyFrom cX0_copyFrom 3 none :: ([.fieldLink RX0 27 "SedgeBarges$Barges" "number" "I", .fieldLink RX0 9 "SedgeBarges$Barges" "place" "[I", .fieldLink RX0 15 "SedgeBarges$Barges" "goal" "[I", .fieldLink RX0 18 "SedgeBarges$Barges" "sedge" "[I", .fieldLink RX0 21 "SedgeBarges$Barges" "reed" "[I", .fieldLink RX0 24 "SedgeBarges$Barges" "brought" "[I"] ++ wsX00)
def wsX0_send : List Cond := .code yX0_send cX0_send 4 (some .int) :: ([.fieldLink RX0 9 "SedgeBarges$Barges" "place" "[I", .methodLink RX0 31 Lib.Math.abs.name, .static Lib.Math.abs.name, .initialized "java/lang/Math", .code Lib.Math.abs.name Lib.Math.abs.code 1 (some .int), .fieldLink RX0 15 "SedgeBarges$Barges" "goal" "[I"] ++ wsX00)
def wsX0_sailOn : List Cond := .code yX0_sailOn cX0_sailOn 3 none :: ([.fieldLink RX0 27 "SedgeBarges$Barges" "number" "I", .fieldLink RX0 15 "SedgeBarges$Barges" "goal" "[I", .fieldLink RX0 9 "SedgeBarges$Barges" "place" "[I", .methodLink RX0 37 Lib.Math.min.name, .static Lib.Math.min.name, .initialized "java/lang/Math", .code Lib.Math.min.name Lib.Math.min.code 2 (some .int), .methodLink RX0 41 Lib.Math.max.name, .static Lib.Math.max.name, .code Lib.Math.max.name Lib.Math.max.code 2 (some .int)] ++ wsX00)
def wsX0_aboard : List Cond := .code yX0_aboard cX0_aboard 2 (some .int) :: ([.fieldLink RX0 18 "SedgeBarges$Barges" "sedge" "[I", .fieldLink RX0 21 "SedgeBarges$Barges" "reed" "[I"] ++ wsX00)
def wsX4_landingAt : List Cond := .code yX4_landingAt cX4_landingAt 2 (some .int) :: ([.fieldLink RX4 147 "SedgeBarges" "LANDING_PLACE" "[I"])
def wsX0_tell : List Cond := .code yX0_tell cX0_tell 3 (some .int) :: ([.fieldLink RX0 9 "SedgeBarges$Barges" "place" "[I", .fieldLink RX0 15 "SedgeBarges$Barges" "goal" "[I", .fieldLink RX0 18 "SedgeBarges$Barges" "sedge" "[I", .fieldLink RX0 21 "SedgeBarges$Barges" "reed" "[I", .fieldLink RX0 24 "SedgeBarges$Barges" "brought" "[I", .static yX4_landingAt, .initialized RX4, .code yX4_landingAt cX4_landingAt 2 (some .int), .fieldLink RX4 147 "SedgeBarges" "LANDING_PLACE" "[I"] ++ wsX00)
def wsX0_aboardAll : List Cond := .code yX0_aboardAll cX0_aboardAll 3 (some .int) :: ([.fieldLink RX0 27 "SedgeBarges$Barges" "number" "I", .methodLink RX0 47 yX0_aboard, .instanceMethod yX0_aboard, .selects RX0 yX0_aboard yX0_aboard, .initialized RX0, .code yX0_aboard cX0_aboard 2 (some .int), .fieldLink RX0 18 "SedgeBarges$Barges" "sedge" "[I", .fieldLink RX0 21 "SedgeBarges$Barges" "reed" "[I"] ++ wsX00)
def wsX1_init : List Cond := .code yX1_init cX1_init 1 none :: ([.methodLink RX1 3 objectInit, .instanceMethod objectInit, .code objectInit ⟨#[0xb1]⟩ 1 none, .arrayClass .int, .fieldLink RX1 9 "SedgeBarges$Beds" "place" "[I", .fieldLink RX1 15 "SedgeBarges$Beds" "size" "[I", .fieldLink RX1 18 "SedgeBarges$Beds" "age" "[I", .fieldLink RX1 21 "SedgeBarges$Beds" "sedge" "[I", .fieldLink RX1 24 "SedgeBarges$Beds" "untiedSedge" "[I", .fieldLink RX1 27 "SedgeBarges$Beds" "untiedReed" "[I", .fieldLink RX1 30 "SedgeBarges$Beds" "tiedSedge" "[I", .fieldLink RX1 33 "SedgeBarges$Beds" "tiedReed" "[I", .fieldLink RX1 36 "SedgeBarges$Beds" "change" "[I"] ++ wsX10)
def wsX1_areFull : List Cond := .code yX1_areFull cX1_areFull 1 (some .boolean) :: ([.fieldLink RX1 39 "SedgeBarges$Beds" "number" "I"] ++ wsX10)
def wsX1_add : List Cond := .code yX1_add cX1_add 5 (some .int) :: ([.fieldLink RX1 39 "SedgeBarges$Beds" "number" "I", .fieldLink RX1 9 "SedgeBarges$Beds" "place" "[I", .fieldLink RX1 15 "SedgeBarges$Beds" "size" "[I", .fieldLink RX1 18 "SedgeBarges$Beds" "age" "[I", .fieldLink RX1 21 "SedgeBarges$Beds" "sedge" "[I"] ++ wsX10)
def wsX1_copyFrom : List Cond := .code yX1_copyFrom cX1_copyFrom 3 none :: ([.fieldLink RX1 39 "SedgeBarges$Beds" "number" "I", .fieldLink RX1 9 "SedgeBarges$Beds" "place" "[I", .fieldLink RX1 15 "SedgeBarges$Beds" "size" "[I", .fieldLink RX1 18 "SedgeBarges$Beds" "age" "[I", .fieldLink RX1 21 "SedgeBarges$Beds" "sedge" "[I", .fieldLink RX1 24 "SedgeBarges$Beds" "untiedSedge" "[I", .fieldLink RX1 27 "SedgeBarges$Beds" "untiedReed" "[I", .fieldLink RX1 30 "SedgeBarges$Beds" "tiedSedge" "[I", .fieldLink RX1 33 "SedgeBarges$Beds" "tiedReed" "[I"] ++ wsX10)
def wsX1_given : List Cond := .code yX1_given cX1_given 4 (some .int) :: ([.fieldLink RX1 18 "SedgeBarges$Beds" "age" "[I", .fieldLink RX1 15 "SedgeBarges$Beds" "size" "[I"] ++ wsX10)
def wsX1_sedgeGiven : List Cond := .code yX1_sedgeGiven cX1_sedgeGiven 2 (some .int) :: ([.fieldLink RX1 21 "SedgeBarges$Beds" "sedge" "[I", .methodLink RX1 46 yX1_given, .instanceMethod yX1_given, .selects RX1 yX1_given yX1_given, .initialized RX1, .code yX1_given cX1_given 4 (some .int), .fieldLink RX1 18 "SedgeBarges$Beds" "age" "[I", .fieldLink RX1 15 "SedgeBarges$Beds" "size" "[I"] ++ wsX10)
def wsX1_cutDown : List Cond := .code yX1_cutDown cX1_cutDown 4 (some .int) :: ([.fieldLink RX1 24 "SedgeBarges$Beds" "untiedSedge" "[I", .fieldLink RX1 27 "SedgeBarges$Beds" "untiedReed" "[I", .fieldLink RX1 18 "SedgeBarges$Beds" "age" "[I", .methodLink RX1 46 yX1_given, .instanceMethod yX1_given, .selects RX1 yX1_given yX1_given, .initialized RX1, .code yX1_given cX1_given 4 (some .int), .fieldLink RX1 15 "SedgeBarges$Beds" "size" "[I", .methodLink RX1 50 yX1_sedgeGiven, .instanceMethod yX1_sedgeGiven, .selects RX1 yX1_sedgeGiven yX1_sedgeGiven, .code yX1_sedgeGiven cX1_sedgeGiven 2 (some .int), .fieldLink RX1 21 "SedgeBarges$Beds" "sedge" "[I"] ++ wsX10)
def wsX1_tieUp : List Cond := .code yX1_tieUp cX1_tieUp 5 (some .int) :: ([.fieldLink RX1 24 "SedgeBarges$Beds" "untiedSedge" "[I", .methodLink RX1 53 Lib.Math.min.name, .static Lib.Math.min.name, .initialized "java/lang/Math", .code Lib.Math.min.name Lib.Math.min.code 2 (some .int), .fieldLink RX1 27 "SedgeBarges$Beds" "untiedReed" "[I", .fieldLink RX1 30 "SedgeBarges$Beds" "tiedSedge" "[I", .fieldLink RX1 33 "SedgeBarges$Beds" "tiedReed" "[I"] ++ wsX10)
def wsX4_tenthRoundedUp : List Cond := .code yX4_tenthRoundedUp cX4_tenthRoundedUp 1 (some .int) :: ([])
def wsX1_rot : List Cond := .code yX1_rot cX1_rot 5 (some .int) :: ([.fieldLink RX1 39 "SedgeBarges$Beds" "number" "I", .fieldLink RX1 24 "SedgeBarges$Beds" "untiedSedge" "[I", .fieldLink RX1 27 "SedgeBarges$Beds" "untiedReed" "[I", .static yX4_tenthRoundedUp, .initialized RX4, .code yX4_tenthRoundedUp cX4_tenthRoundedUp 1 (some .int)] ++ wsX10)
def wsX1_changeByAge : List Cond := .code yX1_changeByAge cX1_changeByAge 1 (some .int) :: ([])
def wsX1_isCreptInto : List Cond := .code yX1_isCreptInto cX1_isCreptInto 3 (some .boolean) :: ([.fieldLink RX1 39 "SedgeBarges$Beds" "number" "I", .fieldLink RX1 9 "SedgeBarges$Beds" "place" "[I", .methodLink RX1 72 Lib.Math.abs.name, .static Lib.Math.abs.name, .initialized "java/lang/Math", .code Lib.Math.abs.name Lib.Math.abs.code 1 (some .int), .fieldLink RX1 21 "SedgeBarges$Beds" "sedge" "[I"] ++ wsX10)
def wsX1_endYear : List Cond := .code yX1_endYear cX1_endYear 2 none :: ([.fieldLink RX1 39 "SedgeBarges$Beds" "number" "I", .fieldLink RX1 36 "SedgeBarges$Beds" "change" "[I", .fieldLink RX1 18 "SedgeBarges$Beds" "age" "[I", .fieldLink RX1 21 "SedgeBarges$Beds" "sedge" "[I", .methodLink RX1 53 Lib.Math.min.name, .static Lib.Math.min.name, .initialized "java/lang/Math", .code Lib.Math.min.name Lib.Math.min.code 2 (some .int), .methodLink RX1 69 Lib.Math.max.name, .static Lib.Math.max.name, .code Lib.Math.max.name Lib.Math.max.code 2 (some .int), .methodLink RX1 62 yX1_changeByAge, .static yX1_changeByAge, .initialized RX1, .code yX1_changeByAge cX1_changeByAge 1 (some .int), .methodLink RX1 65 yX1_isCreptInto, .instanceMethod yX1_isCreptInto, .selects RX1 yX1_isCreptInto yX1_isCreptInto, .code yX1_isCreptInto cX1_isCreptInto 3 (some .boolean), .fieldLink RX1 9 "SedgeBarges$Beds" "place" "[I", .methodLink RX1 72 Lib.Math.abs.name, .static Lib.Math.abs.name, .code Lib.Math.abs.name Lib.Math.abs.code 1 (some .int)] ++ wsX10)
def wsX1_tell : List Cond := .code yX1_tell cX1_tell 3 (some .int) :: ([.fieldLink RX1 9 "SedgeBarges$Beds" "place" "[I", .fieldLink RX1 15 "SedgeBarges$Beds" "size" "[I", .fieldLink RX1 18 "SedgeBarges$Beds" "age" "[I", .fieldLink RX1 21 "SedgeBarges$Beds" "sedge" "[I", .fieldLink RX1 24 "SedgeBarges$Beds" "untiedSedge" "[I", .fieldLink RX1 27 "SedgeBarges$Beds" "untiedReed" "[I", .fieldLink RX1 30 "SedgeBarges$Beds" "tiedSedge" "[I", .fieldLink RX1 33 "SedgeBarges$Beds" "tiedReed" "[I", .methodLink RX1 46 yX1_given, .instanceMethod yX1_given, .selects RX1 yX1_given yX1_given, .initialized RX1, .code yX1_given cX1_given 4 (some .int), .methodLink RX1 50 yX1_sedgeGiven, .instanceMethod yX1_sedgeGiven, .selects RX1 yX1_sedgeGiven yX1_sedgeGiven, .code yX1_sedgeGiven cX1_sedgeGiven 2 (some .int)] ++ wsX10)
def wsX1_sedgeOfAll : List Cond := .code yX1_sedgeOfAll cX1_sedgeOfAll 3 (some .int) :: ([.fieldLink RX1 39 "SedgeBarges$Beds" "number" "I", .fieldLink RX1 21 "SedgeBarges$Beds" "sedge" "[I"] ++ wsX10)
def wsX1_givenByAll : List Cond := .code yX1_givenByAll cX1_givenByAll 3 (some .int) :: ([.fieldLink RX1 39 "SedgeBarges$Beds" "number" "I", .methodLink RX1 46 yX1_given, .instanceMethod yX1_given, .selects RX1 yX1_given yX1_given, .initialized RX1, .code yX1_given cX1_given 4 (some .int), .fieldLink RX1 18 "SedgeBarges$Beds" "age" "[I", .fieldLink RX1 15 "SedgeBarges$Beds" "size" "[I"] ++ wsX10)
def wsX1_untiedOfAll : List Cond := .code yX1_untiedOfAll cX1_untiedOfAll 3 (some .int) :: ([.fieldLink RX1 39 "SedgeBarges$Beds" "number" "I", .fieldLink RX1 24 "SedgeBarges$Beds" "untiedSedge" "[I", .fieldLink RX1 27 "SedgeBarges$Beds" "untiedReed" "[I"] ++ wsX10)
def wsX1_tiedOfAll : List Cond := .code yX1_tiedOfAll cX1_tiedOfAll 3 (some .int) :: ([.fieldLink RX1 39 "SedgeBarges$Beds" "number" "I", .fieldLink RX1 30 "SedgeBarges$Beds" "tiedSedge" "[I", .fieldLink RX1 33 "SedgeBarges$Beds" "tiedReed" "[I"] ++ wsX10)
def wsX2_init : List Cond := .code yX2_init cX2_init 1 none :: ([.methodLink RX2 3 objectInit, .instanceMethod objectInit, .code objectInit ⟨#[0xb1]⟩ 1 none, .arrayClass .int, .fieldLink RX2 9 "SedgeBarges$Landings" "store" "[I"] ++ wsX20)
def wsX2_copyFrom : List Cond := .code yX2_copyFrom cX2_copyFrom 3 none :: ([.fieldLink RX2 9 "SedgeBarges$Landings" "store" "[I"] ++ wsX20)
def wsX2_sedgePrice : List Cond := .code yX2_sedgePrice cX2_sedgePrice 2 (some .int) :: ([.fieldLink RX2 9 "SedgeBarges$Landings" "store" "[I", .methodLink RX2 18 Lib.Math.max.name, .static Lib.Math.max.name, .initialized "java/lang/Math", .code Lib.Math.max.name Lib.Math.max.code 2 (some .int)] ++ wsX20)
def wsX2_reedPrice : List Cond := .code yX2_reedPrice cX2_reedPrice 2 (some .int) :: ([.methodLink RX2 18 Lib.Math.max.name, .static Lib.Math.max.name, .initialized "java/lang/Math", .code Lib.Math.max.name Lib.Math.max.code 2 (some .int), .methodLink RX2 24 yX2_sedgePrice, .instanceMethod yX2_sedgePrice, .selects RX2 yX2_sedgePrice yX2_sedgePrice, .initialized RX2, .code yX2_sedgePrice cX2_sedgePrice 2 (some .int), .fieldLink RX2 9 "SedgeBarges$Landings" "store" "[I"] ++ wsX20)
def wsX4_twentiethRoundedUp : List Cond := .code yX4_twentiethRoundedUp cX4_twentiethRoundedUp 1 (some .int) :: ([])
def wsX2_thatch : List Cond := .code yX2_thatch cX2_thatch 2 none :: ([.fieldLink RX2 9 "SedgeBarges$Landings" "store" "[I", .static yX4_twentiethRoundedUp, .initialized RX4, .code yX4_twentiethRoundedUp cX4_twentiethRoundedUp 1 (some .int)] ++ wsX20)
def wsX2_tell : List Cond := .code yX2_tell cX2_tell 3 (some .int) :: ([.fieldLink RX2 9 "SedgeBarges$Landings" "store" "[I", .methodLink RX2 24 yX2_sedgePrice, .instanceMethod yX2_sedgePrice, .selects RX2 yX2_sedgePrice yX2_sedgePrice, .initialized RX2, .code yX2_sedgePrice cX2_sedgePrice 2 (some .int), .methodLink RX2 18 Lib.Math.max.name, .static Lib.Math.max.name, .initialized "java/lang/Math", .code Lib.Math.max.name Lib.Math.max.code 2 (some .int), .methodLink RX2 34 yX2_reedPrice, .instanceMethod yX2_reedPrice, .selects RX2 yX2_reedPrice yX2_reedPrice, .code yX2_reedPrice cX2_reedPrice 2 (some .int)] ++ wsX20)
def wsX2_storeOfAll : List Cond := .code yX2_storeOfAll cX2_storeOfAll 3 (some .int) :: ([.fieldLink RX2 9 "SedgeBarges$Landings" "store" "[I"] ++ wsX20)
def wsX3_init_r1 : List Cond := [Cond.methodLink RX3 3 objectInit, Cond.instanceMethod objectInit, Cond.code objectInit ⟨#[0xb1]⟩ 1 none, Cond.fieldLink RX3 9 "SedgeBarges$Waterway" "coins" "I", Cond.fieldLink RX3 15 "SedgeBarges$Waterway" "ties" "I", Cond.classLink RX3 18 RX1, Cond.instantiable RX1 10, Cond.initialized RX1, Cond.fieldLink RX3 21 "SedgeBarges$Waterway" "beds" "LSedgeBarges$Beds;", Cond.classLink RX3 25 RX0, Cond.instantiable RX0 6, Cond.initialized RX0, Cond.fieldLink RX3 28 "SedgeBarges$Waterway" "barges" "LSedgeBarges$Barges;", Cond.classLink RX3 32 RX2, Cond.instantiable RX2 1, Cond.initialized RX2, Cond.fieldLink RX3 35 "SedgeBarges$Waterway" "landings" "LSedgeBarges$Landings;", Cond.instanceMethod yX1_init, Cond.code yX1_init cX1_init 1 none, Cond.methodLink RX1 3 objectInit, Cond.arrayClass .int, Cond.fieldLink RX1 9 "SedgeBarges$Beds" "place" "[I", Cond.fieldLink RX1 15 "SedgeBarges$Beds" "size" "[I", Cond.fieldLink RX1 18 "SedgeBarges$Beds" "age" "[I"]
def wsX3_init_r2 : List Cond := [Cond.fieldLink RX1 21 "SedgeBarges$Beds" "sedge" "[I", Cond.fieldLink RX1 24 "SedgeBarges$Beds" "untiedSedge" "[I", Cond.fieldLink RX1 27 "SedgeBarges$Beds" "untiedReed" "[I", Cond.fieldLink RX1 30 "SedgeBarges$Beds" "tiedSedge" "[I", Cond.fieldLink RX1 33 "SedgeBarges$Beds" "tiedReed" "[I", Cond.fieldLink RX1 36 "SedgeBarges$Beds" "change" "[I", Cond.instanceMethod yX0_init, Cond.code yX0_init cX0_init 1 none, Cond.methodLink RX0 3 objectInit, Cond.fieldLink RX0 9 "SedgeBarges$Barges" "place" "[I", Cond.fieldLink RX0 15 "SedgeBarges$Barges" "goal" "[I", Cond.fieldLink RX0 18 "SedgeBarges$Barges" "sedge" "[I", Cond.fieldLink RX0 21 "SedgeBarges$Barges" "reed" "[I", Cond.fieldLink RX0 24 "SedgeBarges$Barges" "brought" "[I", Cond.instanceMethod yX2_init, Cond.code yX2_init cX2_init 1 none, Cond.methodLink RX2 3 objectInit, Cond.fieldLink RX2 9 "SedgeBarges$Landings" "store" "[I"]
def wsX3_init : List Cond := .code yX3_init cX3_init 1 none :: ((wsX3_init_r1 ++ wsX3_init_r2) ++ wsX30 ++ wsX10 ++ wsX00 ++ wsX20)
def wsX3_copyFrom_r1 : List Cond := [Cond.fieldLink RX3 39 "SedgeBarges$Waterway" "day" "I", Cond.fieldLink RX3 9 "SedgeBarges$Waterway" "coins" "I", Cond.fieldLink RX3 15 "SedgeBarges$Waterway" "ties" "I", Cond.fieldLink RX3 42 "SedgeBarges$Waterway" "rotted" "I", Cond.fieldLink RX3 21 "SedgeBarges$Waterway" "beds" "LSedgeBarges$Beds;", Cond.fieldLink RX3 28 "SedgeBarges$Waterway" "barges" "LSedgeBarges$Barges;", Cond.fieldLink RX3 35 "SedgeBarges$Waterway" "landings" "LSedgeBarges$Landings;", Cond.methodLink RX3 45 yX1_copyFrom, Cond.instanceMethod yX1_copyFrom, Cond.selects RX1 yX1_copyFrom yX1_copyFrom, Cond.initialized RX1, Cond.code yX1_copyFrom cX1_copyFrom 3 none, Cond.fieldLink RX1 39 "SedgeBarges$Beds" "number" "I", Cond.fieldLink RX1 9 "SedgeBarges$Beds" "place" "[I", Cond.fieldLink RX1 15 "SedgeBarges$Beds" "size" "[I", Cond.fieldLink RX1 18 "SedgeBarges$Beds" "age" "[I", Cond.fieldLink RX1 21 "SedgeBarges$Beds" "sedge" "[I", Cond.fieldLink RX1 24 "SedgeBarges$Beds" "untiedSedge" "[I", Cond.fieldLink RX1 27 "SedgeBarges$Beds" "untiedReed" "[I", Cond.fieldLink RX1 30 "SedgeBarges$Beds" "tiedSedge" "[I", Cond.fieldLink RX1 33 "SedgeBarges$Beds" "tiedReed" "[I", Cond.methodLink RX3 49 yX0_copyFrom, Cond.instanceMethod yX0_copyFrom, Cond.selects RX0 yX0_copyFrom yX0_copyFrom]
def wsX3_copyFrom_r2 : List Cond := [Cond.initialized RX0, Cond.code yX0_copyFrom cX0_copyFrom 3 none, Cond.fieldLink RX0 27 "SedgeBarges$Barges" "number" "I", Cond.fieldLink RX0 9 "SedgeBarges$Barges" "place" "[I", Cond.fieldLink RX0 15 "SedgeBarges$Barges" "goal" "[I", Cond.fieldLink RX0 18 "SedgeBarges$Barges" "sedge" "[I", Cond.fieldLink RX0 21 "SedgeBarges$Barges" "reed" "[I", Cond.fieldLink RX0 24 "SedgeBarges$Barges" "brought" "[I", Cond.methodLink RX3 52 yX2_copyFrom, Cond.instanceMethod yX2_copyFrom, Cond.selects RX2 yX2_copyFrom yX2_copyFrom, Cond.initialized RX2, Cond.code yX2_copyFrom cX2_copyFrom 3 none, Cond.fieldLink RX2 9 "SedgeBarges$Landings" "store" "[I"]
def wsX3_copyFrom : List Cond := .code yX3_copyFrom cX3_copyFrom 2 none :: ((wsX3_copyFrom_r1 ++ wsX3_copyFrom_r2) ++ wsX30 ++ wsX10 ++ wsX00 ++ wsX20)
def wsX3_takeAboard : List Cond := .code yX3_takeAboard cX3_takeAboard 6 (some .int) :: ([.fieldLink RX3 28 "SedgeBarges$Waterway" "barges" "LSedgeBarges$Barges;", .fieldLink RX3 21 "SedgeBarges$Waterway" "beds" "LSedgeBarges$Beds;", .methodLink RX3 63 Lib.Math.min.name, .static Lib.Math.min.name, .initialized "java/lang/Math", .code Lib.Math.min.name Lib.Math.min.code 2 (some .int), .methodLink RX3 55 yX0_aboard, .instanceMethod yX0_aboard, .selects RX0 yX0_aboard yX0_aboard, .initialized RX0, .code yX0_aboard cX0_aboard 2 (some .int), .fieldLink RX0 18 "SedgeBarges$Barges" "sedge" "[I", .fieldLink RX0 21 "SedgeBarges$Barges" "reed" "[I"] ++ wsX30 ++ wsX10 ++ wsX00)
def wsX3_sellAll_r1 : List Cond := [Cond.fieldLink RX3 28 "SedgeBarges$Waterway" "barges" "LSedgeBarges$Barges;", Cond.fieldLink RX3 35 "SedgeBarges$Waterway" "landings" "LSedgeBarges$Landings;", Cond.fieldLink RX3 9 "SedgeBarges$Waterway" "coins" "I", Cond.methodLink RX3 55 yX0_aboard, Cond.instanceMethod yX0_aboard, Cond.selects RX0 yX0_aboard yX0_aboard, Cond.initialized RX0, Cond.code yX0_aboard cX0_aboard 2 (some .int), Cond.fieldLink RX0 18 "SedgeBarges$Barges" "sedge" "[I", Cond.fieldLink RX0 21 "SedgeBarges$Barges" "reed" "[I", Cond.methodLink RX3 78 yX2_sedgePrice, Cond.instanceMethod yX2_sedgePrice, Cond.selects RX2 yX2_sedgePrice yX2_sedgePrice, Cond.initialized RX2, Cond.code yX2_sedgePrice cX2_sedgePrice 2 (some .int), Cond.fieldLink RX2 9 "SedgeBarges$Landings" "store" "[I", Cond.methodLink RX2 18 Lib.Math.max.name, Cond.static Lib.Math.max.name, Cond.initialized "java/lang/Math", Cond.code Lib.Math.max.name Lib.Math.max.code 2 (some .int), Cond.methodLink RX3 81 yX2_reedPrice, Cond.instanceMethod yX2_reedPrice, Cond.selects RX2 yX2_reedPrice yX2_reedPrice, Cond.code yX2_reedPrice cX2_reedPrice 2 (some .int)]
def wsX3_sellAll_r2 : List Cond := [Cond.methodLink RX2 24 yX2_sedgePrice]
def wsX3_sellAll : List Cond := .code yX3_sellAll cX3_sellAll 5 (some .int) :: ((wsX3_sellAll_r1 ++ wsX3_sellAll_r2) ++ wsX30 ++ wsX00 ++ wsX20)
def wsX3_passDay_r1 : List Cond := [Cond.fieldLink RX3 28 "SedgeBarges$Waterway" "barges" "LSedgeBarges$Barges;", Cond.fieldLink RX3 42 "SedgeBarges$Waterway" "rotted" "I", Cond.fieldLink RX3 21 "SedgeBarges$Waterway" "beds" "LSedgeBarges$Beds;", Cond.fieldLink RX3 35 "SedgeBarges$Waterway" "landings" "LSedgeBarges$Landings;", Cond.fieldLink RX3 39 "SedgeBarges$Waterway" "day" "I", Cond.methodLink RX3 93 yX0_sailOn, Cond.instanceMethod yX0_sailOn, Cond.selects RX0 yX0_sailOn yX0_sailOn, Cond.initialized RX0, Cond.code yX0_sailOn cX0_sailOn 3 none, Cond.fieldLink RX0 27 "SedgeBarges$Barges" "number" "I", Cond.fieldLink RX0 15 "SedgeBarges$Barges" "goal" "[I", Cond.fieldLink RX0 9 "SedgeBarges$Barges" "place" "[I", Cond.methodLink RX0 37 Lib.Math.min.name, Cond.static Lib.Math.min.name, Cond.initialized "java/lang/Math", Cond.code Lib.Math.min.name Lib.Math.min.code 2 (some .int), Cond.methodLink RX0 41 Lib.Math.max.name, Cond.static Lib.Math.max.name, Cond.code Lib.Math.max.name Lib.Math.max.code 2 (some .int), Cond.methodLink RX3 96 yX1_rot, Cond.instanceMethod yX1_rot, Cond.selects RX1 yX1_rot yX1_rot, Cond.initialized RX1]
def wsX3_passDay_r2 : List Cond := [Cond.code yX1_rot cX1_rot 5 (some .int), Cond.fieldLink RX1 39 "SedgeBarges$Beds" "number" "I", Cond.fieldLink RX1 24 "SedgeBarges$Beds" "untiedSedge" "[I", Cond.fieldLink RX1 27 "SedgeBarges$Beds" "untiedReed" "[I", Cond.static yX4_tenthRoundedUp, Cond.initialized RX4, Cond.code yX4_tenthRoundedUp cX4_tenthRoundedUp 1 (some .int), Cond.methodLink RX3 100 yX2_thatch, Cond.instanceMethod yX2_thatch, Cond.selects RX2 yX2_thatch yX2_thatch, Cond.initialized RX2, Cond.code yX2_thatch cX2_thatch 2 none, Cond.fieldLink RX2 9 "SedgeBarges$Landings" "store" "[I", Cond.static yX4_twentiethRoundedUp, Cond.code yX4_twentiethRoundedUp cX4_twentiethRoundedUp 1 (some .int), Cond.methodLink RX3 103 yX1_endYear, Cond.instanceMethod yX1_endYear, Cond.selects RX1 yX1_endYear yX1_endYear, Cond.code yX1_endYear cX1_endYear 2 none, Cond.fieldLink RX1 36 "SedgeBarges$Beds" "change" "[I", Cond.fieldLink RX1 18 "SedgeBarges$Beds" "age" "[I", Cond.fieldLink RX1 21 "SedgeBarges$Beds" "sedge" "[I", Cond.methodLink RX1 53 Lib.Math.min.name, Cond.methodLink RX1 69 Lib.Math.max.name]
def wsX3_passDay_r3 : List Cond := [Cond.methodLink RX1 62 yX1_changeByAge, Cond.static yX1_changeByAge, Cond.code yX1_changeByAge cX1_changeByAge 1 (some .int), Cond.methodLink RX1 65 yX1_isCreptInto, Cond.instanceMethod yX1_isCreptInto, Cond.selects RX1 yX1_isCreptInto yX1_isCreptInto, Cond.code yX1_isCreptInto cX1_isCreptInto 3 (some .boolean), Cond.fieldLink RX1 9 "SedgeBarges$Beds" "place" "[I", Cond.methodLink RX1 72 Lib.Math.abs.name, Cond.static Lib.Math.abs.name, Cond.code Lib.Math.abs.name Lib.Math.abs.code 1 (some .int)]
def wsX3_passDay : List Cond := .code yX3_passDay cX3_passDay 1 none :: ((wsX3_passDay_r1 ++ (wsX3_passDay_r2 ++ wsX3_passDay_r3)) ++ wsX30 ++ wsX00 ++ wsX10 ++ wsX20)
def wsX3_passDays_r1 : List Cond := [Cond.fieldLink RX3 42 "SedgeBarges$Waterway" "rotted" "I", Cond.methodLink RX3 90 yX3_passDay, Cond.instanceMethod yX3_passDay, Cond.selects RX3 yX3_passDay yX3_passDay, Cond.initialized RX3, Cond.code yX3_passDay cX3_passDay 1 none, Cond.fieldLink RX3 28 "SedgeBarges$Waterway" "barges" "LSedgeBarges$Barges;", Cond.fieldLink RX3 21 "SedgeBarges$Waterway" "beds" "LSedgeBarges$Beds;", Cond.fieldLink RX3 35 "SedgeBarges$Waterway" "landings" "LSedgeBarges$Landings;", Cond.fieldLink RX3 39 "SedgeBarges$Waterway" "day" "I", Cond.methodLink RX3 93 yX0_sailOn, Cond.instanceMethod yX0_sailOn, Cond.selects RX0 yX0_sailOn yX0_sailOn, Cond.initialized RX0, Cond.code yX0_sailOn cX0_sailOn 3 none, Cond.fieldLink RX0 27 "SedgeBarges$Barges" "number" "I", Cond.fieldLink RX0 15 "SedgeBarges$Barges" "goal" "[I", Cond.fieldLink RX0 9 "SedgeBarges$Barges" "place" "[I", Cond.methodLink RX0 37 Lib.Math.min.name, Cond.static Lib.Math.min.name, Cond.initialized "java/lang/Math", Cond.code Lib.Math.min.name Lib.Math.min.code 2 (some .int), Cond.methodLink RX0 41 Lib.Math.max.name, Cond.static Lib.Math.max.name]
def wsX3_passDays_r2 : List Cond := [Cond.code Lib.Math.max.name Lib.Math.max.code 2 (some .int), Cond.methodLink RX3 96 yX1_rot, Cond.instanceMethod yX1_rot, Cond.selects RX1 yX1_rot yX1_rot, Cond.initialized RX1, Cond.code yX1_rot cX1_rot 5 (some .int), Cond.fieldLink RX1 39 "SedgeBarges$Beds" "number" "I", Cond.fieldLink RX1 24 "SedgeBarges$Beds" "untiedSedge" "[I", Cond.fieldLink RX1 27 "SedgeBarges$Beds" "untiedReed" "[I", Cond.static yX4_tenthRoundedUp, Cond.initialized RX4, Cond.code yX4_tenthRoundedUp cX4_tenthRoundedUp 1 (some .int), Cond.methodLink RX3 100 yX2_thatch, Cond.instanceMethod yX2_thatch, Cond.selects RX2 yX2_thatch yX2_thatch, Cond.initialized RX2, Cond.code yX2_thatch cX2_thatch 2 none, Cond.fieldLink RX2 9 "SedgeBarges$Landings" "store" "[I", Cond.static yX4_twentiethRoundedUp, Cond.code yX4_twentiethRoundedUp cX4_twentiethRoundedUp 1 (some .int), Cond.methodLink RX3 103 yX1_endYear, Cond.instanceMethod yX1_endYear, Cond.selects RX1 yX1_endYear yX1_endYear, Cond.code yX1_endYear cX1_endYear 2 none]
def wsX3_passDays_r3 : List Cond := [Cond.fieldLink RX1 36 "SedgeBarges$Beds" "change" "[I", Cond.fieldLink RX1 18 "SedgeBarges$Beds" "age" "[I", Cond.fieldLink RX1 21 "SedgeBarges$Beds" "sedge" "[I", Cond.methodLink RX1 53 Lib.Math.min.name, Cond.methodLink RX1 69 Lib.Math.max.name, Cond.methodLink RX1 62 yX1_changeByAge, Cond.static yX1_changeByAge, Cond.code yX1_changeByAge cX1_changeByAge 1 (some .int), Cond.methodLink RX1 65 yX1_isCreptInto, Cond.instanceMethod yX1_isCreptInto, Cond.selects RX1 yX1_isCreptInto yX1_isCreptInto, Cond.code yX1_isCreptInto cX1_isCreptInto 3 (some .boolean), Cond.fieldLink RX1 9 "SedgeBarges$Beds" "place" "[I", Cond.methodLink RX1 72 Lib.Math.abs.name, Cond.static Lib.Math.abs.name, Cond.code Lib.Math.abs.name Lib.Math.abs.code 1 (some .int)]
def wsX3_passDays : List Cond := .code yX3_passDays cX3_passDays 4 (some .int) :: ((wsX3_passDays_r1 ++ (wsX3_passDays_r2 ++ wsX3_passDays_r3)) ++ wsX30 ++ wsX00 ++ wsX10 ++ wsX20)
def wsX3_tell_r1 : List Cond := [Cond.fieldLink RX3 39 "SedgeBarges$Waterway" "day" "I", Cond.fieldLink RX3 9 "SedgeBarges$Waterway" "coins" "I", Cond.fieldLink RX3 15 "SedgeBarges$Waterway" "ties" "I", Cond.fieldLink RX3 21 "SedgeBarges$Waterway" "beds" "LSedgeBarges$Beds;", Cond.fieldLink RX3 28 "SedgeBarges$Waterway" "barges" "LSedgeBarges$Barges;", Cond.fieldLink RX3 35 "SedgeBarges$Waterway" "landings" "LSedgeBarges$Landings;", Cond.fieldLink RX3 42 "SedgeBarges$Waterway" "rotted" "I", Cond.methodLink RX3 109 yX1_givenByAll, Cond.instanceMethod yX1_givenByAll, Cond.selects RX1 yX1_givenByAll yX1_givenByAll, Cond.initialized RX1, Cond.code yX1_givenByAll cX1_givenByAll 3 (some .int), Cond.fieldLink RX1 39 "SedgeBarges$Beds" "number" "I", Cond.methodLink RX1 46 yX1_given, Cond.instanceMethod yX1_given, Cond.selects RX1 yX1_given yX1_given, Cond.code yX1_given cX1_given 4 (some .int), Cond.fieldLink RX1 18 "SedgeBarges$Beds" "age" "[I", Cond.fieldLink RX1 15 "SedgeBarges$Beds" "size" "[I", Cond.methodLink RX3 112 yX1_untiedOfAll, Cond.instanceMethod yX1_untiedOfAll, Cond.selects RX1 yX1_untiedOfAll yX1_untiedOfAll, Cond.code yX1_untiedOfAll cX1_untiedOfAll 3 (some .int), Cond.fieldLink RX1 24 "SedgeBarges$Beds" "untiedSedge" "[I"]
def wsX3_tell_r2 : List Cond := [Cond.fieldLink RX1 27 "SedgeBarges$Beds" "untiedReed" "[I", Cond.methodLink RX3 115 yX1_tiedOfAll, Cond.instanceMethod yX1_tiedOfAll, Cond.selects RX1 yX1_tiedOfAll yX1_tiedOfAll, Cond.code yX1_tiedOfAll cX1_tiedOfAll 3 (some .int), Cond.fieldLink RX1 30 "SedgeBarges$Beds" "tiedSedge" "[I", Cond.fieldLink RX1 33 "SedgeBarges$Beds" "tiedReed" "[I", Cond.methodLink RX3 119 yX0_aboardAll, Cond.instanceMethod yX0_aboardAll, Cond.selects RX0 yX0_aboardAll yX0_aboardAll, Cond.initialized RX0, Cond.code yX0_aboardAll cX0_aboardAll 3 (some .int), Cond.fieldLink RX0 27 "SedgeBarges$Barges" "number" "I", Cond.methodLink RX0 47 yX0_aboard, Cond.instanceMethod yX0_aboard, Cond.selects RX0 yX0_aboard yX0_aboard, Cond.code yX0_aboard cX0_aboard 2 (some .int), Cond.fieldLink RX0 18 "SedgeBarges$Barges" "sedge" "[I", Cond.fieldLink RX0 21 "SedgeBarges$Barges" "reed" "[I", Cond.methodLink RX3 122 yX2_storeOfAll, Cond.instanceMethod yX2_storeOfAll, Cond.selects RX2 yX2_storeOfAll yX2_storeOfAll, Cond.initialized RX2, Cond.code yX2_storeOfAll cX2_storeOfAll 3 (some .int)]
def wsX3_tell_r3 : List Cond := [Cond.fieldLink RX2 9 "SedgeBarges$Landings" "store" "[I"]
def wsX3_tell : List Cond := .code yX3_tell cX3_tell 2 (some .int) :: ((wsX3_tell_r1 ++ (wsX3_tell_r2 ++ wsX3_tell_r3)) ++ wsX30 ++ wsX10 ++ wsX00 ++ wsX20)
def wsX4_init_r1 : List Cond := [Cond.methodLink RX4 1 objectInit, Cond.instanceMethod objectInit, Cond.code objectInit ⟨#[0xb1]⟩ 1 none, Cond.classLink RX4 7 RX3, Cond.instantiable RX3 7, Cond.initialized RX3, Cond.fieldLink RX4 10 "SedgeBarges" "now" "LSedgeBarges$Waterway;", Cond.fieldLink RX4 16 "SedgeBarges" "ahead" "LSedgeBarges$Waterway;", Cond.instanceMethod yX3_init, Cond.code yX3_init cX3_init 1 none, Cond.methodLink RX3 3 objectInit, Cond.fieldLink RX3 9 "SedgeBarges$Waterway" "coins" "I", Cond.fieldLink RX3 15 "SedgeBarges$Waterway" "ties" "I", Cond.classLink RX3 18 RX1, Cond.instantiable RX1 10, Cond.initialized RX1, Cond.fieldLink RX3 21 "SedgeBarges$Waterway" "beds" "LSedgeBarges$Beds;", Cond.classLink RX3 25 RX0, Cond.instantiable RX0 6, Cond.initialized RX0, Cond.fieldLink RX3 28 "SedgeBarges$Waterway" "barges" "LSedgeBarges$Barges;", Cond.classLink RX3 32 RX2, Cond.instantiable RX2 1, Cond.initialized RX2]
def wsX4_init_r2 : List Cond := [Cond.fieldLink RX3 35 "SedgeBarges$Waterway" "landings" "LSedgeBarges$Landings;", Cond.instanceMethod yX1_init, Cond.code yX1_init cX1_init 1 none, Cond.methodLink RX1 3 objectInit, Cond.arrayClass .int, Cond.fieldLink RX1 9 "SedgeBarges$Beds" "place" "[I", Cond.fieldLink RX1 15 "SedgeBarges$Beds" "size" "[I", Cond.fieldLink RX1 18 "SedgeBarges$Beds" "age" "[I", Cond.fieldLink RX1 21 "SedgeBarges$Beds" "sedge" "[I", Cond.fieldLink RX1 24 "SedgeBarges$Beds" "untiedSedge" "[I", Cond.fieldLink RX1 27 "SedgeBarges$Beds" "untiedReed" "[I", Cond.fieldLink RX1 30 "SedgeBarges$Beds" "tiedSedge" "[I", Cond.fieldLink RX1 33 "SedgeBarges$Beds" "tiedReed" "[I", Cond.fieldLink RX1 36 "SedgeBarges$Beds" "change" "[I", Cond.instanceMethod yX0_init, Cond.code yX0_init cX0_init 1 none, Cond.methodLink RX0 3 objectInit, Cond.fieldLink RX0 9 "SedgeBarges$Barges" "place" "[I", Cond.fieldLink RX0 15 "SedgeBarges$Barges" "goal" "[I", Cond.fieldLink RX0 18 "SedgeBarges$Barges" "sedge" "[I", Cond.fieldLink RX0 21 "SedgeBarges$Barges" "reed" "[I", Cond.fieldLink RX0 24 "SedgeBarges$Barges" "brought" "[I", Cond.instanceMethod yX2_init, Cond.code yX2_init cX2_init 1 none]
def wsX4_init_r3 : List Cond := [Cond.methodLink RX2 3 objectInit, Cond.fieldLink RX2 9 "SedgeBarges$Landings" "store" "[I"]
def wsX4_init : List Cond := .code yX4_init cX4_init 1 none :: ((wsX4_init_r1 ++ (wsX4_init_r2 ++ wsX4_init_r3)) ++ wsX30 ++ wsX40 ++ wsX10 ++ wsX00 ++ wsX20)
def wsX4_needPlace : List Cond := .code yX4_needPlace cX4_needPlace 1 none :: ([.classLink RX4 161 "java/lang/IndexOutOfBoundsException", .initialized "java/lang/IndexOutOfBoundsException"] ++ (vx_atS RX4 165 "java/lang/IndexOutOfBoundsException" ["java/lang/RuntimeException", "java/lang/Exception"]).filter goodWord)
def wsX4_bed_r1 : List Cond := [Cond.classLink RX4 23 "java/lang/IllegalArgumentException", Cond.initialized "java/lang/IllegalArgumentException", Cond.classLink RX4 42 "java/lang/IllegalStateException", Cond.initialized "java/lang/IllegalStateException", Cond.fieldLink RX4 10 "SedgeBarges" "now" "LSedgeBarges$Waterway;", Cond.methodLink RX4 19 yX4_needPlace, Cond.static yX4_needPlace, Cond.initialized RX4, Cond.code yX4_needPlace cX4_needPlace 1 none, Cond.classLink RX4 161 "java/lang/IndexOutOfBoundsException", Cond.initialized "java/lang/IndexOutOfBoundsException", Cond.methodLink RX4 36 yX1_areFull, Cond.instanceMethod yX1_areFull, Cond.selects RX1 yX1_areFull yX1_areFull, Cond.initialized RX1, Cond.code yX1_areFull cX1_areFull 1 (some .boolean), Cond.fieldLink RX1 39 "SedgeBarges$Beds" "number" "I", Cond.methodLink RX4 47 yX1_add, Cond.instanceMethod yX1_add, Cond.selects RX1 yX1_add yX1_add, Cond.code yX1_add cX1_add 5 (some .int), Cond.fieldLink RX1 9 "SedgeBarges$Beds" "place" "[I", Cond.fieldLink RX1 15 "SedgeBarges$Beds" "size" "[I", Cond.fieldLink RX1 18 "SedgeBarges$Beds" "age" "[I"]
def wsX4_bed_r2 : List Cond := [Cond.fieldLink RX1 21 "SedgeBarges$Beds" "sedge" "[I"]
def wsX4_bed : List Cond := .code yX4_bed cX4_bed 4 (some .int) :: ((wsX4_bed_r1 ++ wsX4_bed_r2) ++ wsX40 ++ wsX30 ++ wsX10 ++ (vx_atS RX4 27 "java/lang/IllegalArgumentException" ["java/lang/RuntimeException", "java/lang/Exception"]).filter goodWord ++ (vx_atS RX4 46 "java/lang/IllegalStateException" ["java/lang/RuntimeException", "java/lang/Exception"]).filter goodWord ++ (vx_atS RX4 165 "java/lang/IndexOutOfBoundsException" ["java/lang/RuntimeException", "java/lang/Exception"]).filter goodWord)
def wsX4_needBed : List Cond := .code yX4_needBed cX4_needBed 2 none :: ([.classLink RX4 161 "java/lang/IndexOutOfBoundsException", .initialized "java/lang/IndexOutOfBoundsException", .fieldLink RX4 10 "SedgeBarges" "now" "LSedgeBarges$Waterway;"] ++ wsX40 ++ wsX30 ++ wsX10 ++ (vx_atS RX4 165 "java/lang/IndexOutOfBoundsException" ["java/lang/RuntimeException", "java/lang/Exception"]).filter goodWord)
def wsX4_cut_r1 : List Cond := [Cond.classLink RX4 42 "java/lang/IllegalStateException", Cond.initialized "java/lang/IllegalStateException", Cond.fieldLink RX4 10 "SedgeBarges" "now" "LSedgeBarges$Waterway;", Cond.methodLink RX4 51 yX4_needBed, Cond.instanceMethod yX4_needBed, Cond.selects RX4 yX4_needBed yX4_needBed, Cond.initialized RX4, Cond.code yX4_needBed cX4_needBed 2 none, Cond.classLink RX4 161 "java/lang/IndexOutOfBoundsException", Cond.initialized "java/lang/IndexOutOfBoundsException", Cond.methodLink RX4 60 yX1_cutDown, Cond.instanceMethod yX1_cutDown, Cond.selects RX1 yX1_cutDown yX1_cutDown, Cond.initialized RX1, Cond.code yX1_cutDown cX1_cutDown 4 (some .int), Cond.fieldLink RX1 24 "SedgeBarges$Beds" "untiedSedge" "[I", Cond.fieldLink RX1 27 "SedgeBarges$Beds" "untiedReed" "[I", Cond.fieldLink RX1 18 "SedgeBarges$Beds" "age" "[I", Cond.methodLink RX1 46 yX1_given, Cond.instanceMethod yX1_given, Cond.selects RX1 yX1_given yX1_given, Cond.code yX1_given cX1_given 4 (some .int), Cond.fieldLink RX1 15 "SedgeBarges$Beds" "size" "[I", Cond.methodLink RX1 50 yX1_sedgeGiven]
def wsX4_cut_r2 : List Cond := [Cond.instanceMethod yX1_sedgeGiven, Cond.selects RX1 yX1_sedgeGiven yX1_sedgeGiven, Cond.code yX1_sedgeGiven cX1_sedgeGiven 2 (some .int), Cond.fieldLink RX1 21 "SedgeBarges$Beds" "sedge" "[I"]
def wsX4_cut : List Cond := .code yX4_cut cX4_cut 2 (some .int) :: ((wsX4_cut_r1 ++ wsX4_cut_r2) ++ wsX40 ++ wsX30 ++ wsX10 ++ (vx_atS RX4 46 "java/lang/IllegalStateException" ["java/lang/RuntimeException", "java/lang/Exception"]).filter goodWord ++ (vx_atS RX4 165 "java/lang/IndexOutOfBoundsException" ["java/lang/RuntimeException", "java/lang/Exception"]).filter goodWord)
def wsX4_tie : List Cond := .code yX4_tie cX4_tie 3 (some .int) :: ([.fieldLink RX4 10 "SedgeBarges" "now" "LSedgeBarges$Waterway;", .methodLink RX4 51 yX4_needBed, .instanceMethod yX4_needBed, .selects RX4 yX4_needBed yX4_needBed, .initialized RX4, .code yX4_needBed cX4_needBed 2 none, .classLink RX4 161 "java/lang/IndexOutOfBoundsException", .initialized "java/lang/IndexOutOfBoundsException", .methodLink RX4 68 yX1_tieUp, .instanceMethod yX1_tieUp, .selects RX1 yX1_tieUp yX1_tieUp, .initialized RX1, .code yX1_tieUp cX1_tieUp 5 (some .int), .fieldLink RX1 24 "SedgeBarges$Beds" "untiedSedge" "[I", .methodLink RX1 53 Lib.Math.min.name, .static Lib.Math.min.name, .initialized "java/lang/Math", .code Lib.Math.min.name Lib.Math.min.code 2 (some .int), .fieldLink RX1 27 "SedgeBarges$Beds" "untiedReed" "[I", .fieldLink RX1 30 "SedgeBarges$Beds" "tiedSedge" "[I", .fieldLink RX1 33 "SedgeBarges$Beds" "tiedReed" "[I"] ++ wsX40 ++ wsX30 ++ wsX10 ++ (vx_atS RX4 165 "java/lang/IndexOutOfBoundsException" ["java/lang/RuntimeException", "java/lang/Exception"]).filter goodWord)
def wsX4_buy : List Cond := .code yX4_buy cX4_buy 3 (some .int) :: ([.classLink RX4 23 "java/lang/IllegalArgumentException", .initialized "java/lang/IllegalArgumentException", .classLink RX4 42 "java/lang/IllegalStateException", .initialized "java/lang/IllegalStateException", .fieldLink RX4 10 "SedgeBarges" "now" "LSedgeBarges$Waterway;", .methodLink RX4 74 yX4_tenthRoundedUp, .static yX4_tenthRoundedUp, .initialized RX4, .code yX4_tenthRoundedUp cX4_tenthRoundedUp 1 (some .int)] ++ wsX40 ++ wsX30 ++ (vx_atS RX4 27 "java/lang/IllegalArgumentException" ["java/lang/RuntimeException", "java/lang/Exception"]).filter goodWord ++ (vx_atS RX4 46 "java/lang/IllegalStateException" ["java/lang/RuntimeException", "java/lang/Exception"]).filter goodWord)
def wsX4_needFigure : List Cond := .code yX4_needFigure cX4_needFigure 2 none :: ([.classLink RX4 161 "java/lang/IndexOutOfBoundsException", .initialized "java/lang/IndexOutOfBoundsException"] ++ (vx_atS RX4 165 "java/lang/IndexOutOfBoundsException" ["java/lang/RuntimeException", "java/lang/Exception"]).filter goodWord)
def wsX4_about_r1 : List Cond := [Cond.fieldLink RX4 10 "SedgeBarges" "now" "LSedgeBarges$Waterway;", Cond.methodLink RX4 51 yX4_needBed, Cond.instanceMethod yX4_needBed, Cond.selects RX4 yX4_needBed yX4_needBed, Cond.initialized RX4, Cond.code yX4_needBed cX4_needBed 2 none, Cond.classLink RX4 161 "java/lang/IndexOutOfBoundsException", Cond.initialized "java/lang/IndexOutOfBoundsException", Cond.methodLink RX4 82 yX4_needFigure, Cond.static yX4_needFigure, Cond.code yX4_needFigure cX4_needFigure 2 none, Cond.methodLink RX4 86 yX1_tell, Cond.instanceMethod yX1_tell, Cond.selects RX1 yX1_tell yX1_tell, Cond.initialized RX1, Cond.code yX1_tell cX1_tell 3 (some .int), Cond.fieldLink RX1 9 "SedgeBarges$Beds" "place" "[I", Cond.fieldLink RX1 15 "SedgeBarges$Beds" "size" "[I", Cond.fieldLink RX1 18 "SedgeBarges$Beds" "age" "[I", Cond.fieldLink RX1 21 "SedgeBarges$Beds" "sedge" "[I", Cond.fieldLink RX1 24 "SedgeBarges$Beds" "untiedSedge" "[I", Cond.fieldLink RX1 27 "SedgeBarges$Beds" "untiedReed" "[I", Cond.fieldLink RX1 30 "SedgeBarges$Beds" "tiedSedge" "[I", Cond.fieldLink RX1 33 "SedgeBarges$Beds" "tiedReed" "[I"]
def wsX4_about_r2 : List Cond := [Cond.methodLink RX1 46 yX1_given, Cond.instanceMethod yX1_given, Cond.selects RX1 yX1_given yX1_given, Cond.code yX1_given cX1_given 4 (some .int), Cond.methodLink RX1 50 yX1_sedgeGiven, Cond.instanceMethod yX1_sedgeGiven, Cond.selects RX1 yX1_sedgeGiven yX1_sedgeGiven, Cond.code yX1_sedgeGiven cX1_sedgeGiven 2 (some .int)]
def wsX4_about : List Cond := .code yX4_about cX4_about 3 (some .int) :: ((wsX4_about_r1 ++ wsX4_about_r2) ++ wsX40 ++ wsX30 ++ wsX10 ++ (vx_atS RX4 165 "java/lang/IndexOutOfBoundsException" ["java/lang/RuntimeException", "java/lang/Exception"]).filter goodWord)
def wsX4_best_r1 : List Cond := [Cond.fieldLink RX4 16 "SedgeBarges" "ahead" "LSedgeBarges$Waterway;", Cond.fieldLink RX4 10 "SedgeBarges" "now" "LSedgeBarges$Waterway;", Cond.methodLink RX4 51 yX4_needBed, Cond.instanceMethod yX4_needBed, Cond.selects RX4 yX4_needBed yX4_needBed, Cond.initialized RX4, Cond.code yX4_needBed cX4_needBed 2 none, Cond.classLink RX4 161 "java/lang/IndexOutOfBoundsException", Cond.initialized "java/lang/IndexOutOfBoundsException", Cond.methodLink RX4 89 yX1_copyFrom, Cond.instanceMethod yX1_copyFrom, Cond.selects RX1 yX1_copyFrom yX1_copyFrom, Cond.initialized RX1, Cond.code yX1_copyFrom cX1_copyFrom 3 none, Cond.fieldLink RX1 39 "SedgeBarges$Beds" "number" "I", Cond.fieldLink RX1 9 "SedgeBarges$Beds" "place" "[I", Cond.fieldLink RX1 15 "SedgeBarges$Beds" "size" "[I", Cond.fieldLink RX1 18 "SedgeBarges$Beds" "age" "[I", Cond.fieldLink RX1 21 "SedgeBarges$Beds" "sedge" "[I", Cond.fieldLink RX1 24 "SedgeBarges$Beds" "untiedSedge" "[I", Cond.fieldLink RX1 27 "SedgeBarges$Beds" "untiedReed" "[I", Cond.fieldLink RX1 30 "SedgeBarges$Beds" "tiedSedge" "[I", Cond.fieldLink RX1 33 "SedgeBarges$Beds" "tiedReed" "[I", Cond.methodLink RX4 93 yX1_sedgeGiven]
def wsX4_best_r2 : List Cond := [Cond.instanceMethod yX1_sedgeGiven, Cond.selects RX1 yX1_sedgeGiven yX1_sedgeGiven, Cond.code yX1_sedgeGiven cX1_sedgeGiven 2 (some .int), Cond.methodLink RX1 46 yX1_given, Cond.instanceMethod yX1_given, Cond.selects RX1 yX1_given yX1_given, Cond.code yX1_given cX1_given 4 (some .int), Cond.methodLink RX4 96 yX1_endYear, Cond.instanceMethod yX1_endYear, Cond.selects RX1 yX1_endYear yX1_endYear, Cond.code yX1_endYear cX1_endYear 2 none, Cond.fieldLink RX1 36 "SedgeBarges$Beds" "change" "[I", Cond.methodLink RX1 53 Lib.Math.min.name, Cond.static Lib.Math.min.name, Cond.initialized "java/lang/Math", Cond.code Lib.Math.min.name Lib.Math.min.code 2 (some .int), Cond.methodLink RX1 69 Lib.Math.max.name, Cond.static Lib.Math.max.name, Cond.code Lib.Math.max.name Lib.Math.max.code 2 (some .int), Cond.methodLink RX1 62 yX1_changeByAge, Cond.static yX1_changeByAge, Cond.code yX1_changeByAge cX1_changeByAge 1 (some .int), Cond.methodLink RX1 65 yX1_isCreptInto, Cond.instanceMethod yX1_isCreptInto]
def wsX4_best_r3 : List Cond := [Cond.selects RX1 yX1_isCreptInto yX1_isCreptInto, Cond.code yX1_isCreptInto cX1_isCreptInto 3 (some .boolean), Cond.methodLink RX1 72 Lib.Math.abs.name, Cond.static Lib.Math.abs.name, Cond.code Lib.Math.abs.name Lib.Math.abs.code 1 (some .int)]
def wsX4_best : List Cond := .code yX4_best cX4_best 6 (some .int) :: ((wsX4_best_r1 ++ (wsX4_best_r2 ++ wsX4_best_r3)) ++ wsX40 ++ wsX30 ++ wsX10 ++ (vx_atS RX4 165 "java/lang/IndexOutOfBoundsException" ["java/lang/RuntimeException", "java/lang/Exception"]).filter goodWord)
def wsX4_barge : List Cond := .code yX4_barge cX4_barge 2 (some .int) :: ([.classLink RX4 42 "java/lang/IllegalStateException", .initialized "java/lang/IllegalStateException", .fieldLink RX4 10 "SedgeBarges" "now" "LSedgeBarges$Waterway;", .methodLink RX4 19 yX4_needPlace, .static yX4_needPlace, .initialized RX4, .code yX4_needPlace cX4_needPlace 1 none, .classLink RX4 161 "java/lang/IndexOutOfBoundsException", .initialized "java/lang/IndexOutOfBoundsException", .methodLink RX4 103 yX0_areFull, .instanceMethod yX0_areFull, .selects RX0 yX0_areFull yX0_areFull, .initialized RX0, .code yX0_areFull cX0_areFull 1 (some .boolean), .fieldLink RX0 27 "SedgeBarges$Barges" "number" "I", .methodLink RX4 108 yX0_add, .instanceMethod yX0_add, .selects RX0 yX0_add yX0_add, .code yX0_add cX0_add 3 (some .int), .fieldLink RX0 9 "SedgeBarges$Barges" "place" "[I", .fieldLink RX0 15 "SedgeBarges$Barges" "goal" "[I"] ++ wsX40 ++ wsX30 ++ wsX00 ++ (vx_atS RX4 46 "java/lang/IllegalStateException" ["java/lang/RuntimeException", "java/lang/Exception"]).filter goodWord ++ (vx_atS RX4 165 "java/lang/IndexOutOfBoundsException" ["java/lang/RuntimeException", "java/lang/Exception"]).filter goodWord)
def wsX4_needBarge : List Cond := .code yX4_needBarge cX4_needBarge 2 none :: ([.classLink RX4 161 "java/lang/IndexOutOfBoundsException", .initialized "java/lang/IndexOutOfBoundsException", .fieldLink RX4 10 "SedgeBarges" "now" "LSedgeBarges$Waterway;"] ++ wsX40 ++ wsX30 ++ wsX00 ++ (vx_atS RX4 165 "java/lang/IndexOutOfBoundsException" ["java/lang/RuntimeException", "java/lang/Exception"]).filter goodWord)
def wsX4_sail : List Cond := .code yX4_sail cX4_sail 3 (some .int) :: ([.fieldLink RX4 10 "SedgeBarges" "now" "LSedgeBarges$Waterway;", .methodLink RX4 110 yX4_needBarge, .instanceMethod yX4_needBarge, .selects RX4 yX4_needBarge yX4_needBarge, .initialized RX4, .code yX4_needBarge cX4_needBarge 2 none, .classLink RX4 161 "java/lang/IndexOutOfBoundsException", .initialized "java/lang/IndexOutOfBoundsException", .methodLink RX4 19 yX4_needPlace, .static yX4_needPlace, .code yX4_needPlace cX4_needPlace 1 none, .methodLink RX4 113 yX0_send, .instanceMethod yX0_send, .selects RX0 yX0_send yX0_send, .initialized RX0, .code yX0_send cX0_send 4 (some .int), .fieldLink RX0 9 "SedgeBarges$Barges" "place" "[I", .methodLink RX0 31 Lib.Math.abs.name, .static Lib.Math.abs.name, .initialized "java/lang/Math", .code Lib.Math.abs.name Lib.Math.abs.code 1 (some .int), .fieldLink RX0 15 "SedgeBarges$Barges" "goal" "[I"] ++ wsX40 ++ wsX30 ++ wsX00 ++ (vx_atS RX4 165 "java/lang/IndexOutOfBoundsException" ["java/lang/RuntimeException", "java/lang/Exception"]).filter goodWord)
def wsX4_load_r1 : List Cond := [Cond.classLink RX4 42 "java/lang/IllegalStateException", Cond.initialized "java/lang/IllegalStateException", Cond.fieldLink RX4 10 "SedgeBarges" "now" "LSedgeBarges$Waterway;", Cond.methodLink RX4 110 yX4_needBarge, Cond.instanceMethod yX4_needBarge, Cond.selects RX4 yX4_needBarge yX4_needBarge, Cond.initialized RX4, Cond.code yX4_needBarge cX4_needBarge 2 none, Cond.classLink RX4 161 "java/lang/IndexOutOfBoundsException", Cond.initialized "java/lang/IndexOutOfBoundsException", Cond.methodLink RX4 51 yX4_needBed, Cond.instanceMethod yX4_needBed, Cond.selects RX4 yX4_needBed yX4_needBed, Cond.code yX4_needBed cX4_needBed 2 none, Cond.methodLink RX4 122 yX3_takeAboard, Cond.instanceMethod yX3_takeAboard, Cond.selects RX3 yX3_takeAboard yX3_takeAboard, Cond.initialized RX3, Cond.code yX3_takeAboard cX3_takeAboard 6 (some .int), Cond.fieldLink RX3 28 "SedgeBarges$Waterway" "barges" "LSedgeBarges$Barges;", Cond.fieldLink RX3 21 "SedgeBarges$Waterway" "beds" "LSedgeBarges$Beds;", Cond.methodLink RX3 63 Lib.Math.min.name, Cond.static Lib.Math.min.name, Cond.initialized "java/lang/Math"]
def wsX4_load_r2 : List Cond := [Cond.code Lib.Math.min.name Lib.Math.min.code 2 (some .int), Cond.methodLink RX3 55 yX0_aboard, Cond.instanceMethod yX0_aboard, Cond.selects RX0 yX0_aboard yX0_aboard, Cond.initialized RX0, Cond.code yX0_aboard cX0_aboard 2 (some .int), Cond.fieldLink RX0 18 "SedgeBarges$Barges" "sedge" "[I", Cond.fieldLink RX0 21 "SedgeBarges$Barges" "reed" "[I"]
def wsX4_load : List Cond := .code yX4_load cX4_load 3 (some .int) :: ((wsX4_load_r1 ++ wsX4_load_r2) ++ wsX40 ++ wsX30 ++ wsX00 ++ wsX10 ++ (vx_atS RX4 46 "java/lang/IllegalStateException" ["java/lang/RuntimeException", "java/lang/Exception"]).filter goodWord ++ (vx_atS RX4 165 "java/lang/IndexOutOfBoundsException" ["java/lang/RuntimeException", "java/lang/Exception"]).filter goodWord)
def wsX4_sell_r1 : List Cond := [Cond.classLink RX4 42 "java/lang/IllegalStateException", Cond.initialized "java/lang/IllegalStateException", Cond.fieldLink RX4 10 "SedgeBarges" "now" "LSedgeBarges$Waterway;", Cond.methodLink RX4 110 yX4_needBarge, Cond.instanceMethod yX4_needBarge, Cond.selects RX4 yX4_needBarge yX4_needBarge, Cond.initialized RX4, Cond.code yX4_needBarge cX4_needBarge 2 none, Cond.classLink RX4 161 "java/lang/IndexOutOfBoundsException", Cond.initialized "java/lang/IndexOutOfBoundsException", Cond.methodLink RX4 125 yX4_landingAt, Cond.static yX4_landingAt, Cond.code yX4_landingAt cX4_landingAt 2 (some .int), Cond.fieldLink RX4 147 "SedgeBarges" "LANDING_PLACE" "[I", Cond.methodLink RX4 130 yX3_sellAll, Cond.instanceMethod yX3_sellAll, Cond.selects RX3 yX3_sellAll yX3_sellAll, Cond.initialized RX3, Cond.code yX3_sellAll cX3_sellAll 5 (some .int), Cond.fieldLink RX3 28 "SedgeBarges$Waterway" "barges" "LSedgeBarges$Barges;", Cond.fieldLink RX3 35 "SedgeBarges$Waterway" "landings" "LSedgeBarges$Landings;", Cond.fieldLink RX3 9 "SedgeBarges$Waterway" "coins" "I", Cond.methodLink RX3 55 yX0_aboard, Cond.instanceMethod yX0_aboard]
def wsX4_sell_r2 : List Cond := [Cond.selects RX0 yX0_aboard yX0_aboard, Cond.initialized RX0, Cond.code yX0_aboard cX0_aboard 2 (some .int), Cond.fieldLink RX0 18 "SedgeBarges$Barges" "sedge" "[I", Cond.fieldLink RX0 21 "SedgeBarges$Barges" "reed" "[I", Cond.methodLink RX3 78 yX2_sedgePrice, Cond.instanceMethod yX2_sedgePrice, Cond.selects RX2 yX2_sedgePrice yX2_sedgePrice, Cond.initialized RX2, Cond.code yX2_sedgePrice cX2_sedgePrice 2 (some .int), Cond.fieldLink RX2 9 "SedgeBarges$Landings" "store" "[I", Cond.methodLink RX2 18 Lib.Math.max.name, Cond.static Lib.Math.max.name, Cond.initialized "java/lang/Math", Cond.code Lib.Math.max.name Lib.Math.max.code 2 (some .int), Cond.methodLink RX3 81 yX2_reedPrice, Cond.instanceMethod yX2_reedPrice, Cond.selects RX2 yX2_reedPrice yX2_reedPrice, Cond.code yX2_reedPrice cX2_reedPrice 2 (some .int), Cond.methodLink RX2 24 yX2_sedgePrice]
def wsX4_sell : List Cond := .code yX4_sell cX4_sell 3 (some .int) :: ((wsX4_sell_r1 ++ wsX4_sell_r2) ++ wsX40 ++ wsX30 ++ wsX00 ++ wsX20 ++ (vx_atS RX4 46 "java/lang/IllegalStateException" ["java/lang/RuntimeException", "java/lang/Exception"]).filter goodWord ++ (vx_atS RX4 165 "java/lang/IndexOutOfBoundsException" ["java/lang/RuntimeException", "java/lang/Exception"]).filter goodWord)
def wsX4_told : List Cond := .code yX4_told cX4_told 3 (some .int) :: ([.fieldLink RX4 10 "SedgeBarges" "now" "LSedgeBarges$Waterway;", .methodLink RX4 110 yX4_needBarge, .instanceMethod yX4_needBarge, .selects RX4 yX4_needBarge yX4_needBarge, .initialized RX4, .code yX4_needBarge cX4_needBarge 2 none, .classLink RX4 161 "java/lang/IndexOutOfBoundsException", .initialized "java/lang/IndexOutOfBoundsException", .methodLink RX4 82 yX4_needFigure, .static yX4_needFigure, .code yX4_needFigure cX4_needFigure 2 none, .methodLink RX4 133 yX0_tell, .instanceMethod yX0_tell, .selects RX0 yX0_tell yX0_tell, .initialized RX0, .code yX0_tell cX0_tell 3 (some .int), .fieldLink RX0 9 "SedgeBarges$Barges" "place" "[I", .fieldLink RX0 15 "SedgeBarges$Barges" "goal" "[I", .fieldLink RX0 18 "SedgeBarges$Barges" "sedge" "[I", .fieldLink RX0 21 "SedgeBarges$Barges" "reed" "[I", .fieldLink RX0 24 "SedgeBarges$Barges" "brought" "[I", .static yX4_landingAt, .code yX4_landingAt cX4_landingAt 2 (some .int), .fieldLink RX4 147 "SedgeBarges" "LANDING_PLACE" "[I"] ++ wsX40 ++ wsX30 ++ wsX00 ++ (vx_atS RX4 165 "java/lang/IndexOutOfBoundsException" ["java/lang/RuntimeException", "java/lang/Exception"]).filter goodWord)
def wsX4_needLanding : List Cond := .code yX4_needLanding cX4_needLanding 1 none :: ([.classLink RX4 161 "java/lang/IndexOutOfBoundsException", .initialized "java/lang/IndexOutOfBoundsException"] ++ (vx_atS RX4 165 "java/lang/IndexOutOfBoundsException" ["java/lang/RuntimeException", "java/lang/Exception"]).filter goodWord)
def wsX4_landing_r1 : List Cond := [Cond.fieldLink RX4 10 "SedgeBarges" "now" "LSedgeBarges$Waterway;", Cond.methodLink RX4 134 yX4_needLanding, Cond.static yX4_needLanding, Cond.initialized RX4, Cond.code yX4_needLanding cX4_needLanding 1 none, Cond.classLink RX4 161 "java/lang/IndexOutOfBoundsException", Cond.initialized "java/lang/IndexOutOfBoundsException", Cond.methodLink RX4 82 yX4_needFigure, Cond.static yX4_needFigure, Cond.code yX4_needFigure cX4_needFigure 2 none, Cond.methodLink RX4 141 yX2_tell, Cond.instanceMethod yX2_tell, Cond.selects RX2 yX2_tell yX2_tell, Cond.initialized RX2, Cond.code yX2_tell cX2_tell 3 (some .int), Cond.fieldLink RX2 9 "SedgeBarges$Landings" "store" "[I", Cond.methodLink RX2 24 yX2_sedgePrice, Cond.instanceMethod yX2_sedgePrice, Cond.selects RX2 yX2_sedgePrice yX2_sedgePrice, Cond.code yX2_sedgePrice cX2_sedgePrice 2 (some .int), Cond.methodLink RX2 18 Lib.Math.max.name, Cond.static Lib.Math.max.name, Cond.initialized "java/lang/Math", Cond.code Lib.Math.max.name Lib.Math.max.code 2 (some .int)]
def wsX4_landing_r2 : List Cond := [Cond.methodLink RX2 34 yX2_reedPrice, Cond.instanceMethod yX2_reedPrice, Cond.selects RX2 yX2_reedPrice yX2_reedPrice, Cond.code yX2_reedPrice cX2_reedPrice 2 (some .int)]
def wsX4_landing : List Cond := .code yX4_landing cX4_landing 3 (some .int) :: ((wsX4_landing_r1 ++ wsX4_landing_r2) ++ wsX40 ++ wsX30 ++ wsX20 ++ (vx_atS RX4 165 "java/lang/IndexOutOfBoundsException" ["java/lang/RuntimeException", "java/lang/Exception"]).filter goodWord)
def wsX4_would_r1 : List Cond := [Cond.fieldLink RX4 16 "SedgeBarges" "ahead" "LSedgeBarges$Waterway;", Cond.fieldLink RX4 10 "SedgeBarges" "now" "LSedgeBarges$Waterway;", Cond.fieldLink RX4 147 "SedgeBarges" "LANDING_PLACE" "[I", Cond.methodLink RX4 110 yX4_needBarge, Cond.instanceMethod yX4_needBarge, Cond.selects RX4 yX4_needBarge yX4_needBarge, Cond.initialized RX4, Cond.code yX4_needBarge cX4_needBarge 2 none, Cond.classLink RX4 161 "java/lang/IndexOutOfBoundsException", Cond.initialized "java/lang/IndexOutOfBoundsException", Cond.methodLink RX4 134 yX4_needLanding, Cond.static yX4_needLanding, Cond.code yX4_needLanding cX4_needLanding 1 none, Cond.methodLink RX4 144 yX3_copyFrom, Cond.instanceMethod yX3_copyFrom, Cond.selects RX3 yX3_copyFrom yX3_copyFrom, Cond.initialized RX3, Cond.code yX3_copyFrom cX3_copyFrom 2 none, Cond.fieldLink RX3 39 "SedgeBarges$Waterway" "day" "I", Cond.fieldLink RX3 9 "SedgeBarges$Waterway" "coins" "I", Cond.fieldLink RX3 15 "SedgeBarges$Waterway" "ties" "I", Cond.fieldLink RX3 42 "SedgeBarges$Waterway" "rotted" "I", Cond.fieldLink RX3 21 "SedgeBarges$Waterway" "beds" "LSedgeBarges$Beds;", Cond.fieldLink RX3 28 "SedgeBarges$Waterway" "barges" "LSedgeBarges$Barges;"]
def wsX4_would_r2 : List Cond := [Cond.fieldLink RX3 35 "SedgeBarges$Waterway" "landings" "LSedgeBarges$Landings;", Cond.methodLink RX3 45 yX1_copyFrom, Cond.instanceMethod yX1_copyFrom, Cond.selects RX1 yX1_copyFrom yX1_copyFrom, Cond.initialized RX1, Cond.code yX1_copyFrom cX1_copyFrom 3 none, Cond.fieldLink RX1 39 "SedgeBarges$Beds" "number" "I", Cond.fieldLink RX1 9 "SedgeBarges$Beds" "place" "[I", Cond.fieldLink RX1 15 "SedgeBarges$Beds" "size" "[I", Cond.fieldLink RX1 18 "SedgeBarges$Beds" "age" "[I", Cond.fieldLink RX1 21 "SedgeBarges$Beds" "sedge" "[I", Cond.fieldLink RX1 24 "SedgeBarges$Beds" "untiedSedge" "[I", Cond.fieldLink RX1 27 "SedgeBarges$Beds" "untiedReed" "[I", Cond.fieldLink RX1 30 "SedgeBarges$Beds" "tiedSedge" "[I", Cond.fieldLink RX1 33 "SedgeBarges$Beds" "tiedReed" "[I", Cond.methodLink RX3 49 yX0_copyFrom, Cond.instanceMethod yX0_copyFrom, Cond.selects RX0 yX0_copyFrom yX0_copyFrom, Cond.initialized RX0, Cond.code yX0_copyFrom cX0_copyFrom 3 none, Cond.fieldLink RX0 27 "SedgeBarges$Barges" "number" "I", Cond.fieldLink RX0 9 "SedgeBarges$Barges" "place" "[I", Cond.fieldLink RX0 15 "SedgeBarges$Barges" "goal" "[I", Cond.fieldLink RX0 18 "SedgeBarges$Barges" "sedge" "[I"]
def wsX4_would_r3 : List Cond := [Cond.fieldLink RX0 21 "SedgeBarges$Barges" "reed" "[I", Cond.fieldLink RX0 24 "SedgeBarges$Barges" "brought" "[I", Cond.methodLink RX3 52 yX2_copyFrom, Cond.instanceMethod yX2_copyFrom, Cond.selects RX2 yX2_copyFrom yX2_copyFrom, Cond.initialized RX2, Cond.code yX2_copyFrom cX2_copyFrom 3 none, Cond.fieldLink RX2 9 "SedgeBarges$Landings" "store" "[I", Cond.methodLink RX4 113 yX0_send, Cond.instanceMethod yX0_send, Cond.selects RX0 yX0_send yX0_send, Cond.code yX0_send cX0_send 4 (some .int), Cond.methodLink RX0 31 Lib.Math.abs.name, Cond.static Lib.Math.abs.name, Cond.initialized "java/lang/Math", Cond.code Lib.Math.abs.name Lib.Math.abs.code 1 (some .int), Cond.methodLink RX4 150 yX3_passDays, Cond.instanceMethod yX3_passDays, Cond.selects RX3 yX3_passDays yX3_passDays, Cond.code yX3_passDays cX3_passDays 4 (some .int), Cond.methodLink RX3 90 yX3_passDay, Cond.instanceMethod yX3_passDay, Cond.selects RX3 yX3_passDay yX3_passDay, Cond.code yX3_passDay cX3_passDay 1 none]
def wsX4_would_r4 : List Cond := [Cond.methodLink RX3 93 yX0_sailOn, Cond.instanceMethod yX0_sailOn, Cond.selects RX0 yX0_sailOn yX0_sailOn, Cond.code yX0_sailOn cX0_sailOn 3 none, Cond.methodLink RX0 37 Lib.Math.min.name, Cond.static Lib.Math.min.name, Cond.code Lib.Math.min.name Lib.Math.min.code 2 (some .int), Cond.methodLink RX0 41 Lib.Math.max.name, Cond.static Lib.Math.max.name, Cond.code Lib.Math.max.name Lib.Math.max.code 2 (some .int), Cond.methodLink RX3 96 yX1_rot, Cond.instanceMethod yX1_rot, Cond.selects RX1 yX1_rot yX1_rot, Cond.code yX1_rot cX1_rot 5 (some .int), Cond.static yX4_tenthRoundedUp, Cond.code yX4_tenthRoundedUp cX4_tenthRoundedUp 1 (some .int), Cond.methodLink RX3 100 yX2_thatch, Cond.instanceMethod yX2_thatch, Cond.selects RX2 yX2_thatch yX2_thatch, Cond.code yX2_thatch cX2_thatch 2 none, Cond.static yX4_twentiethRoundedUp, Cond.code yX4_twentiethRoundedUp cX4_twentiethRoundedUp 1 (some .int), Cond.methodLink RX3 103 yX1_endYear, Cond.instanceMethod yX1_endYear]
def wsX4_would_r5 : List Cond := [Cond.selects RX1 yX1_endYear yX1_endYear, Cond.code yX1_endYear cX1_endYear 2 none, Cond.fieldLink RX1 36 "SedgeBarges$Beds" "change" "[I", Cond.methodLink RX1 53 Lib.Math.min.name, Cond.methodLink RX1 69 Lib.Math.max.name, Cond.methodLink RX1 62 yX1_changeByAge, Cond.static yX1_changeByAge, Cond.code yX1_changeByAge cX1_changeByAge 1 (some .int), Cond.methodLink RX1 65 yX1_isCreptInto, Cond.instanceMethod yX1_isCreptInto, Cond.selects RX1 yX1_isCreptInto yX1_isCreptInto, Cond.code yX1_isCreptInto cX1_isCreptInto 3 (some .boolean), Cond.methodLink RX1 72 Lib.Math.abs.name, Cond.methodLink RX4 130 yX3_sellAll, Cond.instanceMethod yX3_sellAll, Cond.selects RX3 yX3_sellAll yX3_sellAll, Cond.code yX3_sellAll cX3_sellAll 5 (some .int), Cond.methodLink RX3 55 yX0_aboard, Cond.instanceMethod yX0_aboard, Cond.selects RX0 yX0_aboard yX0_aboard, Cond.code yX0_aboard cX0_aboard 2 (some .int), Cond.methodLink RX3 78 yX2_sedgePrice, Cond.instanceMethod yX2_sedgePrice, Cond.selects RX2 yX2_sedgePrice yX2_sedgePrice]
def wsX4_would_r6 : List Cond := [Cond.code yX2_sedgePrice cX2_sedgePrice 2 (some .int), Cond.methodLink RX2 18 Lib.Math.max.name, Cond.methodLink RX3 81 yX2_reedPrice, Cond.instanceMethod yX2_reedPrice, Cond.selects RX2 yX2_reedPrice yX2_reedPrice, Cond.code yX2_reedPrice cX2_reedPrice 2 (some .int), Cond.methodLink RX2 24 yX2_sedgePrice]
def wsX4_would : List Cond := .code yX4_would cX4_would 4 (some .int) :: ((wsX4_would_r1 ++ (wsX4_would_r2 ++ (wsX4_would_r3 ++ (wsX4_would_r4 ++ (wsX4_would_r5 ++ wsX4_would_r6))))) ++ wsX40 ++ wsX30 ++ wsX00 ++ wsX10 ++ wsX20 ++ (vx_atS RX4 165 "java/lang/IndexOutOfBoundsException" ["java/lang/RuntimeException", "java/lang/Exception"]).filter goodWord)
def wsX4_advise_r1 : List Cond := [Cond.methodLink RX4 110 yX4_needBarge, Cond.instanceMethod yX4_needBarge, Cond.selects RX4 yX4_needBarge yX4_needBarge, Cond.initialized RX4, Cond.code yX4_needBarge cX4_needBarge 2 none, Cond.classLink RX4 161 "java/lang/IndexOutOfBoundsException", Cond.initialized "java/lang/IndexOutOfBoundsException", Cond.fieldLink RX4 10 "SedgeBarges" "now" "LSedgeBarges$Waterway;", Cond.methodLink RX4 153 yX4_would, Cond.instanceMethod yX4_would, Cond.selects RX4 yX4_would yX4_would, Cond.code yX4_would cX4_would 4 (some .int), Cond.fieldLink RX4 16 "SedgeBarges" "ahead" "LSedgeBarges$Waterway;", Cond.fieldLink RX4 147 "SedgeBarges" "LANDING_PLACE" "[I", Cond.methodLink RX4 134 yX4_needLanding, Cond.static yX4_needLanding, Cond.code yX4_needLanding cX4_needLanding 1 none, Cond.methodLink RX4 144 yX3_copyFrom, Cond.instanceMethod yX3_copyFrom, Cond.selects RX3 yX3_copyFrom yX3_copyFrom, Cond.initialized RX3, Cond.code yX3_copyFrom cX3_copyFrom 2 none, Cond.fieldLink RX3 39 "SedgeBarges$Waterway" "day" "I", Cond.fieldLink RX3 9 "SedgeBarges$Waterway" "coins" "I"]
def wsX4_advise_r2 : List Cond := [Cond.fieldLink RX3 15 "SedgeBarges$Waterway" "ties" "I", Cond.fieldLink RX3 42 "SedgeBarges$Waterway" "rotted" "I", Cond.fieldLink RX3 21 "SedgeBarges$Waterway" "beds" "LSedgeBarges$Beds;", Cond.fieldLink RX3 28 "SedgeBarges$Waterway" "barges" "LSedgeBarges$Barges;", Cond.fieldLink RX3 35 "SedgeBarges$Waterway" "landings" "LSedgeBarges$Landings;", Cond.methodLink RX3 45 yX1_copyFrom, Cond.instanceMethod yX1_copyFrom, Cond.selects RX1 yX1_copyFrom yX1_copyFrom, Cond.initialized RX1, Cond.code yX1_copyFrom cX1_copyFrom 3 none, Cond.fieldLink RX1 39 "SedgeBarges$Beds" "number" "I", Cond.fieldLink RX1 9 "SedgeBarges$Beds" "place" "[I", Cond.fieldLink RX1 15 "SedgeBarges$Beds" "size" "[I", Cond.fieldLink RX1 18 "SedgeBarges$Beds" "age" "[I", Cond.fieldLink RX1 21 "SedgeBarges$Beds" "sedge" "[I", Cond.fieldLink RX1 24 "SedgeBarges$Beds" "untiedSedge" "[I", Cond.fieldLink RX1 27 "SedgeBarges$Beds" "untiedReed" "[I", Cond.fieldLink RX1 30 "SedgeBarges$Beds" "tiedSedge" "[I", Cond.fieldLink RX1 33 "SedgeBarges$Beds" "tiedReed" "[I", Cond.methodLink RX3 49 yX0_copyFrom, Cond.instanceMethod yX0_copyFrom, Cond.selects RX0 yX0_copyFrom yX0_copyFrom, Cond.initialized RX0, Cond.code yX0_copyFrom cX0_copyFrom 3 none]
def wsX4_advise_r3 : List Cond := [Cond.fieldLink RX0 27 "SedgeBarges$Barges" "number" "I", Cond.fieldLink RX0 9 "SedgeBarges$Barges" "place" "[I", Cond.fieldLink RX0 15 "SedgeBarges$Barges" "goal" "[I", Cond.fieldLink RX0 18 "SedgeBarges$Barges" "sedge" "[I", Cond.fieldLink RX0 21 "SedgeBarges$Barges" "reed" "[I", Cond.fieldLink RX0 24 "SedgeBarges$Barges" "brought" "[I", Cond.methodLink RX3 52 yX2_copyFrom, Cond.instanceMethod yX2_copyFrom, Cond.selects RX2 yX2_copyFrom yX2_copyFrom, Cond.initialized RX2, Cond.code yX2_copyFrom cX2_copyFrom 3 none, Cond.fieldLink RX2 9 "SedgeBarges$Landings" "store" "[I", Cond.methodLink RX4 113 yX0_send, Cond.instanceMethod yX0_send, Cond.selects RX0 yX0_send yX0_send, Cond.code yX0_send cX0_send 4 (some .int), Cond.methodLink RX0 31 Lib.Math.abs.name, Cond.static Lib.Math.abs.name, Cond.initialized "java/lang/Math", Cond.code Lib.Math.abs.name Lib.Math.abs.code 1 (some .int), Cond.methodLink RX4 150 yX3_passDays, Cond.instanceMethod yX3_passDays, Cond.selects RX3 yX3_passDays yX3_passDays, Cond.code yX3_passDays cX3_passDays 4 (some .int)]
def wsX4_advise_r4 : List Cond := [Cond.methodLink RX3 90 yX3_passDay, Cond.instanceMethod yX3_passDay, Cond.selects RX3 yX3_passDay yX3_passDay, Cond.code yX3_passDay cX3_passDay 1 none, Cond.methodLink RX3 93 yX0_sailOn, Cond.instanceMethod yX0_sailOn, Cond.selects RX0 yX0_sailOn yX0_sailOn, Cond.code yX0_sailOn cX0_sailOn 3 none, Cond.methodLink RX0 37 Lib.Math.min.name, Cond.static Lib.Math.min.name, Cond.code Lib.Math.min.name Lib.Math.min.code 2 (some .int), Cond.methodLink RX0 41 Lib.Math.max.name, Cond.static Lib.Math.max.name, Cond.code Lib.Math.max.name Lib.Math.max.code 2 (some .int), Cond.methodLink RX3 96 yX1_rot, Cond.instanceMethod yX1_rot, Cond.selects RX1 yX1_rot yX1_rot, Cond.code yX1_rot cX1_rot 5 (some .int), Cond.static yX4_tenthRoundedUp, Cond.code yX4_tenthRoundedUp cX4_tenthRoundedUp 1 (some .int), Cond.methodLink RX3 100 yX2_thatch, Cond.instanceMethod yX2_thatch, Cond.selects RX2 yX2_thatch yX2_thatch, Cond.code yX2_thatch cX2_thatch 2 none]
def wsX4_advise_r5 : List Cond := [Cond.static yX4_twentiethRoundedUp, Cond.code yX4_twentiethRoundedUp cX4_twentiethRoundedUp 1 (some .int), Cond.methodLink RX3 103 yX1_endYear, Cond.instanceMethod yX1_endYear, Cond.selects RX1 yX1_endYear yX1_endYear, Cond.code yX1_endYear cX1_endYear 2 none, Cond.fieldLink RX1 36 "SedgeBarges$Beds" "change" "[I", Cond.methodLink RX1 53 Lib.Math.min.name, Cond.methodLink RX1 69 Lib.Math.max.name, Cond.methodLink RX1 62 yX1_changeByAge, Cond.static yX1_changeByAge, Cond.code yX1_changeByAge cX1_changeByAge 1 (some .int), Cond.methodLink RX1 65 yX1_isCreptInto, Cond.instanceMethod yX1_isCreptInto, Cond.selects RX1 yX1_isCreptInto yX1_isCreptInto, Cond.code yX1_isCreptInto cX1_isCreptInto 3 (some .boolean), Cond.methodLink RX1 72 Lib.Math.abs.name, Cond.methodLink RX4 130 yX3_sellAll, Cond.instanceMethod yX3_sellAll, Cond.selects RX3 yX3_sellAll yX3_sellAll, Cond.code yX3_sellAll cX3_sellAll 5 (some .int), Cond.methodLink RX3 55 yX0_aboard, Cond.instanceMethod yX0_aboard, Cond.selects RX0 yX0_aboard yX0_aboard]
def wsX4_advise_r6 : List Cond := [Cond.code yX0_aboard cX0_aboard 2 (some .int), Cond.methodLink RX3 78 yX2_sedgePrice, Cond.instanceMethod yX2_sedgePrice, Cond.selects RX2 yX2_sedgePrice yX2_sedgePrice, Cond.code yX2_sedgePrice cX2_sedgePrice 2 (some .int), Cond.methodLink RX2 18 Lib.Math.max.name, Cond.methodLink RX3 81 yX2_reedPrice, Cond.instanceMethod yX2_reedPrice, Cond.selects RX2 yX2_reedPrice yX2_reedPrice, Cond.code yX2_reedPrice cX2_reedPrice 2 (some .int), Cond.methodLink RX2 24 yX2_sedgePrice]
def wsX4_advise : List Cond := .code yX4_advise cX4_advise 6 (some .int) :: ((wsX4_advise_r1 ++ (wsX4_advise_r2 ++ (wsX4_advise_r3 ++ (wsX4_advise_r4 ++ (wsX4_advise_r5 ++ wsX4_advise_r6))))) ++ wsX40 ++ wsX30 ++ wsX00 ++ wsX10 ++ wsX20 ++ (vx_atS RX4 165 "java/lang/IndexOutOfBoundsException" ["java/lang/RuntimeException", "java/lang/Exception"]).filter goodWord)
def wsX4_count_r1 : List Cond := [Cond.fieldLink RX4 10 "SedgeBarges" "now" "LSedgeBarges$Waterway;", Cond.methodLink RX4 82 yX4_needFigure, Cond.static yX4_needFigure, Cond.initialized RX4, Cond.code yX4_needFigure cX4_needFigure 2 none, Cond.classLink RX4 161 "java/lang/IndexOutOfBoundsException", Cond.initialized "java/lang/IndexOutOfBoundsException", Cond.methodLink RX4 156 yX3_tell, Cond.instanceMethod yX3_tell, Cond.selects RX3 yX3_tell yX3_tell, Cond.initialized RX3, Cond.code yX3_tell cX3_tell 2 (some .int), Cond.fieldLink RX3 39 "SedgeBarges$Waterway" "day" "I", Cond.fieldLink RX3 9 "SedgeBarges$Waterway" "coins" "I", Cond.fieldLink RX3 15 "SedgeBarges$Waterway" "ties" "I", Cond.fieldLink RX3 21 "SedgeBarges$Waterway" "beds" "LSedgeBarges$Beds;", Cond.fieldLink RX3 28 "SedgeBarges$Waterway" "barges" "LSedgeBarges$Barges;", Cond.fieldLink RX3 35 "SedgeBarges$Waterway" "landings" "LSedgeBarges$Landings;", Cond.fieldLink RX3 42 "SedgeBarges$Waterway" "rotted" "I", Cond.methodLink RX3 109 yX1_givenByAll, Cond.instanceMethod yX1_givenByAll, Cond.selects RX1 yX1_givenByAll yX1_givenByAll, Cond.initialized RX1, Cond.code yX1_givenByAll cX1_givenByAll 3 (some .int)]
def wsX4_count_r2 : List Cond := [Cond.fieldLink RX1 39 "SedgeBarges$Beds" "number" "I", Cond.methodLink RX1 46 yX1_given, Cond.instanceMethod yX1_given, Cond.selects RX1 yX1_given yX1_given, Cond.code yX1_given cX1_given 4 (some .int), Cond.fieldLink RX1 18 "SedgeBarges$Beds" "age" "[I", Cond.fieldLink RX1 15 "SedgeBarges$Beds" "size" "[I", Cond.methodLink RX3 112 yX1_untiedOfAll, Cond.instanceMethod yX1_untiedOfAll, Cond.selects RX1 yX1_untiedOfAll yX1_untiedOfAll, Cond.code yX1_untiedOfAll cX1_untiedOfAll 3 (some .int), Cond.fieldLink RX1 24 "SedgeBarges$Beds" "untiedSedge" "[I", Cond.fieldLink RX1 27 "SedgeBarges$Beds" "untiedReed" "[I", Cond.methodLink RX3 115 yX1_tiedOfAll, Cond.instanceMethod yX1_tiedOfAll, Cond.selects RX1 yX1_tiedOfAll yX1_tiedOfAll, Cond.code yX1_tiedOfAll cX1_tiedOfAll 3 (some .int), Cond.fieldLink RX1 30 "SedgeBarges$Beds" "tiedSedge" "[I", Cond.fieldLink RX1 33 "SedgeBarges$Beds" "tiedReed" "[I", Cond.methodLink RX3 119 yX0_aboardAll, Cond.instanceMethod yX0_aboardAll, Cond.selects RX0 yX0_aboardAll yX0_aboardAll, Cond.initialized RX0, Cond.code yX0_aboardAll cX0_aboardAll 3 (some .int)]
def wsX4_count_r3 : List Cond := [Cond.fieldLink RX0 27 "SedgeBarges$Barges" "number" "I", Cond.methodLink RX0 47 yX0_aboard, Cond.instanceMethod yX0_aboard, Cond.selects RX0 yX0_aboard yX0_aboard, Cond.code yX0_aboard cX0_aboard 2 (some .int), Cond.fieldLink RX0 18 "SedgeBarges$Barges" "sedge" "[I", Cond.fieldLink RX0 21 "SedgeBarges$Barges" "reed" "[I", Cond.methodLink RX3 122 yX2_storeOfAll, Cond.instanceMethod yX2_storeOfAll, Cond.selects RX2 yX2_storeOfAll yX2_storeOfAll, Cond.initialized RX2, Cond.code yX2_storeOfAll cX2_storeOfAll 3 (some .int), Cond.fieldLink RX2 9 "SedgeBarges$Landings" "store" "[I"]
def wsX4_count : List Cond := .code yX4_count cX4_count 2 (some .int) :: ((wsX4_count_r1 ++ (wsX4_count_r2 ++ wsX4_count_r3)) ++ wsX40 ++ wsX30 ++ wsX10 ++ wsX00 ++ wsX20 ++ (vx_atS RX4 165 "java/lang/IndexOutOfBoundsException" ["java/lang/RuntimeException", "java/lang/Exception"]).filter goodWord)
def wsX4_needDays : List Cond := .code yX4_needDays cX4_needDays 1 none :: ([.classLink RX4 23 "java/lang/IllegalArgumentException", .initialized "java/lang/IllegalArgumentException"] ++ (vx_atS RX4 27 "java/lang/IllegalArgumentException" ["java/lang/RuntimeException", "java/lang/Exception"]).filter goodWord)
def wsX4_pass_r1 : List Cond := [Cond.fieldLink RX4 10 "SedgeBarges" "now" "LSedgeBarges$Waterway;", Cond.methodLink RX4 158 yX4_needDays, Cond.static yX4_needDays, Cond.initialized RX4, Cond.code yX4_needDays cX4_needDays 1 none, Cond.classLink RX4 23 "java/lang/IllegalArgumentException", Cond.initialized "java/lang/IllegalArgumentException", Cond.methodLink RX4 150 yX3_passDays, Cond.instanceMethod yX3_passDays, Cond.selects RX3 yX3_passDays yX3_passDays, Cond.initialized RX3, Cond.code yX3_passDays cX3_passDays 4 (some .int), Cond.fieldLink RX3 42 "SedgeBarges$Waterway" "rotted" "I", Cond.methodLink RX3 90 yX3_passDay, Cond.instanceMethod yX3_passDay, Cond.selects RX3 yX3_passDay yX3_passDay, Cond.code yX3_passDay cX3_passDay 1 none, Cond.fieldLink RX3 28 "SedgeBarges$Waterway" "barges" "LSedgeBarges$Barges;", Cond.fieldLink RX3 21 "SedgeBarges$Waterway" "beds" "LSedgeBarges$Beds;", Cond.fieldLink RX3 35 "SedgeBarges$Waterway" "landings" "LSedgeBarges$Landings;", Cond.fieldLink RX3 39 "SedgeBarges$Waterway" "day" "I", Cond.methodLink RX3 93 yX0_sailOn, Cond.instanceMethod yX0_sailOn, Cond.selects RX0 yX0_sailOn yX0_sailOn]
def wsX4_pass_r2 : List Cond := [Cond.initialized RX0, Cond.code yX0_sailOn cX0_sailOn 3 none, Cond.fieldLink RX0 27 "SedgeBarges$Barges" "number" "I", Cond.fieldLink RX0 15 "SedgeBarges$Barges" "goal" "[I", Cond.fieldLink RX0 9 "SedgeBarges$Barges" "place" "[I", Cond.methodLink RX0 37 Lib.Math.min.name, Cond.static Lib.Math.min.name, Cond.initialized "java/lang/Math", Cond.code Lib.Math.min.name Lib.Math.min.code 2 (some .int), Cond.methodLink RX0 41 Lib.Math.max.name, Cond.static Lib.Math.max.name, Cond.code Lib.Math.max.name Lib.Math.max.code 2 (some .int), Cond.methodLink RX3 96 yX1_rot, Cond.instanceMethod yX1_rot, Cond.selects RX1 yX1_rot yX1_rot, Cond.initialized RX1, Cond.code yX1_rot cX1_rot 5 (some .int), Cond.fieldLink RX1 39 "SedgeBarges$Beds" "number" "I", Cond.fieldLink RX1 24 "SedgeBarges$Beds" "untiedSedge" "[I", Cond.fieldLink RX1 27 "SedgeBarges$Beds" "untiedReed" "[I", Cond.static yX4_tenthRoundedUp, Cond.code yX4_tenthRoundedUp cX4_tenthRoundedUp 1 (some .int), Cond.methodLink RX3 100 yX2_thatch, Cond.instanceMethod yX2_thatch]
def wsX4_pass_r3 : List Cond := [Cond.selects RX2 yX2_thatch yX2_thatch, Cond.initialized RX2, Cond.code yX2_thatch cX2_thatch 2 none, Cond.fieldLink RX2 9 "SedgeBarges$Landings" "store" "[I", Cond.static yX4_twentiethRoundedUp, Cond.code yX4_twentiethRoundedUp cX4_twentiethRoundedUp 1 (some .int), Cond.methodLink RX3 103 yX1_endYear, Cond.instanceMethod yX1_endYear, Cond.selects RX1 yX1_endYear yX1_endYear, Cond.code yX1_endYear cX1_endYear 2 none, Cond.fieldLink RX1 36 "SedgeBarges$Beds" "change" "[I", Cond.fieldLink RX1 18 "SedgeBarges$Beds" "age" "[I", Cond.fieldLink RX1 21 "SedgeBarges$Beds" "sedge" "[I", Cond.methodLink RX1 53 Lib.Math.min.name, Cond.methodLink RX1 69 Lib.Math.max.name, Cond.methodLink RX1 62 yX1_changeByAge, Cond.static yX1_changeByAge, Cond.code yX1_changeByAge cX1_changeByAge 1 (some .int), Cond.methodLink RX1 65 yX1_isCreptInto, Cond.instanceMethod yX1_isCreptInto, Cond.selects RX1 yX1_isCreptInto yX1_isCreptInto, Cond.code yX1_isCreptInto cX1_isCreptInto 3 (some .boolean), Cond.fieldLink RX1 9 "SedgeBarges$Beds" "place" "[I", Cond.methodLink RX1 72 Lib.Math.abs.name]
def wsX4_pass_r4 : List Cond := [Cond.static Lib.Math.abs.name, Cond.code Lib.Math.abs.name Lib.Math.abs.code 1 (some .int)]
def wsX4_pass : List Cond := .code yX4_pass cX4_pass 2 (some .int) :: ((wsX4_pass_r1 ++ (wsX4_pass_r2 ++ (wsX4_pass_r3 ++ wsX4_pass_r4))) ++ wsX40 ++ wsX30 ++ wsX00 ++ wsX10 ++ wsX20 ++ (vx_atS RX4 27 "java/lang/IllegalArgumentException" ["java/lang/RuntimeException", "java/lang/Exception"]).filter goodWord)
def wsX4_foresee_r1 : List Cond := [Cond.classLink RX4 161 "java/lang/IndexOutOfBoundsException", Cond.initialized "java/lang/IndexOutOfBoundsException", Cond.fieldLink RX4 16 "SedgeBarges" "ahead" "LSedgeBarges$Waterway;", Cond.fieldLink RX4 10 "SedgeBarges" "now" "LSedgeBarges$Waterway;", Cond.methodLink RX4 158 yX4_needDays, Cond.static yX4_needDays, Cond.initialized RX4, Cond.code yX4_needDays cX4_needDays 1 none, Cond.classLink RX4 23 "java/lang/IllegalArgumentException", Cond.initialized "java/lang/IllegalArgumentException", Cond.methodLink RX4 144 yX3_copyFrom, Cond.instanceMethod yX3_copyFrom, Cond.selects RX3 yX3_copyFrom yX3_copyFrom, Cond.initialized RX3, Cond.code yX3_copyFrom cX3_copyFrom 2 none, Cond.fieldLink RX3 39 "SedgeBarges$Waterway" "day" "I", Cond.fieldLink RX3 9 "SedgeBarges$Waterway" "coins" "I", Cond.fieldLink RX3 15 "SedgeBarges$Waterway" "ties" "I", Cond.fieldLink RX3 42 "SedgeBarges$Waterway" "rotted" "I", Cond.fieldLink RX3 21 "SedgeBarges$Waterway" "beds" "LSedgeBarges$Beds;", Cond.fieldLink RX3 28 "SedgeBarges$Waterway" "barges" "LSedgeBarges$Barges;", Cond.fieldLink RX3 35 "SedgeBarges$Waterway" "landings" "LSedgeBarges$Landings;", Cond.methodLink RX3 45 yX1_copyFrom, Cond.instanceMethod yX1_copyFrom]
def wsX4_foresee_r2 : List Cond := [Cond.selects RX1 yX1_copyFrom yX1_copyFrom, Cond.initialized RX1, Cond.code yX1_copyFrom cX1_copyFrom 3 none, Cond.fieldLink RX1 39 "SedgeBarges$Beds" "number" "I", Cond.fieldLink RX1 9 "SedgeBarges$Beds" "place" "[I", Cond.fieldLink RX1 15 "SedgeBarges$Beds" "size" "[I", Cond.fieldLink RX1 18 "SedgeBarges$Beds" "age" "[I", Cond.fieldLink RX1 21 "SedgeBarges$Beds" "sedge" "[I", Cond.fieldLink RX1 24 "SedgeBarges$Beds" "untiedSedge" "[I", Cond.fieldLink RX1 27 "SedgeBarges$Beds" "untiedReed" "[I", Cond.fieldLink RX1 30 "SedgeBarges$Beds" "tiedSedge" "[I", Cond.fieldLink RX1 33 "SedgeBarges$Beds" "tiedReed" "[I", Cond.methodLink RX3 49 yX0_copyFrom, Cond.instanceMethod yX0_copyFrom, Cond.selects RX0 yX0_copyFrom yX0_copyFrom, Cond.initialized RX0, Cond.code yX0_copyFrom cX0_copyFrom 3 none, Cond.fieldLink RX0 27 "SedgeBarges$Barges" "number" "I", Cond.fieldLink RX0 9 "SedgeBarges$Barges" "place" "[I", Cond.fieldLink RX0 15 "SedgeBarges$Barges" "goal" "[I", Cond.fieldLink RX0 18 "SedgeBarges$Barges" "sedge" "[I", Cond.fieldLink RX0 21 "SedgeBarges$Barges" "reed" "[I", Cond.fieldLink RX0 24 "SedgeBarges$Barges" "brought" "[I", Cond.methodLink RX3 52 yX2_copyFrom]
def wsX4_foresee_r3 : List Cond := [Cond.instanceMethod yX2_copyFrom, Cond.selects RX2 yX2_copyFrom yX2_copyFrom, Cond.initialized RX2, Cond.code yX2_copyFrom cX2_copyFrom 3 none, Cond.fieldLink RX2 9 "SedgeBarges$Landings" "store" "[I", Cond.methodLink RX4 150 yX3_passDays, Cond.instanceMethod yX3_passDays, Cond.selects RX3 yX3_passDays yX3_passDays, Cond.code yX3_passDays cX3_passDays 4 (some .int), Cond.methodLink RX3 90 yX3_passDay, Cond.instanceMethod yX3_passDay, Cond.selects RX3 yX3_passDay yX3_passDay, Cond.code yX3_passDay cX3_passDay 1 none, Cond.methodLink RX3 93 yX0_sailOn, Cond.instanceMethod yX0_sailOn, Cond.selects RX0 yX0_sailOn yX0_sailOn, Cond.code yX0_sailOn cX0_sailOn 3 none, Cond.methodLink RX0 37 Lib.Math.min.name, Cond.static Lib.Math.min.name, Cond.initialized "java/lang/Math", Cond.code Lib.Math.min.name Lib.Math.min.code 2 (some .int), Cond.methodLink RX0 41 Lib.Math.max.name, Cond.static Lib.Math.max.name, Cond.code Lib.Math.max.name Lib.Math.max.code 2 (some .int)]
def wsX4_foresee_r4 : List Cond := [Cond.methodLink RX3 96 yX1_rot, Cond.instanceMethod yX1_rot, Cond.selects RX1 yX1_rot yX1_rot, Cond.code yX1_rot cX1_rot 5 (some .int), Cond.static yX4_tenthRoundedUp, Cond.code yX4_tenthRoundedUp cX4_tenthRoundedUp 1 (some .int), Cond.methodLink RX3 100 yX2_thatch, Cond.instanceMethod yX2_thatch, Cond.selects RX2 yX2_thatch yX2_thatch, Cond.code yX2_thatch cX2_thatch 2 none, Cond.static yX4_twentiethRoundedUp, Cond.code yX4_twentiethRoundedUp cX4_twentiethRoundedUp 1 (some .int), Cond.methodLink RX3 103 yX1_endYear, Cond.instanceMethod yX1_endYear, Cond.selects RX1 yX1_endYear yX1_endYear, Cond.code yX1_endYear cX1_endYear 2 none, Cond.fieldLink RX1 36 "SedgeBarges$Beds" "change" "[I", Cond.methodLink RX1 53 Lib.Math.min.name, Cond.methodLink RX1 69 Lib.Math.max.name, Cond.methodLink RX1 62 yX1_changeByAge, Cond.static yX1_changeByAge, Cond.code yX1_changeByAge cX1_changeByAge 1 (some .int), Cond.methodLink RX1 65 yX1_isCreptInto, Cond.instanceMethod yX1_isCreptInto]
def wsX4_foresee_r5 : List Cond := [Cond.selects RX1 yX1_isCreptInto yX1_isCreptInto, Cond.code yX1_isCreptInto cX1_isCreptInto 3 (some .boolean), Cond.methodLink RX1 72 Lib.Math.abs.name, Cond.static Lib.Math.abs.name, Cond.code Lib.Math.abs.name Lib.Math.abs.code 1 (some .int), Cond.methodLink RX4 156 yX3_tell, Cond.instanceMethod yX3_tell, Cond.selects RX3 yX3_tell yX3_tell, Cond.code yX3_tell cX3_tell 2 (some .int), Cond.methodLink RX3 109 yX1_givenByAll, Cond.instanceMethod yX1_givenByAll, Cond.selects RX1 yX1_givenByAll yX1_givenByAll, Cond.code yX1_givenByAll cX1_givenByAll 3 (some .int), Cond.methodLink RX1 46 yX1_given, Cond.instanceMethod yX1_given, Cond.selects RX1 yX1_given yX1_given, Cond.code yX1_given cX1_given 4 (some .int), Cond.methodLink RX3 112 yX1_untiedOfAll, Cond.instanceMethod yX1_untiedOfAll, Cond.selects RX1 yX1_untiedOfAll yX1_untiedOfAll, Cond.code yX1_untiedOfAll cX1_untiedOfAll 3 (some .int), Cond.methodLink RX3 115 yX1_tiedOfAll, Cond.instanceMethod yX1_tiedOfAll, Cond.selects RX1 yX1_tiedOfAll yX1_tiedOfAll]
def wsX4_foresee_r6 : List Cond := [Cond.code yX1_tiedOfAll cX1_tiedOfAll 3 (some .int), Cond.methodLink RX3 119 yX0_aboardAll, Cond.instanceMethod yX0_aboardAll, Cond.selects RX0 yX0_aboardAll yX0_aboardAll, Cond.code yX0_aboardAll cX0_aboardAll 3 (some .int), Cond.methodLink RX0 47 yX0_aboard, Cond.instanceMethod yX0_aboard, Cond.selects RX0 yX0_aboard yX0_aboard, Cond.code yX0_aboard cX0_aboard 2 (some .int), Cond.methodLink RX3 122 yX2_storeOfAll, Cond.instanceMethod yX2_storeOfAll, Cond.selects RX2 yX2_storeOfAll yX2_storeOfAll, Cond.code yX2_storeOfAll cX2_storeOfAll 3 (some .int)]
def wsX4_foresee : List Cond := .code yX4_foresee cX4_foresee 3 (some .int) :: ((wsX4_foresee_r1 ++ (wsX4_foresee_r2 ++ (wsX4_foresee_r3 ++ (wsX4_foresee_r4 ++ (wsX4_foresee_r5 ++ wsX4_foresee_r6))))) ++ wsX40 ++ wsX30 ++ wsX10 ++ wsX00 ++ wsX20 ++ (vx_atS RX4 165 "java/lang/IndexOutOfBoundsException" ["java/lang/RuntimeException", "java/lang/Exception"]).filter goodWord ++ (vx_atS RX4 27 "java/lang/IllegalArgumentException" ["java/lang/RuntimeException", "java/lang/Exception"]).filter goodWord)
def wsX4_mean : List Cond := .code yX4_mean cX4_mean 1 (some .double) :: ([.fieldLink RX4 10 "SedgeBarges" "now" "LSedgeBarges$Waterway;", .methodLink RX4 169 yX1_sedgeOfAll, .instanceMethod yX1_sedgeOfAll, .selects RX1 yX1_sedgeOfAll yX1_sedgeOfAll, .initialized RX1, .code yX1_sedgeOfAll cX1_sedgeOfAll 3 (some .int), .fieldLink RX1 39 "SedgeBarges$Beds" "number" "I", .fieldLink RX1 21 "SedgeBarges$Beds" "sedge" "[I"] ++ wsX40 ++ wsX30 ++ wsX10)
def wsX4_digest_r1 : List Cond := [Cond.constantLong RX4 173 (1277), Cond.constantLong RX4 175 (31), Cond.fieldLink RX4 10 "SedgeBarges" "now" "LSedgeBarges$Waterway;", Cond.methodLink RX4 156 yX3_tell, Cond.instanceMethod yX3_tell, Cond.selects RX3 yX3_tell yX3_tell, Cond.initialized RX3, Cond.code yX3_tell cX3_tell 2 (some .int), Cond.fieldLink RX3 39 "SedgeBarges$Waterway" "day" "I", Cond.fieldLink RX3 9 "SedgeBarges$Waterway" "coins" "I", Cond.fieldLink RX3 15 "SedgeBarges$Waterway" "ties" "I", Cond.fieldLink RX3 21 "SedgeBarges$Waterway" "beds" "LSedgeBarges$Beds;", Cond.fieldLink RX3 28 "SedgeBarges$Waterway" "barges" "LSedgeBarges$Barges;", Cond.fieldLink RX3 35 "SedgeBarges$Waterway" "landings" "LSedgeBarges$Landings;", Cond.fieldLink RX3 42 "SedgeBarges$Waterway" "rotted" "I", Cond.methodLink RX3 109 yX1_givenByAll, Cond.instanceMethod yX1_givenByAll, Cond.selects RX1 yX1_givenByAll yX1_givenByAll, Cond.initialized RX1, Cond.code yX1_givenByAll cX1_givenByAll 3 (some .int), Cond.fieldLink RX1 39 "SedgeBarges$Beds" "number" "I", Cond.methodLink RX1 46 yX1_given, Cond.instanceMethod yX1_given, Cond.selects RX1 yX1_given yX1_given]
def wsX4_digest_r2 : List Cond := [Cond.code yX1_given cX1_given 4 (some .int), Cond.fieldLink RX1 18 "SedgeBarges$Beds" "age" "[I", Cond.fieldLink RX1 15 "SedgeBarges$Beds" "size" "[I", Cond.methodLink RX3 112 yX1_untiedOfAll, Cond.instanceMethod yX1_untiedOfAll, Cond.selects RX1 yX1_untiedOfAll yX1_untiedOfAll, Cond.code yX1_untiedOfAll cX1_untiedOfAll 3 (some .int), Cond.fieldLink RX1 24 "SedgeBarges$Beds" "untiedSedge" "[I", Cond.fieldLink RX1 27 "SedgeBarges$Beds" "untiedReed" "[I", Cond.methodLink RX3 115 yX1_tiedOfAll, Cond.instanceMethod yX1_tiedOfAll, Cond.selects RX1 yX1_tiedOfAll yX1_tiedOfAll, Cond.code yX1_tiedOfAll cX1_tiedOfAll 3 (some .int), Cond.fieldLink RX1 30 "SedgeBarges$Beds" "tiedSedge" "[I", Cond.fieldLink RX1 33 "SedgeBarges$Beds" "tiedReed" "[I", Cond.methodLink RX3 119 yX0_aboardAll, Cond.instanceMethod yX0_aboardAll, Cond.selects RX0 yX0_aboardAll yX0_aboardAll, Cond.initialized RX0, Cond.code yX0_aboardAll cX0_aboardAll 3 (some .int), Cond.fieldLink RX0 27 "SedgeBarges$Barges" "number" "I", Cond.methodLink RX0 47 yX0_aboard, Cond.instanceMethod yX0_aboard, Cond.selects RX0 yX0_aboard yX0_aboard]
def wsX4_digest_r3 : List Cond := [Cond.code yX0_aboard cX0_aboard 2 (some .int), Cond.fieldLink RX0 18 "SedgeBarges$Barges" "sedge" "[I", Cond.fieldLink RX0 21 "SedgeBarges$Barges" "reed" "[I", Cond.methodLink RX3 122 yX2_storeOfAll, Cond.instanceMethod yX2_storeOfAll, Cond.selects RX2 yX2_storeOfAll yX2_storeOfAll, Cond.initialized RX2, Cond.code yX2_storeOfAll cX2_storeOfAll 3 (some .int), Cond.fieldLink RX2 9 "SedgeBarges$Landings" "store" "[I", Cond.methodLink RX4 86 yX1_tell, Cond.instanceMethod yX1_tell, Cond.selects RX1 yX1_tell yX1_tell, Cond.code yX1_tell cX1_tell 3 (some .int), Cond.fieldLink RX1 9 "SedgeBarges$Beds" "place" "[I", Cond.fieldLink RX1 21 "SedgeBarges$Beds" "sedge" "[I", Cond.methodLink RX1 50 yX1_sedgeGiven, Cond.instanceMethod yX1_sedgeGiven, Cond.selects RX1 yX1_sedgeGiven yX1_sedgeGiven, Cond.code yX1_sedgeGiven cX1_sedgeGiven 2 (some .int), Cond.methodLink RX4 133 yX0_tell, Cond.instanceMethod yX0_tell, Cond.selects RX0 yX0_tell yX0_tell, Cond.code yX0_tell cX0_tell 3 (some .int), Cond.fieldLink RX0 9 "SedgeBarges$Barges" "place" "[I"]
def wsX4_digest_r4 : List Cond := [Cond.fieldLink RX0 15 "SedgeBarges$Barges" "goal" "[I", Cond.fieldLink RX0 24 "SedgeBarges$Barges" "brought" "[I", Cond.static yX4_landingAt, Cond.initialized RX4, Cond.code yX4_landingAt cX4_landingAt 2 (some .int), Cond.fieldLink RX4 147 "SedgeBarges" "LANDING_PLACE" "[I", Cond.methodLink RX4 141 yX2_tell, Cond.instanceMethod yX2_tell, Cond.selects RX2 yX2_tell yX2_tell, Cond.code yX2_tell cX2_tell 3 (some .int), Cond.methodLink RX2 24 yX2_sedgePrice, Cond.instanceMethod yX2_sedgePrice, Cond.selects RX2 yX2_sedgePrice yX2_sedgePrice, Cond.code yX2_sedgePrice cX2_sedgePrice 2 (some .int), Cond.methodLink RX2 18 Lib.Math.max.name, Cond.static Lib.Math.max.name, Cond.initialized "java/lang/Math", Cond.code Lib.Math.max.name Lib.Math.max.code 2 (some .int), Cond.methodLink RX2 34 yX2_reedPrice, Cond.instanceMethod yX2_reedPrice, Cond.selects RX2 yX2_reedPrice yX2_reedPrice, Cond.code yX2_reedPrice cX2_reedPrice 2 (some .int)]
def wsX4_digest : List Cond := .code yX4_digest cX4_digest 5 (some .long) :: ((wsX4_digest_r1 ++ (wsX4_digest_r2 ++ (wsX4_digest_r3 ++ wsX4_digest_r4))) ++ wsX40 ++ wsX30 ++ wsX10 ++ wsX00 ++ wsX20)
def wsX5_init : List Cond := .code yX5_init cX5_init 1 none :: ([.methodLink RX5 1 objectInit, .instanceMethod objectInit, .code objectInit ⟨#[0xb1]⟩ 1 none, .fieldLink RX5 7 "SedgeBargesModel" "coins" "I", .fieldLink RX5 13 "SedgeBargesModel" "ties" "I", .arrayClass .int, .fieldLink RX5 16 "SedgeBargesModel" "b" "[I", .fieldLink RX5 20 "SedgeBargesModel" "g" "[I", .fieldLink RX5 23 "SedgeBargesModel" "store" "[I", .fieldLink RX5 26 "SedgeBargesModel" "bAhead" "[I", .fieldLink RX5 29 "SedgeBargesModel" "gAhead" "[I", .fieldLink RX5 32 "SedgeBargesModel" "storeAhead" "[I", .fieldLink RX5 35 "SedgeBargesModel" "more" "[I"] ++ wsX50)
def wsX5_thrown : List Cond := .code yX5_thrown cX5_thrown 1 (some .int) :: ([.fieldLink RX5 38 "SedgeBargesModel" "thrown" "I"] ++ wsX50)
def wsX5_no : List Cond := .code yX5_no cX5_no 2 (some .int) :: ([.fieldLink RX5 38 "SedgeBargesModel" "thrown" "I"] ++ wsX50)
def wsX5_isIn : List Cond := .code yX5_isIn cX5_isIn 3 (some .boolean) :: ([])
def wsX5_isBed : List Cond := .code yX5_isBed cX5_isBed 2 (some .boolean) :: ([.fieldLink RX5 41 "SedgeBargesModel" "beds" "I", .methodLink RX5 44 yX5_isIn, .static yX5_isIn, .initialized RX5, .code yX5_isIn cX5_isIn 3 (some .boolean)] ++ wsX50)
def wsX5_isBarge : List Cond := .code yX5_isBarge cX5_isBarge 2 (some .boolean) :: ([.fieldLink RX5 48 "SedgeBargesModel" "barges" "I", .methodLink RX5 44 yX5_isIn, .static yX5_isIn, .initialized RX5, .code yX5_isIn cX5_isIn 3 (some .boolean)] ++ wsX50)
def wsX5_gives : List Cond := .code yX5_gives cX5_gives 2 (some .int) :: ([.fieldLink RX5 51 "SedgeBargesModel" "GROWTH" "[I"])
def wsX5_givesSedge : List Cond := .code yX5_givesSedge cX5_givesSedge 2 (some .int) :: ([.methodLink RX5 54 yX5_gives, .static yX5_gives, .initialized RX5, .code yX5_gives cX5_gives 2 (some .int), .fieldLink RX5 51 "SedgeBargesModel" "GROWTH" "[I"])
def wsX5_bed : List Cond := .code yX5_bed cX5_bed 5 (some .int) :: ([.fieldLink RX5 38 "SedgeBargesModel" "thrown" "I", .fieldLink RX5 41 "SedgeBargesModel" "beds" "I", .fieldLink RX5 16 "SedgeBargesModel" "b" "[I", .methodLink RX5 44 yX5_isIn, .static yX5_isIn, .initialized RX5, .code yX5_isIn cX5_isIn 3 (some .boolean), .methodLink RX5 58 yX5_no, .instanceMethod yX5_no, .selects RX5 yX5_no yX5_no, .code yX5_no cX5_no 2 (some .int)] ++ wsX50)
def wsX5_cut : List Cond := .code yX5_cut cX5_cut 5 (some .int) :: ([.fieldLink RX5 38 "SedgeBargesModel" "thrown" "I", .fieldLink RX5 16 "SedgeBargesModel" "b" "[I", .methodLink RX5 62 yX5_isBed, .instanceMethod yX5_isBed, .selects RX5 yX5_isBed yX5_isBed, .initialized RX5, .code yX5_isBed cX5_isBed 2 (some .boolean), .fieldLink RX5 41 "SedgeBargesModel" "beds" "I", .methodLink RX5 44 yX5_isIn, .static yX5_isIn, .code yX5_isIn cX5_isIn 3 (some .boolean), .methodLink RX5 58 yX5_no, .instanceMethod yX5_no, .selects RX5 yX5_no yX5_no, .code yX5_no cX5_no 2 (some .int), .methodLink RX5 54 yX5_gives, .static yX5_gives, .code yX5_gives cX5_gives 2 (some .int), .fieldLink RX5 51 "SedgeBargesModel" "GROWTH" "[I", .methodLink RX5 66 yX5_givesSedge, .static yX5_givesSedge, .code yX5_givesSedge cX5_givesSedge 2 (some .int)] ++ wsX50)
def wsX5_tieOf : List Cond := .code yX5_tieOf cX5_tieOf 4 (some .int) :: ([.fieldLink RX5 13 "SedgeBargesModel" "ties" "I", .fieldLink RX5 16 "SedgeBargesModel" "b" "[I", .methodLink RX5 73 Lib.Math.min.name, .static Lib.Math.min.name, .initialized "java/lang/Math", .code Lib.Math.min.name Lib.Math.min.code 2 (some .int)] ++ wsX50)
def wsX5_tie : List Cond := .code yX5_tie cX5_tie 2 (some .int) :: ([.fieldLink RX5 38 "SedgeBargesModel" "thrown" "I", .methodLink RX5 62 yX5_isBed, .instanceMethod yX5_isBed, .selects RX5 yX5_isBed yX5_isBed, .initialized RX5, .code yX5_isBed cX5_isBed 2 (some .boolean), .fieldLink RX5 41 "SedgeBargesModel" "beds" "I", .methodLink RX5 44 yX5_isIn, .static yX5_isIn, .code yX5_isIn cX5_isIn 3 (some .boolean), .methodLink RX5 69 yX5_tieOf, .instanceMethod yX5_tieOf, .selects RX5 yX5_tieOf yX5_tieOf, .code yX5_tieOf cX5_tieOf 4 (some .int), .fieldLink RX5 13 "SedgeBargesModel" "ties" "I", .fieldLink RX5 16 "SedgeBargesModel" "b" "[I", .methodLink RX5 73 Lib.Math.min.name, .static Lib.Math.min.name, .initialized "java/lang/Math", .code Lib.Math.min.name Lib.Math.min.code 2 (some .int), .methodLink RX5 58 yX5_no, .instanceMethod yX5_no, .selects RX5 yX5_no yX5_no, .code yX5_no cX5_no 2 (some .int)] ++ wsX50)
def wsX5_buy : List Cond := .code yX5_buy cX5_buy 2 (some .int) :: ([.fieldLink RX5 38 "SedgeBargesModel" "thrown" "I", .fieldLink RX5 7 "SedgeBargesModel" "coins" "I", .fieldLink RX5 13 "SedgeBargesModel" "ties" "I", .methodLink RX5 44 yX5_isIn, .static yX5_isIn, .initialized RX5, .code yX5_isIn cX5_isIn 3 (some .boolean), .methodLink RX5 58 yX5_no, .instanceMethod yX5_no, .selects RX5 yX5_no yX5_no, .code yX5_no cX5_no 2 (some .int)] ++ wsX50)
def wsX5_bedTold : List Cond := .code yX5_bedTold cX5_bedTold 4 (some .int) :: ([.fieldLink RX5 16 "SedgeBargesModel" "b" "[I", .methodLink RX5 54 yX5_gives, .static yX5_gives, .initialized RX5, .code yX5_gives cX5_gives 2 (some .int), .fieldLink RX5 51 "SedgeBargesModel" "GROWTH" "[I", .methodLink RX5 66 yX5_givesSedge, .static yX5_givesSedge, .code yX5_givesSedge cX5_givesSedge 2 (some .int)] ++ wsX50)
def wsX5_about_r1 : List Cond := [Cond.fieldLink RX5 38 "SedgeBargesModel" "thrown" "I", Cond.methodLink RX5 62 yX5_isBed, Cond.instanceMethod yX5_isBed, Cond.selects RX5 yX5_isBed yX5_isBed, Cond.initialized RX5, Cond.code yX5_isBed cX5_isBed 2 (some .boolean), Cond.fieldLink RX5 41 "SedgeBargesModel" "beds" "I", Cond.methodLink RX5 44 yX5_isIn, Cond.static yX5_isIn, Cond.code yX5_isIn cX5_isIn 3 (some .boolean), Cond.methodLink RX5 78 yX5_bedTold, Cond.instanceMethod yX5_bedTold, Cond.selects RX5 yX5_bedTold yX5_bedTold, Cond.code yX5_bedTold cX5_bedTold 4 (some .int), Cond.fieldLink RX5 16 "SedgeBargesModel" "b" "[I", Cond.methodLink RX5 54 yX5_gives, Cond.static yX5_gives, Cond.code yX5_gives cX5_gives 2 (some .int), Cond.fieldLink RX5 51 "SedgeBargesModel" "GROWTH" "[I", Cond.methodLink RX5 66 yX5_givesSedge, Cond.static yX5_givesSedge, Cond.code yX5_givesSedge cX5_givesSedge 2 (some .int), Cond.methodLink RX5 58 yX5_no, Cond.instanceMethod yX5_no]
def wsX5_about_r2 : List Cond := [Cond.selects RX5 yX5_no yX5_no, Cond.code yX5_no cX5_no 2 (some .int)]
def wsX5_about : List Cond := .code yX5_about cX5_about 3 (some .int) :: ((wsX5_about_r1 ++ wsX5_about_r2) ++ wsX50)
def wsX5_lookAhead : List Cond := .code yX5_lookAhead cX5_lookAhead 1 none :: ([.fieldLink RX5 16 "SedgeBargesModel" "b" "[I", .fieldLink RX5 26 "SedgeBargesModel" "bAhead" "[I", .methodLink RX5 158 arraycopyName, .native arraycopyName, .static arraycopyName, .initialized "java/lang/System", .fieldLink RX5 20 "SedgeBargesModel" "g" "[I", .fieldLink RX5 29 "SedgeBargesModel" "gAhead" "[I", .fieldLink RX5 23 "SedgeBargesModel" "store" "[I", .fieldLink RX5 32 "SedgeBargesModel" "storeAhead" "[I"] ++ wsX50)
def wsX5_hasReedBeside : List Cond := .code yX5_hasReedBeside cX5_hasReedBeside 5 (some .boolean) :: ([.fieldLink RX5 41 "SedgeBargesModel" "beds" "I", .methodLink RX5 88 Lib.Math.abs.name, .static Lib.Math.abs.name, .initialized "java/lang/Math", .code Lib.Math.abs.name Lib.Math.abs.code 1 (some .int)] ++ wsX50)
def wsX5_endYear : List Cond := .code yX5_endYear cX5_endYear 4 none :: ([.fieldLink RX5 41 "SedgeBargesModel" "beds" "I", .fieldLink RX5 35 "SedgeBargesModel" "more" "[I", .methodLink RX5 73 Lib.Math.min.name, .static Lib.Math.min.name, .initialized "java/lang/Math", .code Lib.Math.min.name Lib.Math.min.code 2 (some .int), .methodLink RX5 110 Lib.Math.max.name, .static Lib.Math.max.name, .code Lib.Math.max.name Lib.Math.max.code 2 (some .int), .methodLink RX5 137 yX5_hasReedBeside, .instanceMethod yX5_hasReedBeside, .selects RX5 yX5_hasReedBeside yX5_hasReedBeside, .initialized RX5, .code yX5_hasReedBeside cX5_hasReedBeside 5 (some .boolean), .methodLink RX5 88 Lib.Math.abs.name, .static Lib.Math.abs.name, .code Lib.Math.abs.name Lib.Math.abs.code 1 (some .int)] ++ wsX50)
def wsX5_best_r1 : List Cond := [Cond.fieldLink RX5 38 "SedgeBargesModel" "thrown" "I", Cond.fieldLink RX5 26 "SedgeBargesModel" "bAhead" "[I", Cond.methodLink RX5 62 yX5_isBed, Cond.instanceMethod yX5_isBed, Cond.selects RX5 yX5_isBed yX5_isBed, Cond.initialized RX5, Cond.code yX5_isBed cX5_isBed 2 (some .boolean), Cond.fieldLink RX5 41 "SedgeBargesModel" "beds" "I", Cond.methodLink RX5 44 yX5_isIn, Cond.static yX5_isIn, Cond.code yX5_isIn cX5_isIn 3 (some .boolean), Cond.methodLink RX5 58 yX5_no, Cond.instanceMethod yX5_no, Cond.selects RX5 yX5_no yX5_no, Cond.code yX5_no cX5_no 2 (some .int), Cond.methodLink RX5 81 yX5_lookAhead, Cond.instanceMethod yX5_lookAhead, Cond.selects RX5 yX5_lookAhead yX5_lookAhead, Cond.code yX5_lookAhead cX5_lookAhead 1 none, Cond.fieldLink RX5 16 "SedgeBargesModel" "b" "[I", Cond.methodLink RX5 158 arraycopyName, Cond.native arraycopyName, Cond.static arraycopyName, Cond.initialized "java/lang/System"]
def wsX5_best_r2 : List Cond := [Cond.fieldLink RX5 20 "SedgeBargesModel" "g" "[I", Cond.fieldLink RX5 29 "SedgeBargesModel" "gAhead" "[I", Cond.fieldLink RX5 23 "SedgeBargesModel" "store" "[I", Cond.fieldLink RX5 32 "SedgeBargesModel" "storeAhead" "[I", Cond.methodLink RX5 66 yX5_givesSedge, Cond.static yX5_givesSedge, Cond.code yX5_givesSedge cX5_givesSedge 2 (some .int), Cond.methodLink RX5 54 yX5_gives, Cond.static yX5_gives, Cond.code yX5_gives cX5_gives 2 (some .int), Cond.fieldLink RX5 51 "SedgeBargesModel" "GROWTH" "[I", Cond.methodLink RX5 84 yX5_endYear, Cond.instanceMethod yX5_endYear, Cond.selects RX5 yX5_endYear yX5_endYear, Cond.code yX5_endYear cX5_endYear 4 none, Cond.fieldLink RX5 35 "SedgeBargesModel" "more" "[I", Cond.methodLink RX5 73 Lib.Math.min.name, Cond.static Lib.Math.min.name, Cond.initialized "java/lang/Math", Cond.code Lib.Math.min.name Lib.Math.min.code 2 (some .int), Cond.methodLink RX5 110 Lib.Math.max.name, Cond.static Lib.Math.max.name, Cond.code Lib.Math.max.name Lib.Math.max.code 2 (some .int), Cond.methodLink RX5 137 yX5_hasReedBeside]
def wsX5_best_r3 : List Cond := [Cond.instanceMethod yX5_hasReedBeside, Cond.selects RX5 yX5_hasReedBeside yX5_hasReedBeside, Cond.code yX5_hasReedBeside cX5_hasReedBeside 5 (some .boolean), Cond.methodLink RX5 88 Lib.Math.abs.name, Cond.static Lib.Math.abs.name, Cond.code Lib.Math.abs.name Lib.Math.abs.code 1 (some .int)]
def wsX5_best : List Cond := .code yX5_best cX5_best 6 (some .int) :: ((wsX5_best_r1 ++ (wsX5_best_r2 ++ wsX5_best_r3)) ++ wsX50)
def wsX5_barge : List Cond := .code yX5_barge cX5_barge 2 (some .int) :: ([.fieldLink RX5 38 "SedgeBargesModel" "thrown" "I", .fieldLink RX5 48 "SedgeBargesModel" "barges" "I", .fieldLink RX5 20 "SedgeBargesModel" "g" "[I", .methodLink RX5 44 yX5_isIn, .static yX5_isIn, .initialized RX5, .code yX5_isIn cX5_isIn 3 (some .boolean), .methodLink RX5 58 yX5_no, .instanceMethod yX5_no, .selects RX5 yX5_no yX5_no, .code yX5_no cX5_no 2 (some .int)] ++ wsX50)
def wsX5_days : List Cond := .code yX5_days cX5_days 2 (some .int) :: ([.methodLink RX5 88 Lib.Math.abs.name, .static Lib.Math.abs.name, .initialized "java/lang/Math", .code Lib.Math.abs.name Lib.Math.abs.code 1 (some .int)])
def wsX5_sail : List Cond := .code yX5_sail cX5_sail 4 (some .int) :: ([.fieldLink RX5 38 "SedgeBargesModel" "thrown" "I", .fieldLink RX5 20 "SedgeBargesModel" "g" "[I", .methodLink RX5 91 yX5_isBarge, .instanceMethod yX5_isBarge, .selects RX5 yX5_isBarge yX5_isBarge, .initialized RX5, .code yX5_isBarge cX5_isBarge 2 (some .boolean), .fieldLink RX5 48 "SedgeBargesModel" "barges" "I", .methodLink RX5 44 yX5_isIn, .static yX5_isIn, .code yX5_isIn cX5_isIn 3 (some .boolean), .methodLink RX5 58 yX5_no, .instanceMethod yX5_no, .selects RX5 yX5_no yX5_no, .code yX5_no cX5_no 2 (some .int), .methodLink RX5 94 yX5_days, .static yX5_days, .code yX5_days cX5_days 2 (some .int), .methodLink RX5 88 Lib.Math.abs.name, .static Lib.Math.abs.name, .initialized "java/lang/Math", .code Lib.Math.abs.name Lib.Math.abs.code 1 (some .int)] ++ wsX50)
def wsX5_aboard : List Cond := .code yX5_aboard cX5_aboard 2 (some .int) :: ([.fieldLink RX5 20 "SedgeBargesModel" "g" "[I"] ++ wsX50)
def wsX5_loadOf : List Cond := .code yX5_loadOf cX5_loadOf 5 (some .int) :: ([.fieldLink RX5 16 "SedgeBargesModel" "b" "[I", .methodLink RX5 73 Lib.Math.min.name, .static Lib.Math.min.name, .initialized "java/lang/Math", .code Lib.Math.min.name Lib.Math.min.code 2 (some .int), .fieldLink RX5 20 "SedgeBargesModel" "g" "[I", .methodLink RX5 101 yX5_aboard, .instanceMethod yX5_aboard, .selects RX5 yX5_aboard yX5_aboard, .initialized RX5, .code yX5_aboard cX5_aboard 2 (some .int)] ++ wsX50)
def wsX5_load_r1 : List Cond := [Cond.fieldLink RX5 38 "SedgeBargesModel" "thrown" "I", Cond.fieldLink RX5 20 "SedgeBargesModel" "g" "[I", Cond.fieldLink RX5 16 "SedgeBargesModel" "b" "[I", Cond.methodLink RX5 91 yX5_isBarge, Cond.instanceMethod yX5_isBarge, Cond.selects RX5 yX5_isBarge yX5_isBarge, Cond.initialized RX5, Cond.code yX5_isBarge cX5_isBarge 2 (some .boolean), Cond.fieldLink RX5 48 "SedgeBargesModel" "barges" "I", Cond.methodLink RX5 44 yX5_isIn, Cond.static yX5_isIn, Cond.code yX5_isIn cX5_isIn 3 (some .boolean), Cond.methodLink RX5 62 yX5_isBed, Cond.instanceMethod yX5_isBed, Cond.selects RX5 yX5_isBed yX5_isBed, Cond.code yX5_isBed cX5_isBed 2 (some .boolean), Cond.fieldLink RX5 41 "SedgeBargesModel" "beds" "I", Cond.methodLink RX5 58 yX5_no, Cond.instanceMethod yX5_no, Cond.selects RX5 yX5_no yX5_no, Cond.code yX5_no cX5_no 2 (some .int), Cond.methodLink RX5 97 yX5_loadOf, Cond.instanceMethod yX5_loadOf, Cond.selects RX5 yX5_loadOf yX5_loadOf]
def wsX5_load_r2 : List Cond := [Cond.code yX5_loadOf cX5_loadOf 5 (some .int), Cond.methodLink RX5 73 Lib.Math.min.name, Cond.static Lib.Math.min.name, Cond.initialized "java/lang/Math", Cond.code Lib.Math.min.name Lib.Math.min.code 2 (some .int), Cond.methodLink RX5 101 yX5_aboard, Cond.instanceMethod yX5_aboard, Cond.selects RX5 yX5_aboard yX5_aboard, Cond.code yX5_aboard cX5_aboard 2 (some .int)]
def wsX5_load : List Cond := .code yX5_load cX5_load 3 (some .int) :: ((wsX5_load_r1 ++ wsX5_load_r2) ++ wsX50)
def wsX5_landingAt : List Cond := .code yX5_landingAt cX5_landingAt 2 (some .int) :: ([.fieldLink RX5 104 "SedgeBargesModel" "LANDING" "[I"])
def wsX5_price : List Cond := .code yX5_price cX5_price 2 (some .int) :: ([.fieldLink RX5 107 "SedgeBargesModel" "WORTH" "[I", .methodLink RX5 110 Lib.Math.max.name, .static Lib.Math.max.name, .initialized "java/lang/Math", .code Lib.Math.max.name Lib.Math.max.code 2 (some .int)])
def wsX5_reedPrice : List Cond := .code yX5_reedPrice cX5_reedPrice 2 (some .int) :: ([.methodLink RX5 110 Lib.Math.max.name, .static Lib.Math.max.name, .initialized "java/lang/Math", .code Lib.Math.max.name Lib.Math.max.code 2 (some .int), .methodLink RX5 113 yX5_price, .static yX5_price, .initialized RX5, .code yX5_price cX5_price 2 (some .int), .fieldLink RX5 107 "SedgeBargesModel" "WORTH" "[I"])
def wsX5_brings : List Cond := .code yX5_brings cX5_brings 4 (some .int) :: ([.fieldLink RX5 20 "SedgeBargesModel" "g" "[I", .methodLink RX5 113 yX5_price, .static yX5_price, .initialized RX5, .code yX5_price cX5_price 2 (some .int), .fieldLink RX5 107 "SedgeBargesModel" "WORTH" "[I", .methodLink RX5 110 Lib.Math.max.name, .static Lib.Math.max.name, .initialized "java/lang/Math", .code Lib.Math.max.name Lib.Math.max.code 2 (some .int), .methodLink RX5 116 yX5_reedPrice, .static yX5_reedPrice, .code yX5_reedPrice cX5_reedPrice 2 (some .int)] ++ wsX50)
def wsX5_sell_r1 : List Cond := [Cond.fieldLink RX5 38 "SedgeBargesModel" "thrown" "I", Cond.fieldLink RX5 20 "SedgeBargesModel" "g" "[I", Cond.fieldLink RX5 23 "SedgeBargesModel" "store" "[I", Cond.fieldLink RX5 7 "SedgeBargesModel" "coins" "I", Cond.methodLink RX5 91 yX5_isBarge, Cond.instanceMethod yX5_isBarge, Cond.selects RX5 yX5_isBarge yX5_isBarge, Cond.initialized RX5, Cond.code yX5_isBarge cX5_isBarge 2 (some .boolean), Cond.fieldLink RX5 48 "SedgeBargesModel" "barges" "I", Cond.methodLink RX5 44 yX5_isIn, Cond.static yX5_isIn, Cond.code yX5_isIn cX5_isIn 3 (some .boolean), Cond.methodLink RX5 58 yX5_no, Cond.instanceMethod yX5_no, Cond.selects RX5 yX5_no yX5_no, Cond.code yX5_no cX5_no 2 (some .int), Cond.methodLink RX5 119 yX5_landingAt, Cond.static yX5_landingAt, Cond.code yX5_landingAt cX5_landingAt 2 (some .int), Cond.fieldLink RX5 104 "SedgeBargesModel" "LANDING" "[I", Cond.methodLink RX5 122 yX5_brings, Cond.instanceMethod yX5_brings, Cond.selects RX5 yX5_brings yX5_brings]
def wsX5_sell_r2 : List Cond := [Cond.code yX5_brings cX5_brings 4 (some .int), Cond.methodLink RX5 113 yX5_price, Cond.static yX5_price, Cond.code yX5_price cX5_price 2 (some .int), Cond.fieldLink RX5 107 "SedgeBargesModel" "WORTH" "[I", Cond.methodLink RX5 110 Lib.Math.max.name, Cond.static Lib.Math.max.name, Cond.initialized "java/lang/Math", Cond.code Lib.Math.max.name Lib.Math.max.code 2 (some .int), Cond.methodLink RX5 116 yX5_reedPrice, Cond.static yX5_reedPrice, Cond.code yX5_reedPrice cX5_reedPrice 2 (some .int), Cond.methodLink RX5 101 yX5_aboard, Cond.instanceMethod yX5_aboard, Cond.selects RX5 yX5_aboard yX5_aboard, Cond.code yX5_aboard cX5_aboard 2 (some .int)]
def wsX5_sell : List Cond := .code yX5_sell cX5_sell 5 (some .int) :: ((wsX5_sell_r1 ++ wsX5_sell_r2) ++ wsX50)
def wsX5_bargeTold : List Cond := .code yX5_bargeTold cX5_bargeTold 4 (some .int) :: ([.fieldLink RX5 20 "SedgeBargesModel" "g" "[I", .methodLink RX5 119 yX5_landingAt, .static yX5_landingAt, .initialized RX5, .code yX5_landingAt cX5_landingAt 2 (some .int), .fieldLink RX5 104 "SedgeBargesModel" "LANDING" "[I"] ++ wsX50)
def wsX5_told : List Cond := .code yX5_told cX5_told 3 (some .int) :: ([.fieldLink RX5 38 "SedgeBargesModel" "thrown" "I", .methodLink RX5 91 yX5_isBarge, .instanceMethod yX5_isBarge, .selects RX5 yX5_isBarge yX5_isBarge, .initialized RX5, .code yX5_isBarge cX5_isBarge 2 (some .boolean), .fieldLink RX5 48 "SedgeBargesModel" "barges" "I", .methodLink RX5 44 yX5_isIn, .static yX5_isIn, .code yX5_isIn cX5_isIn 3 (some .boolean), .methodLink RX5 125 yX5_bargeTold, .instanceMethod yX5_bargeTold, .selects RX5 yX5_bargeTold yX5_bargeTold, .code yX5_bargeTold cX5_bargeTold 4 (some .int), .fieldLink RX5 20 "SedgeBargesModel" "g" "[I", .methodLink RX5 119 yX5_landingAt, .static yX5_landingAt, .code yX5_landingAt cX5_landingAt 2 (some .int), .fieldLink RX5 104 "SedgeBargesModel" "LANDING" "[I", .methodLink RX5 58 yX5_no, .instanceMethod yX5_no, .selects RX5 yX5_no yX5_no, .code yX5_no cX5_no 2 (some .int)] ++ wsX50)
def wsX5_landingTold : List Cond := .code yX5_landingTold cX5_landingTold 3 (some .int) :: ([.fieldLink RX5 104 "SedgeBargesModel" "LANDING" "[I", .fieldLink RX5 23 "SedgeBargesModel" "store" "[I", .methodLink RX5 113 yX5_price, .static yX5_price, .initialized RX5, .code yX5_price cX5_price 2 (some .int), .fieldLink RX5 107 "SedgeBargesModel" "WORTH" "[I", .methodLink RX5 110 Lib.Math.max.name, .static Lib.Math.max.name, .initialized "java/lang/Math", .code Lib.Math.max.name Lib.Math.max.code 2 (some .int), .methodLink RX5 116 yX5_reedPrice, .static yX5_reedPrice, .code yX5_reedPrice cX5_reedPrice 2 (some .int)] ++ wsX50)
def wsX5_landing_r1 : List Cond := [Cond.fieldLink RX5 38 "SedgeBargesModel" "thrown" "I", Cond.methodLink RX5 44 yX5_isIn, Cond.static yX5_isIn, Cond.initialized RX5, Cond.code yX5_isIn cX5_isIn 3 (some .boolean), Cond.methodLink RX5 128 yX5_landingTold, Cond.instanceMethod yX5_landingTold, Cond.selects RX5 yX5_landingTold yX5_landingTold, Cond.code yX5_landingTold cX5_landingTold 3 (some .int), Cond.fieldLink RX5 104 "SedgeBargesModel" "LANDING" "[I", Cond.fieldLink RX5 23 "SedgeBargesModel" "store" "[I", Cond.methodLink RX5 113 yX5_price, Cond.static yX5_price, Cond.code yX5_price cX5_price 2 (some .int), Cond.fieldLink RX5 107 "SedgeBargesModel" "WORTH" "[I", Cond.methodLink RX5 110 Lib.Math.max.name, Cond.static Lib.Math.max.name, Cond.initialized "java/lang/Math", Cond.code Lib.Math.max.name Lib.Math.max.code 2 (some .int), Cond.methodLink RX5 116 yX5_reedPrice, Cond.static yX5_reedPrice, Cond.code yX5_reedPrice cX5_reedPrice 2 (some .int), Cond.methodLink RX5 58 yX5_no, Cond.instanceMethod yX5_no]
def wsX5_landing_r2 : List Cond := [Cond.selects RX5 yX5_no yX5_no, Cond.code yX5_no cX5_no 2 (some .int)]
def wsX5_landing : List Cond := .code yX5_landing cX5_landing 3 (some .int) :: ((wsX5_landing_r1 ++ wsX5_landing_r2) ++ wsX50)
def wsX5_left : List Cond := .code yX5_left cX5_left 1 (some .int) :: ([])
def wsX5_wouldBring_r1 : List Cond := [Cond.fieldLink RX5 23 "SedgeBargesModel" "store" "[I", Cond.fieldLink RX5 20 "SedgeBargesModel" "g" "[I", Cond.fieldLink RX5 104 "SedgeBargesModel" "LANDING" "[I", Cond.methodLink RX5 94 yX5_days, Cond.static yX5_days, Cond.initialized RX5, Cond.code yX5_days cX5_days 2 (some .int), Cond.methodLink RX5 88 Lib.Math.abs.name, Cond.static Lib.Math.abs.name, Cond.initialized "java/lang/Math", Cond.code Lib.Math.abs.name Lib.Math.abs.code 1 (some .int), Cond.methodLink RX5 131 yX5_left, Cond.static yX5_left, Cond.code yX5_left cX5_left 1 (some .int), Cond.methodLink RX5 122 yX5_brings, Cond.instanceMethod yX5_brings, Cond.selects RX5 yX5_brings yX5_brings, Cond.code yX5_brings cX5_brings 4 (some .int), Cond.methodLink RX5 113 yX5_price, Cond.static yX5_price, Cond.code yX5_price cX5_price 2 (some .int), Cond.fieldLink RX5 107 "SedgeBargesModel" "WORTH" "[I", Cond.methodLink RX5 110 Lib.Math.max.name, Cond.static Lib.Math.max.name]
def wsX5_wouldBring_r2 : List Cond := [Cond.code Lib.Math.max.name Lib.Math.max.code 2 (some .int), Cond.methodLink RX5 116 yX5_reedPrice, Cond.static yX5_reedPrice, Cond.code yX5_reedPrice cX5_reedPrice 2 (some .int)]
def wsX5_wouldBring : List Cond := .code yX5_wouldBring cX5_wouldBring 5 (some .int) :: ((wsX5_wouldBring_r1 ++ wsX5_wouldBring_r2) ++ wsX50)
def wsX5_would_r1 : List Cond := [Cond.fieldLink RX5 38 "SedgeBargesModel" "thrown" "I", Cond.methodLink RX5 91 yX5_isBarge, Cond.instanceMethod yX5_isBarge, Cond.selects RX5 yX5_isBarge yX5_isBarge, Cond.initialized RX5, Cond.code yX5_isBarge cX5_isBarge 2 (some .boolean), Cond.fieldLink RX5 48 "SedgeBargesModel" "barges" "I", Cond.methodLink RX5 44 yX5_isIn, Cond.static yX5_isIn, Cond.code yX5_isIn cX5_isIn 3 (some .boolean), Cond.methodLink RX5 134 yX5_wouldBring, Cond.instanceMethod yX5_wouldBring, Cond.selects RX5 yX5_wouldBring yX5_wouldBring, Cond.code yX5_wouldBring cX5_wouldBring 5 (some .int), Cond.fieldLink RX5 23 "SedgeBargesModel" "store" "[I", Cond.fieldLink RX5 20 "SedgeBargesModel" "g" "[I", Cond.fieldLink RX5 104 "SedgeBargesModel" "LANDING" "[I", Cond.methodLink RX5 94 yX5_days, Cond.static yX5_days, Cond.code yX5_days cX5_days 2 (some .int), Cond.methodLink RX5 88 Lib.Math.abs.name, Cond.static Lib.Math.abs.name, Cond.initialized "java/lang/Math", Cond.code Lib.Math.abs.name Lib.Math.abs.code 1 (some .int)]
def wsX5_would_r2 : List Cond := [Cond.methodLink RX5 131 yX5_left, Cond.static yX5_left, Cond.code yX5_left cX5_left 1 (some .int), Cond.methodLink RX5 122 yX5_brings, Cond.instanceMethod yX5_brings, Cond.selects RX5 yX5_brings yX5_brings, Cond.code yX5_brings cX5_brings 4 (some .int), Cond.methodLink RX5 113 yX5_price, Cond.static yX5_price, Cond.code yX5_price cX5_price 2 (some .int), Cond.fieldLink RX5 107 "SedgeBargesModel" "WORTH" "[I", Cond.methodLink RX5 110 Lib.Math.max.name, Cond.static Lib.Math.max.name, Cond.code Lib.Math.max.name Lib.Math.max.code 2 (some .int), Cond.methodLink RX5 116 yX5_reedPrice, Cond.static yX5_reedPrice, Cond.code yX5_reedPrice cX5_reedPrice 2 (some .int), Cond.methodLink RX5 58 yX5_no, Cond.instanceMethod yX5_no, Cond.selects RX5 yX5_no yX5_no, Cond.code yX5_no cX5_no 2 (some .int)]
def wsX5_would : List Cond := .code yX5_would cX5_would 3 (some .int) :: ((wsX5_would_r1 ++ wsX5_would_r2) ++ wsX50)
def wsX5_advise_r1 : List Cond := [Cond.fieldLink RX5 38 "SedgeBargesModel" "thrown" "I", Cond.methodLink RX5 91 yX5_isBarge, Cond.instanceMethod yX5_isBarge, Cond.selects RX5 yX5_isBarge yX5_isBarge, Cond.initialized RX5, Cond.code yX5_isBarge cX5_isBarge 2 (some .boolean), Cond.fieldLink RX5 48 "SedgeBargesModel" "barges" "I", Cond.methodLink RX5 44 yX5_isIn, Cond.static yX5_isIn, Cond.code yX5_isIn cX5_isIn 3 (some .boolean), Cond.methodLink RX5 58 yX5_no, Cond.instanceMethod yX5_no, Cond.selects RX5 yX5_no yX5_no, Cond.code yX5_no cX5_no 2 (some .int), Cond.methodLink RX5 134 yX5_wouldBring, Cond.instanceMethod yX5_wouldBring, Cond.selects RX5 yX5_wouldBring yX5_wouldBring, Cond.code yX5_wouldBring cX5_wouldBring 5 (some .int), Cond.fieldLink RX5 23 "SedgeBargesModel" "store" "[I", Cond.fieldLink RX5 20 "SedgeBargesModel" "g" "[I", Cond.fieldLink RX5 104 "SedgeBargesModel" "LANDING" "[I", Cond.methodLink RX5 94 yX5_days, Cond.static yX5_days, Cond.code yX5_days cX5_days 2 (some .int)]
def wsX5_advise_r2 : List Cond := [Cond.methodLink RX5 88 Lib.Math.abs.name, Cond.static Lib.Math.abs.name, Cond.initialized "java/lang/Math", Cond.code Lib.Math.abs.name Lib.Math.abs.code 1 (some .int), Cond.methodLink RX5 131 yX5_left, Cond.static yX5_left, Cond.code yX5_left cX5_left 1 (some .int), Cond.methodLink RX5 122 yX5_brings, Cond.instanceMethod yX5_brings, Cond.selects RX5 yX5_brings yX5_brings, Cond.code yX5_brings cX5_brings 4 (some .int), Cond.methodLink RX5 113 yX5_price, Cond.static yX5_price, Cond.code yX5_price cX5_price 2 (some .int), Cond.fieldLink RX5 107 "SedgeBargesModel" "WORTH" "[I", Cond.methodLink RX5 110 Lib.Math.max.name, Cond.static Lib.Math.max.name, Cond.code Lib.Math.max.name Lib.Math.max.code 2 (some .int), Cond.methodLink RX5 116 yX5_reedPrice, Cond.static yX5_reedPrice, Cond.code yX5_reedPrice cX5_reedPrice 2 (some .int)]
def wsX5_advise : List Cond := .code yX5_advise cX5_advise 4 (some .int) :: ((wsX5_advise_r1 ++ wsX5_advise_r2) ++ wsX50)
def wsX5_sailOn : List Cond := .code yX5_sailOn cX5_sailOn 5 none :: ([.methodLink RX5 73 Lib.Math.min.name, .static Lib.Math.min.name, .initialized "java/lang/Math", .code Lib.Math.min.name Lib.Math.min.code 2 (some .int), .methodLink RX5 110 Lib.Math.max.name, .static Lib.Math.max.name, .code Lib.Math.max.name Lib.Math.max.code 2 (some .int)])
def wsX5_rot : List Cond := .code yX5_rot cX5_rot 3 (some .int) :: ([])
def wsX5_pass_r1 : List Cond := [Cond.fieldLink RX5 48 "SedgeBargesModel" "barges" "I", Cond.fieldLink RX5 41 "SedgeBargesModel" "beds" "I", Cond.methodLink RX5 141 yX5_sailOn, Cond.instanceMethod yX5_sailOn, Cond.selects RX5 yX5_sailOn yX5_sailOn, Cond.initialized RX5, Cond.code yX5_sailOn cX5_sailOn 5 none, Cond.methodLink RX5 73 Lib.Math.min.name, Cond.static Lib.Math.min.name, Cond.initialized "java/lang/Math", Cond.code Lib.Math.min.name Lib.Math.min.code 2 (some .int), Cond.methodLink RX5 110 Lib.Math.max.name, Cond.static Lib.Math.max.name, Cond.code Lib.Math.max.name Lib.Math.max.code 2 (some .int), Cond.methodLink RX5 145 yX5_rot, Cond.static yX5_rot, Cond.code yX5_rot cX5_rot 3 (some .int), Cond.methodLink RX5 131 yX5_left, Cond.static yX5_left, Cond.code yX5_left cX5_left 1 (some .int), Cond.methodLink RX5 84 yX5_endYear, Cond.instanceMethod yX5_endYear, Cond.selects RX5 yX5_endYear yX5_endYear, Cond.code yX5_endYear cX5_endYear 4 none]
def wsX5_pass_r2 : List Cond := [Cond.fieldLink RX5 35 "SedgeBargesModel" "more" "[I", Cond.methodLink RX5 137 yX5_hasReedBeside, Cond.instanceMethod yX5_hasReedBeside, Cond.selects RX5 yX5_hasReedBeside yX5_hasReedBeside, Cond.code yX5_hasReedBeside cX5_hasReedBeside 5 (some .boolean), Cond.methodLink RX5 88 Lib.Math.abs.name, Cond.static Lib.Math.abs.name, Cond.code Lib.Math.abs.name Lib.Math.abs.code 1 (some .int)]
def wsX5_pass : List Cond := .code yX5_pass cX5_pass 7 (some .int) :: ((wsX5_pass_r1 ++ wsX5_pass_r2) ++ wsX50)
def wsX5_pass__r1 : List Cond := [Cond.fieldLink RX5 38 "SedgeBargesModel" "thrown" "I", Cond.fieldLink RX5 16 "SedgeBargesModel" "b" "[I", Cond.fieldLink RX5 20 "SedgeBargesModel" "g" "[I", Cond.fieldLink RX5 23 "SedgeBargesModel" "store" "[I", Cond.fieldLink RX5 148 "SedgeBargesModel" "day" "I", Cond.fieldLink RX5 155 "SedgeBargesModel" "rotted" "I", Cond.methodLink RX5 44 yX5_isIn, Cond.static yX5_isIn, Cond.initialized RX5, Cond.code yX5_isIn cX5_isIn 3 (some .boolean), Cond.methodLink RX5 58 yX5_no, Cond.instanceMethod yX5_no, Cond.selects RX5 yX5_no yX5_no, Cond.code yX5_no cX5_no 2 (some .int), Cond.methodLink RX5 151 yX5_pass, Cond.instanceMethod yX5_pass, Cond.selects RX5 yX5_pass yX5_pass, Cond.code yX5_pass cX5_pass 7 (some .int), Cond.fieldLink RX5 48 "SedgeBargesModel" "barges" "I", Cond.fieldLink RX5 41 "SedgeBargesModel" "beds" "I", Cond.methodLink RX5 141 yX5_sailOn, Cond.instanceMethod yX5_sailOn, Cond.selects RX5 yX5_sailOn yX5_sailOn, Cond.code yX5_sailOn cX5_sailOn 5 none]
def wsX5_pass__r2 : List Cond := [Cond.methodLink RX5 73 Lib.Math.min.name, Cond.static Lib.Math.min.name, Cond.initialized "java/lang/Math", Cond.code Lib.Math.min.name Lib.Math.min.code 2 (some .int), Cond.methodLink RX5 110 Lib.Math.max.name, Cond.static Lib.Math.max.name, Cond.code Lib.Math.max.name Lib.Math.max.code 2 (some .int), Cond.methodLink RX5 145 yX5_rot, Cond.static yX5_rot, Cond.code yX5_rot cX5_rot 3 (some .int), Cond.methodLink RX5 131 yX5_left, Cond.static yX5_left, Cond.code yX5_left cX5_left 1 (some .int), Cond.methodLink RX5 84 yX5_endYear, Cond.instanceMethod yX5_endYear, Cond.selects RX5 yX5_endYear yX5_endYear, Cond.code yX5_endYear cX5_endYear 4 none, Cond.fieldLink RX5 35 "SedgeBargesModel" "more" "[I", Cond.methodLink RX5 137 yX5_hasReedBeside, Cond.instanceMethod yX5_hasReedBeside, Cond.selects RX5 yX5_hasReedBeside yX5_hasReedBeside, Cond.code yX5_hasReedBeside cX5_hasReedBeside 5 (some .boolean), Cond.methodLink RX5 88 Lib.Math.abs.name, Cond.static Lib.Math.abs.name]
def wsX5_pass__r3 : List Cond := [Cond.code Lib.Math.abs.name Lib.Math.abs.code 1 (some .int)]
def wsX5_pass_ : List Cond := .code yX5_pass_ cX5_pass_ 4 (some .int) :: ((wsX5_pass__r1 ++ (wsX5_pass__r2 ++ wsX5_pass__r3)) ++ wsX50)
def wsX5_sum : List Cond := .code yX5_sum cX5_sum 5 (some .int) :: ([.fieldLink RX5 41 "SedgeBargesModel" "beds" "I"] ++ wsX50)
def wsX5_giveAll : List Cond := .code yX5_giveAll cX5_giveAll 4 (some .int) :: ([.fieldLink RX5 41 "SedgeBargesModel" "beds" "I", .methodLink RX5 54 yX5_gives, .static yX5_gives, .initialized RX5, .code yX5_gives cX5_gives 2 (some .int), .fieldLink RX5 51 "SedgeBargesModel" "GROWTH" "[I"] ++ wsX50)
def wsX5_aboardAll : List Cond := .code yX5_aboardAll cX5_aboardAll 3 (some .int) :: ([.fieldLink RX5 48 "SedgeBargesModel" "barges" "I", .methodLink RX5 101 yX5_aboard, .instanceMethod yX5_aboard, .selects RX5 yX5_aboard yX5_aboard, .initialized RX5, .code yX5_aboard cX5_aboard 2 (some .int), .fieldLink RX5 20 "SedgeBargesModel" "g" "[I"] ++ wsX50)
def wsX5_summed : List Cond := .code yX5_summed cX5_summed 5 (some .int) :: ([.methodLink RX5 164 yX5_giveAll, .instanceMethod yX5_giveAll, .selects RX5 yX5_giveAll yX5_giveAll, .initialized RX5, .code yX5_giveAll cX5_giveAll 4 (some .int), .fieldLink RX5 41 "SedgeBargesModel" "beds" "I", .methodLink RX5 54 yX5_gives, .static yX5_gives, .code yX5_gives cX5_gives 2 (some .int), .fieldLink RX5 51 "SedgeBargesModel" "GROWTH" "[I", .methodLink RX5 168 yX5_sum, .instanceMethod yX5_sum, .selects RX5 yX5_sum yX5_sum, .code yX5_sum cX5_sum 5 (some .int)] ++ wsX50)
def wsX5_counted_r1 : List Cond := [Cond.fieldLink RX5 148 "SedgeBargesModel" "day" "I", Cond.fieldLink RX5 7 "SedgeBargesModel" "coins" "I", Cond.fieldLink RX5 13 "SedgeBargesModel" "ties" "I", Cond.fieldLink RX5 41 "SedgeBargesModel" "beds" "I", Cond.fieldLink RX5 16 "SedgeBargesModel" "b" "[I", Cond.fieldLink RX5 48 "SedgeBargesModel" "barges" "I", Cond.fieldLink RX5 23 "SedgeBargesModel" "store" "[I", Cond.fieldLink RX5 155 "SedgeBargesModel" "rotted" "I", Cond.methodLink RX5 168 yX5_sum, Cond.instanceMethod yX5_sum, Cond.selects RX5 yX5_sum yX5_sum, Cond.initialized RX5, Cond.code yX5_sum cX5_sum 5 (some .int), Cond.methodLink RX5 171 yX5_aboardAll, Cond.instanceMethod yX5_aboardAll, Cond.selects RX5 yX5_aboardAll yX5_aboardAll, Cond.code yX5_aboardAll cX5_aboardAll 3 (some .int), Cond.methodLink RX5 101 yX5_aboard, Cond.instanceMethod yX5_aboard, Cond.selects RX5 yX5_aboard yX5_aboard, Cond.code yX5_aboard cX5_aboard 2 (some .int), Cond.fieldLink RX5 20 "SedgeBargesModel" "g" "[I", Cond.methodLink RX5 175 yX5_summed, Cond.instanceMethod yX5_summed]
def wsX5_counted_r2 : List Cond := [Cond.selects RX5 yX5_summed yX5_summed, Cond.code yX5_summed cX5_summed 5 (some .int), Cond.methodLink RX5 164 yX5_giveAll, Cond.instanceMethod yX5_giveAll, Cond.selects RX5 yX5_giveAll yX5_giveAll, Cond.code yX5_giveAll cX5_giveAll 4 (some .int), Cond.methodLink RX5 54 yX5_gives, Cond.static yX5_gives, Cond.code yX5_gives cX5_gives 2 (some .int), Cond.fieldLink RX5 51 "SedgeBargesModel" "GROWTH" "[I"]
def wsX5_counted : List Cond := .code yX5_counted cX5_counted 2 (some .int) :: ((wsX5_counted_r1 ++ wsX5_counted_r2) ++ wsX50)
def wsX5_count_r1 : List Cond := [Cond.fieldLink RX5 38 "SedgeBargesModel" "thrown" "I", Cond.methodLink RX5 44 yX5_isIn, Cond.static yX5_isIn, Cond.initialized RX5, Cond.code yX5_isIn cX5_isIn 3 (some .boolean), Cond.methodLink RX5 179 yX5_counted, Cond.instanceMethod yX5_counted, Cond.selects RX5 yX5_counted yX5_counted, Cond.code yX5_counted cX5_counted 2 (some .int), Cond.fieldLink RX5 148 "SedgeBargesModel" "day" "I", Cond.fieldLink RX5 7 "SedgeBargesModel" "coins" "I", Cond.fieldLink RX5 13 "SedgeBargesModel" "ties" "I", Cond.fieldLink RX5 41 "SedgeBargesModel" "beds" "I", Cond.fieldLink RX5 16 "SedgeBargesModel" "b" "[I", Cond.fieldLink RX5 48 "SedgeBargesModel" "barges" "I", Cond.fieldLink RX5 23 "SedgeBargesModel" "store" "[I", Cond.fieldLink RX5 155 "SedgeBargesModel" "rotted" "I", Cond.methodLink RX5 168 yX5_sum, Cond.instanceMethod yX5_sum, Cond.selects RX5 yX5_sum yX5_sum, Cond.code yX5_sum cX5_sum 5 (some .int), Cond.methodLink RX5 171 yX5_aboardAll, Cond.instanceMethod yX5_aboardAll, Cond.selects RX5 yX5_aboardAll yX5_aboardAll]
def wsX5_count_r2 : List Cond := [Cond.code yX5_aboardAll cX5_aboardAll 3 (some .int), Cond.methodLink RX5 101 yX5_aboard, Cond.instanceMethod yX5_aboard, Cond.selects RX5 yX5_aboard yX5_aboard, Cond.code yX5_aboard cX5_aboard 2 (some .int), Cond.fieldLink RX5 20 "SedgeBargesModel" "g" "[I", Cond.methodLink RX5 175 yX5_summed, Cond.instanceMethod yX5_summed, Cond.selects RX5 yX5_summed yX5_summed, Cond.code yX5_summed cX5_summed 5 (some .int), Cond.methodLink RX5 164 yX5_giveAll, Cond.instanceMethod yX5_giveAll, Cond.selects RX5 yX5_giveAll yX5_giveAll, Cond.code yX5_giveAll cX5_giveAll 4 (some .int), Cond.methodLink RX5 54 yX5_gives, Cond.static yX5_gives, Cond.code yX5_gives cX5_gives 2 (some .int), Cond.fieldLink RX5 51 "SedgeBargesModel" "GROWTH" "[I", Cond.methodLink RX5 58 yX5_no, Cond.instanceMethod yX5_no, Cond.selects RX5 yX5_no yX5_no, Cond.code yX5_no cX5_no 2 (some .int)]
def wsX5_count : List Cond := .code yX5_count cX5_count 2 (some .int) :: ((wsX5_count_r1 ++ wsX5_count_r2) ++ wsX50)
def wsX5_foresee_r1 : List Cond := [Cond.fieldLink RX5 38 "SedgeBargesModel" "thrown" "I", Cond.fieldLink RX5 155 "SedgeBargesModel" "rotted" "I", Cond.fieldLink RX5 26 "SedgeBargesModel" "bAhead" "[I", Cond.fieldLink RX5 29 "SedgeBargesModel" "gAhead" "[I", Cond.fieldLink RX5 32 "SedgeBargesModel" "storeAhead" "[I", Cond.fieldLink RX5 148 "SedgeBargesModel" "day" "I", Cond.methodLink RX5 44 yX5_isIn, Cond.static yX5_isIn, Cond.initialized RX5, Cond.code yX5_isIn cX5_isIn 3 (some .boolean), Cond.methodLink RX5 58 yX5_no, Cond.instanceMethod yX5_no, Cond.selects RX5 yX5_no yX5_no, Cond.code yX5_no cX5_no 2 (some .int), Cond.methodLink RX5 81 yX5_lookAhead, Cond.instanceMethod yX5_lookAhead, Cond.selects RX5 yX5_lookAhead yX5_lookAhead, Cond.code yX5_lookAhead cX5_lookAhead 1 none, Cond.fieldLink RX5 16 "SedgeBargesModel" "b" "[I", Cond.methodLink RX5 158 arraycopyName, Cond.native arraycopyName, Cond.static arraycopyName, Cond.initialized "java/lang/System", Cond.fieldLink RX5 20 "SedgeBargesModel" "g" "[I"]
def wsX5_foresee_r2 : List Cond := [Cond.fieldLink RX5 23 "SedgeBargesModel" "store" "[I", Cond.methodLink RX5 151 yX5_pass, Cond.instanceMethod yX5_pass, Cond.selects RX5 yX5_pass yX5_pass, Cond.code yX5_pass cX5_pass 7 (some .int), Cond.fieldLink RX5 48 "SedgeBargesModel" "barges" "I", Cond.fieldLink RX5 41 "SedgeBargesModel" "beds" "I", Cond.methodLink RX5 141 yX5_sailOn, Cond.instanceMethod yX5_sailOn, Cond.selects RX5 yX5_sailOn yX5_sailOn, Cond.code yX5_sailOn cX5_sailOn 5 none, Cond.methodLink RX5 73 Lib.Math.min.name, Cond.static Lib.Math.min.name, Cond.initialized "java/lang/Math", Cond.code Lib.Math.min.name Lib.Math.min.code 2 (some .int), Cond.methodLink RX5 110 Lib.Math.max.name, Cond.static Lib.Math.max.name, Cond.code Lib.Math.max.name Lib.Math.max.code 2 (some .int), Cond.methodLink RX5 145 yX5_rot, Cond.static yX5_rot, Cond.code yX5_rot cX5_rot 3 (some .int), Cond.methodLink RX5 131 yX5_left, Cond.static yX5_left, Cond.code yX5_left cX5_left 1 (some .int)]
def wsX5_foresee_r3 : List Cond := [Cond.methodLink RX5 84 yX5_endYear, Cond.instanceMethod yX5_endYear, Cond.selects RX5 yX5_endYear yX5_endYear, Cond.code yX5_endYear cX5_endYear 4 none, Cond.fieldLink RX5 35 "SedgeBargesModel" "more" "[I", Cond.methodLink RX5 137 yX5_hasReedBeside, Cond.instanceMethod yX5_hasReedBeside, Cond.selects RX5 yX5_hasReedBeside yX5_hasReedBeside, Cond.code yX5_hasReedBeside cX5_hasReedBeside 5 (some .boolean), Cond.methodLink RX5 88 Lib.Math.abs.name, Cond.static Lib.Math.abs.name, Cond.code Lib.Math.abs.name Lib.Math.abs.code 1 (some .int), Cond.methodLink RX5 175 yX5_summed, Cond.instanceMethod yX5_summed, Cond.selects RX5 yX5_summed yX5_summed, Cond.code yX5_summed cX5_summed 5 (some .int), Cond.methodLink RX5 164 yX5_giveAll, Cond.instanceMethod yX5_giveAll, Cond.selects RX5 yX5_giveAll yX5_giveAll, Cond.code yX5_giveAll cX5_giveAll 4 (some .int), Cond.methodLink RX5 54 yX5_gives, Cond.static yX5_gives, Cond.code yX5_gives cX5_gives 2 (some .int), Cond.fieldLink RX5 51 "SedgeBargesModel" "GROWTH" "[I"]
def wsX5_foresee_r4 : List Cond := [Cond.methodLink RX5 168 yX5_sum, Cond.instanceMethod yX5_sum, Cond.selects RX5 yX5_sum yX5_sum, Cond.code yX5_sum cX5_sum 5 (some .int)]
def wsX5_foresee : List Cond := .code yX5_foresee cX5_foresee 5 (some .int) :: ((wsX5_foresee_r1 ++ (wsX5_foresee_r2 ++ (wsX5_foresee_r3 ++ wsX5_foresee_r4))) ++ wsX50)
def wsX5_mean : List Cond := .code yX5_mean cX5_mean 1 (some .double) :: ([.fieldLink RX5 38 "SedgeBargesModel" "thrown" "I", .fieldLink RX5 41 "SedgeBargesModel" "beds" "I", .fieldLink RX5 16 "SedgeBargesModel" "b" "[I", .methodLink RX5 168 yX5_sum, .instanceMethod yX5_sum, .selects RX5 yX5_sum yX5_sum, .initialized RX5, .code yX5_sum cX5_sum 5 (some .int)] ++ wsX50)
def wsX5_digest_r1 : List Cond := [Cond.fieldLink RX5 38 "SedgeBargesModel" "thrown" "I", Cond.constantLong RX5 182 (1277), Cond.constantLong RX5 184 (31), Cond.fieldLink RX5 41 "SedgeBargesModel" "beds" "I", Cond.fieldLink RX5 48 "SedgeBargesModel" "barges" "I", Cond.methodLink RX5 179 yX5_counted, Cond.instanceMethod yX5_counted, Cond.selects RX5 yX5_counted yX5_counted, Cond.initialized RX5, Cond.code yX5_counted cX5_counted 2 (some .int), Cond.fieldLink RX5 148 "SedgeBargesModel" "day" "I", Cond.fieldLink RX5 7 "SedgeBargesModel" "coins" "I", Cond.fieldLink RX5 13 "SedgeBargesModel" "ties" "I", Cond.fieldLink RX5 16 "SedgeBargesModel" "b" "[I", Cond.fieldLink RX5 23 "SedgeBargesModel" "store" "[I", Cond.fieldLink RX5 155 "SedgeBargesModel" "rotted" "I", Cond.methodLink RX5 168 yX5_sum, Cond.instanceMethod yX5_sum, Cond.selects RX5 yX5_sum yX5_sum, Cond.code yX5_sum cX5_sum 5 (some .int), Cond.methodLink RX5 171 yX5_aboardAll, Cond.instanceMethod yX5_aboardAll, Cond.selects RX5 yX5_aboardAll yX5_aboardAll, Cond.code yX5_aboardAll cX5_aboardAll 3 (some .int)]
def wsX5_digest_r2 : List Cond := [Cond.methodLink RX5 101 yX5_aboard, Cond.instanceMethod yX5_aboard, Cond.selects RX5 yX5_aboard yX5_aboard, Cond.code yX5_aboard cX5_aboard 2 (some .int), Cond.fieldLink RX5 20 "SedgeBargesModel" "g" "[I", Cond.methodLink RX5 175 yX5_summed, Cond.instanceMethod yX5_summed, Cond.selects RX5 yX5_summed yX5_summed, Cond.code yX5_summed cX5_summed 5 (some .int), Cond.methodLink RX5 164 yX5_giveAll, Cond.instanceMethod yX5_giveAll, Cond.selects RX5 yX5_giveAll yX5_giveAll, Cond.code yX5_giveAll cX5_giveAll 4 (some .int), Cond.methodLink RX5 54 yX5_gives, Cond.static yX5_gives, Cond.code yX5_gives cX5_gives 2 (some .int), Cond.fieldLink RX5 51 "SedgeBargesModel" "GROWTH" "[I", Cond.methodLink RX5 78 yX5_bedTold, Cond.instanceMethod yX5_bedTold, Cond.selects RX5 yX5_bedTold yX5_bedTold, Cond.code yX5_bedTold cX5_bedTold 4 (some .int), Cond.methodLink RX5 66 yX5_givesSedge, Cond.static yX5_givesSedge, Cond.code yX5_givesSedge cX5_givesSedge 2 (some .int)]
def wsX5_digest_r3 : List Cond := [Cond.methodLink RX5 125 yX5_bargeTold, Cond.instanceMethod yX5_bargeTold, Cond.selects RX5 yX5_bargeTold yX5_bargeTold, Cond.code yX5_bargeTold cX5_bargeTold 4 (some .int), Cond.methodLink RX5 119 yX5_landingAt, Cond.static yX5_landingAt, Cond.code yX5_landingAt cX5_landingAt 2 (some .int), Cond.fieldLink RX5 104 "SedgeBargesModel" "LANDING" "[I", Cond.methodLink RX5 128 yX5_landingTold, Cond.instanceMethod yX5_landingTold, Cond.selects RX5 yX5_landingTold yX5_landingTold, Cond.code yX5_landingTold cX5_landingTold 3 (some .int), Cond.methodLink RX5 113 yX5_price, Cond.static yX5_price, Cond.code yX5_price cX5_price 2 (some .int), Cond.fieldLink RX5 107 "SedgeBargesModel" "WORTH" "[I", Cond.methodLink RX5 110 Lib.Math.max.name, Cond.static Lib.Math.max.name, Cond.initialized "java/lang/Math", Cond.code Lib.Math.max.name Lib.Math.max.code 2 (some .int), Cond.methodLink RX5 116 yX5_reedPrice, Cond.static yX5_reedPrice, Cond.code yX5_reedPrice cX5_reedPrice 2 (some .int)]
def wsX5_digest : List Cond := .code yX5_digest cX5_digest 4 (some .long) :: ((wsX5_digest_r1 ++ (wsX5_digest_r2 ++ wsX5_digest_r3)) ++ wsX50)
def wsJ9_abs_0f7a4 : List Cond := .code yJ9_abs_0f7a4 cJ9_abs_0f7a4 1 (some .int) :: ([])
def wsJ9_max_7cf53 : List Cond := .code yJ9_max_7cf53 cJ9_max_7cf53 2 (some .int) :: ([])
def wsJ9_min_7cf53 : List Cond := .code yJ9_min_7cf53 cJ9_min_7cf53 2 (some .int) :: ([])
def wsL_bed_r1 : List Cond := [Cond.classLink RL 13 "java/lang/IndexOutOfBoundsException", Cond.classLink RL 15 "java/lang/IllegalArgumentException", Cond.classLink RL 17 "java/lang/IllegalStateException", Cond.methodLink RL 7 yX4_bed, Cond.instanceMethod yX4_bed, Cond.selects RX4 yX4_bed yX4_bed, Cond.initialized RX4, Cond.code yX4_bed cX4_bed 4 (some .int), Cond.classLink RX4 23 "java/lang/IllegalArgumentException", Cond.initialized "java/lang/IllegalArgumentException", Cond.classLink RX4 42 "java/lang/IllegalStateException", Cond.initialized "java/lang/IllegalStateException", Cond.fieldLink RX4 10 "SedgeBarges" "now" "LSedgeBarges$Waterway;", Cond.methodLink RX4 19 yX4_needPlace, Cond.static yX4_needPlace, Cond.code yX4_needPlace cX4_needPlace 1 none, Cond.classLink RX4 161 "java/lang/IndexOutOfBoundsException", Cond.initialized "java/lang/IndexOutOfBoundsException", Cond.methodLink RX4 36 yX1_areFull, Cond.instanceMethod yX1_areFull, Cond.selects RX1 yX1_areFull yX1_areFull, Cond.initialized RX1, Cond.code yX1_areFull cX1_areFull 1 (some .boolean), Cond.fieldLink RX1 39 "SedgeBarges$Beds" "number" "I"]
def wsL_bed_r2 : List Cond := [Cond.methodLink RX4 47 yX1_add, Cond.instanceMethod yX1_add, Cond.selects RX1 yX1_add yX1_add, Cond.code yX1_add cX1_add 5 (some .int), Cond.fieldLink RX1 9 "SedgeBarges$Beds" "place" "[I", Cond.fieldLink RX1 15 "SedgeBarges$Beds" "size" "[I", Cond.fieldLink RX1 18 "SedgeBarges$Beds" "age" "[I", Cond.fieldLink RX1 21 "SedgeBarges$Beds" "sedge" "[I"]
def wsL_bed : List Cond := .codeWith yL_bed cL_bed 6 (some .int) [(0, 12, 15, 13), (0, 12, 19, 15), (0, 12, 23, 17)] :: ((wsL_bed_r1 ++ wsL_bed_r2) ++ wsX40 ++ wsX30 ++ wsX10 ++ (vx_atS RX4 27 "java/lang/IllegalArgumentException" ["java/lang/RuntimeException", "java/lang/Exception"]).filter goodWord ++ (vx_atS RX4 46 "java/lang/IllegalStateException" ["java/lang/RuntimeException", "java/lang/Exception"]).filter goodWord ++ (vx_atS RX4 165 "java/lang/IndexOutOfBoundsException" ["java/lang/RuntimeException", "java/lang/Exception"]).filter goodWord)
def wsL_cut_r1 : List Cond := [Cond.classLink RL 13 "java/lang/IndexOutOfBoundsException", Cond.classLink RL 17 "java/lang/IllegalStateException", Cond.methodLink RL 19 yX4_cut, Cond.instanceMethod yX4_cut, Cond.selects RX4 yX4_cut yX4_cut, Cond.initialized RX4, Cond.code yX4_cut cX4_cut 2 (some .int), Cond.classLink RX4 42 "java/lang/IllegalStateException", Cond.initialized "java/lang/IllegalStateException", Cond.fieldLink RX4 10 "SedgeBarges" "now" "LSedgeBarges$Waterway;", Cond.methodLink RX4 51 yX4_needBed, Cond.instanceMethod yX4_needBed, Cond.selects RX4 yX4_needBed yX4_needBed, Cond.code yX4_needBed cX4_needBed 2 none, Cond.classLink RX4 161 "java/lang/IndexOutOfBoundsException", Cond.initialized "java/lang/IndexOutOfBoundsException", Cond.methodLink RX4 60 yX1_cutDown, Cond.instanceMethod yX1_cutDown, Cond.selects RX1 yX1_cutDown yX1_cutDown, Cond.initialized RX1, Cond.code yX1_cutDown cX1_cutDown 4 (some .int), Cond.fieldLink RX1 24 "SedgeBarges$Beds" "untiedSedge" "[I", Cond.fieldLink RX1 27 "SedgeBarges$Beds" "untiedReed" "[I", Cond.fieldLink RX1 18 "SedgeBarges$Beds" "age" "[I"]
def wsL_cut_r2 : List Cond := [Cond.methodLink RX1 46 yX1_given, Cond.instanceMethod yX1_given, Cond.selects RX1 yX1_given yX1_given, Cond.code yX1_given cX1_given 4 (some .int), Cond.fieldLink RX1 15 "SedgeBarges$Beds" "size" "[I", Cond.methodLink RX1 50 yX1_sedgeGiven, Cond.instanceMethod yX1_sedgeGiven, Cond.selects RX1 yX1_sedgeGiven yX1_sedgeGiven, Cond.code yX1_sedgeGiven cX1_sedgeGiven 2 (some .int), Cond.fieldLink RX1 21 "SedgeBarges$Beds" "sedge" "[I"]
def wsL_cut : List Cond := .codeWith yL_cut cL_cut 4 (some .int) [(0, 9, 12, 13), (0, 9, 15, 17)] :: ((wsL_cut_r1 ++ wsL_cut_r2) ++ wsX40 ++ wsX30 ++ wsX10 ++ (vx_atS RX4 46 "java/lang/IllegalStateException" ["java/lang/RuntimeException", "java/lang/Exception"]).filter goodWord ++ (vx_atS RX4 165 "java/lang/IndexOutOfBoundsException" ["java/lang/RuntimeException", "java/lang/Exception"]).filter goodWord)
def wsL_tie_r1 : List Cond := [Cond.classLink RL 13 "java/lang/IndexOutOfBoundsException", Cond.methodLink RL 23 yX4_tie, Cond.instanceMethod yX4_tie, Cond.selects RX4 yX4_tie yX4_tie, Cond.initialized RX4, Cond.code yX4_tie cX4_tie 3 (some .int), Cond.fieldLink RX4 10 "SedgeBarges" "now" "LSedgeBarges$Waterway;", Cond.methodLink RX4 51 yX4_needBed, Cond.instanceMethod yX4_needBed, Cond.selects RX4 yX4_needBed yX4_needBed, Cond.code yX4_needBed cX4_needBed 2 none, Cond.classLink RX4 161 "java/lang/IndexOutOfBoundsException", Cond.initialized "java/lang/IndexOutOfBoundsException", Cond.methodLink RX4 68 yX1_tieUp, Cond.instanceMethod yX1_tieUp, Cond.selects RX1 yX1_tieUp yX1_tieUp, Cond.initialized RX1, Cond.code yX1_tieUp cX1_tieUp 5 (some .int), Cond.fieldLink RX1 24 "SedgeBarges$Beds" "untiedSedge" "[I", Cond.methodLink RX1 53 Lib.Math.min.name, Cond.static Lib.Math.min.name, Cond.initialized "java/lang/Math", Cond.code Lib.Math.min.name Lib.Math.min.code 2 (some .int), Cond.fieldLink RX1 27 "SedgeBarges$Beds" "untiedReed" "[I"]
def wsL_tie_r2 : List Cond := [Cond.fieldLink RX1 30 "SedgeBarges$Beds" "tiedSedge" "[I", Cond.fieldLink RX1 33 "SedgeBarges$Beds" "tiedReed" "[I"]
def wsL_tie : List Cond := .codeWith yL_tie cL_tie 4 (some .int) [(0, 9, 12, 13)] :: ((wsL_tie_r1 ++ wsL_tie_r2) ++ wsX40 ++ wsX30 ++ wsX10 ++ (vx_atS RX4 165 "java/lang/IndexOutOfBoundsException" ["java/lang/RuntimeException", "java/lang/Exception"]).filter goodWord)
def wsL_buy : List Cond := .codeWith yL_buy cL_buy 4 (some .int) [(0, 9, 12, 15), (0, 9, 15, 17)] :: ([.classLink RL 15 "java/lang/IllegalArgumentException", .classLink RL 17 "java/lang/IllegalStateException", .methodLink RL 26 yX4_buy, .instanceMethod yX4_buy, .selects RX4 yX4_buy yX4_buy, .initialized RX4, .code yX4_buy cX4_buy 3 (some .int), .classLink RX4 23 "java/lang/IllegalArgumentException", .initialized "java/lang/IllegalArgumentException", .classLink RX4 42 "java/lang/IllegalStateException", .initialized "java/lang/IllegalStateException", .fieldLink RX4 10 "SedgeBarges" "now" "LSedgeBarges$Waterway;", .methodLink RX4 74 yX4_tenthRoundedUp, .static yX4_tenthRoundedUp, .code yX4_tenthRoundedUp cX4_tenthRoundedUp 1 (some .int)] ++ wsX40 ++ wsX30 ++ (vx_atS RX4 27 "java/lang/IllegalArgumentException" ["java/lang/RuntimeException", "java/lang/Exception"]).filter goodWord ++ (vx_atS RX4 46 "java/lang/IllegalStateException" ["java/lang/RuntimeException", "java/lang/Exception"]).filter goodWord)
def wsL_about_r1 : List Cond := [Cond.classLink RL 13 "java/lang/IndexOutOfBoundsException", Cond.methodLink RL 29 yX4_about, Cond.instanceMethod yX4_about, Cond.selects RX4 yX4_about yX4_about, Cond.initialized RX4, Cond.code yX4_about cX4_about 3 (some .int), Cond.fieldLink RX4 10 "SedgeBarges" "now" "LSedgeBarges$Waterway;", Cond.methodLink RX4 51 yX4_needBed, Cond.instanceMethod yX4_needBed, Cond.selects RX4 yX4_needBed yX4_needBed, Cond.code yX4_needBed cX4_needBed 2 none, Cond.classLink RX4 161 "java/lang/IndexOutOfBoundsException", Cond.initialized "java/lang/IndexOutOfBoundsException", Cond.methodLink RX4 82 yX4_needFigure, Cond.static yX4_needFigure, Cond.code yX4_needFigure cX4_needFigure 2 none, Cond.methodLink RX4 86 yX1_tell, Cond.instanceMethod yX1_tell, Cond.selects RX1 yX1_tell yX1_tell, Cond.initialized RX1, Cond.code yX1_tell cX1_tell 3 (some .int), Cond.fieldLink RX1 9 "SedgeBarges$Beds" "place" "[I", Cond.fieldLink RX1 15 "SedgeBarges$Beds" "size" "[I", Cond.fieldLink RX1 18 "SedgeBarges$Beds" "age" "[I"]
def wsL_about_r2 : List Cond := [Cond.fieldLink RX1 21 "SedgeBarges$Beds" "sedge" "[I", Cond.fieldLink RX1 24 "SedgeBarges$Beds" "untiedSedge" "[I", Cond.fieldLink RX1 27 "SedgeBarges$Beds" "untiedReed" "[I", Cond.fieldLink RX1 30 "SedgeBarges$Beds" "tiedSedge" "[I", Cond.fieldLink RX1 33 "SedgeBarges$Beds" "tiedReed" "[I", Cond.methodLink RX1 46 yX1_given, Cond.instanceMethod yX1_given, Cond.selects RX1 yX1_given yX1_given, Cond.code yX1_given cX1_given 4 (some .int), Cond.methodLink RX1 50 yX1_sedgeGiven, Cond.instanceMethod yX1_sedgeGiven, Cond.selects RX1 yX1_sedgeGiven yX1_sedgeGiven, Cond.code yX1_sedgeGiven cX1_sedgeGiven 2 (some .int)]
def wsL_about : List Cond := .codeWith yL_about cL_about 5 (some .int) [(0, 10, 13, 13)] :: ((wsL_about_r1 ++ wsL_about_r2) ++ wsX40 ++ wsX30 ++ wsX10 ++ (vx_atS RX4 165 "java/lang/IndexOutOfBoundsException" ["java/lang/RuntimeException", "java/lang/Exception"]).filter goodWord)
def wsL_best_r1 : List Cond := [Cond.classLink RL 13 "java/lang/IndexOutOfBoundsException", Cond.methodLink RL 33 yX4_best, Cond.instanceMethod yX4_best, Cond.selects RX4 yX4_best yX4_best, Cond.initialized RX4, Cond.code yX4_best cX4_best 6 (some .int), Cond.fieldLink RX4 16 "SedgeBarges" "ahead" "LSedgeBarges$Waterway;", Cond.fieldLink RX4 10 "SedgeBarges" "now" "LSedgeBarges$Waterway;", Cond.methodLink RX4 51 yX4_needBed, Cond.instanceMethod yX4_needBed, Cond.selects RX4 yX4_needBed yX4_needBed, Cond.code yX4_needBed cX4_needBed 2 none, Cond.classLink RX4 161 "java/lang/IndexOutOfBoundsException", Cond.initialized "java/lang/IndexOutOfBoundsException", Cond.methodLink RX4 89 yX1_copyFrom, Cond.instanceMethod yX1_copyFrom, Cond.selects RX1 yX1_copyFrom yX1_copyFrom, Cond.initialized RX1, Cond.code yX1_copyFrom cX1_copyFrom 3 none, Cond.fieldLink RX1 39 "SedgeBarges$Beds" "number" "I", Cond.fieldLink RX1 9 "SedgeBarges$Beds" "place" "[I", Cond.fieldLink RX1 15 "SedgeBarges$Beds" "size" "[I", Cond.fieldLink RX1 18 "SedgeBarges$Beds" "age" "[I", Cond.fieldLink RX1 21 "SedgeBarges$Beds" "sedge" "[I"]
def wsL_best_r2 : List Cond := [Cond.fieldLink RX1 24 "SedgeBarges$Beds" "untiedSedge" "[I", Cond.fieldLink RX1 27 "SedgeBarges$Beds" "untiedReed" "[I", Cond.fieldLink RX1 30 "SedgeBarges$Beds" "tiedSedge" "[I", Cond.fieldLink RX1 33 "SedgeBarges$Beds" "tiedReed" "[I", Cond.methodLink RX4 93 yX1_sedgeGiven, Cond.instanceMethod yX1_sedgeGiven, Cond.selects RX1 yX1_sedgeGiven yX1_sedgeGiven, Cond.code yX1_sedgeGiven cX1_sedgeGiven 2 (some .int), Cond.methodLink RX1 46 yX1_given, Cond.instanceMethod yX1_given, Cond.selects RX1 yX1_given yX1_given, Cond.code yX1_given cX1_given 4 (some .int), Cond.methodLink RX4 96 yX1_endYear, Cond.instanceMethod yX1_endYear, Cond.selects RX1 yX1_endYear yX1_endYear, Cond.code yX1_endYear cX1_endYear 2 none, Cond.fieldLink RX1 36 "SedgeBarges$Beds" "change" "[I", Cond.methodLink RX1 53 Lib.Math.min.name, Cond.static Lib.Math.min.name, Cond.initialized "java/lang/Math", Cond.code Lib.Math.min.name Lib.Math.min.code 2 (some .int), Cond.methodLink RX1 69 Lib.Math.max.name, Cond.static Lib.Math.max.name, Cond.code Lib.Math.max.name Lib.Math.max.code 2 (some .int)]
def wsL_best_r3 : List Cond := [Cond.methodLink RX1 62 yX1_changeByAge, Cond.static yX1_changeByAge, Cond.code yX1_changeByAge cX1_changeByAge 1 (some .int), Cond.methodLink RX1 65 yX1_isCreptInto, Cond.instanceMethod yX1_isCreptInto, Cond.selects RX1 yX1_isCreptInto yX1_isCreptInto, Cond.code yX1_isCreptInto cX1_isCreptInto 3 (some .boolean), Cond.methodLink RX1 72 Lib.Math.abs.name, Cond.static Lib.Math.abs.name, Cond.code Lib.Math.abs.name Lib.Math.abs.code 1 (some .int)]
def wsL_best : List Cond := .codeWith yL_best cL_best 4 (some .int) [(0, 9, 12, 13)] :: ((wsL_best_r1 ++ (wsL_best_r2 ++ wsL_best_r3)) ++ wsX40 ++ wsX30 ++ wsX10 ++ (vx_atS RX4 165 "java/lang/IndexOutOfBoundsException" ["java/lang/RuntimeException", "java/lang/Exception"]).filter goodWord)
def wsL_barge_r1 : List Cond := [Cond.classLink RL 13 "java/lang/IndexOutOfBoundsException", Cond.classLink RL 17 "java/lang/IllegalStateException", Cond.methodLink RL 36 yX4_barge, Cond.instanceMethod yX4_barge, Cond.selects RX4 yX4_barge yX4_barge, Cond.initialized RX4, Cond.code yX4_barge cX4_barge 2 (some .int), Cond.classLink RX4 42 "java/lang/IllegalStateException", Cond.initialized "java/lang/IllegalStateException", Cond.fieldLink RX4 10 "SedgeBarges" "now" "LSedgeBarges$Waterway;", Cond.methodLink RX4 19 yX4_needPlace, Cond.static yX4_needPlace, Cond.code yX4_needPlace cX4_needPlace 1 none, Cond.classLink RX4 161 "java/lang/IndexOutOfBoundsException", Cond.initialized "java/lang/IndexOutOfBoundsException", Cond.methodLink RX4 103 yX0_areFull, Cond.instanceMethod yX0_areFull, Cond.selects RX0 yX0_areFull yX0_areFull, Cond.initialized RX0, Cond.code yX0_areFull cX0_areFull 1 (some .boolean), Cond.fieldLink RX0 27 "SedgeBarges$Barges" "number" "I", Cond.methodLink RX4 108 yX0_add, Cond.instanceMethod yX0_add, Cond.selects RX0 yX0_add yX0_add]
def wsL_barge_r2 : List Cond := [Cond.code yX0_add cX0_add 3 (some .int), Cond.fieldLink RX0 9 "SedgeBarges$Barges" "place" "[I", Cond.fieldLink RX0 15 "SedgeBarges$Barges" "goal" "[I"]
def wsL_barge : List Cond := .codeWith yL_barge cL_barge 4 (some .int) [(0, 9, 12, 13), (0, 9, 15, 17)] :: ((wsL_barge_r1 ++ wsL_barge_r2) ++ wsX40 ++ wsX30 ++ wsX00 ++ (vx_atS RX4 46 "java/lang/IllegalStateException" ["java/lang/RuntimeException", "java/lang/Exception"]).filter goodWord ++ (vx_atS RX4 165 "java/lang/IndexOutOfBoundsException" ["java/lang/RuntimeException", "java/lang/Exception"]).filter goodWord)
def wsL_sail_r1 : List Cond := [Cond.classLink RL 13 "java/lang/IndexOutOfBoundsException", Cond.methodLink RL 39 yX4_sail, Cond.instanceMethod yX4_sail, Cond.selects RX4 yX4_sail yX4_sail, Cond.initialized RX4, Cond.code yX4_sail cX4_sail 3 (some .int), Cond.fieldLink RX4 10 "SedgeBarges" "now" "LSedgeBarges$Waterway;", Cond.methodLink RX4 110 yX4_needBarge, Cond.instanceMethod yX4_needBarge, Cond.selects RX4 yX4_needBarge yX4_needBarge, Cond.code yX4_needBarge cX4_needBarge 2 none, Cond.classLink RX4 161 "java/lang/IndexOutOfBoundsException", Cond.initialized "java/lang/IndexOutOfBoundsException", Cond.methodLink RX4 19 yX4_needPlace, Cond.static yX4_needPlace, Cond.code yX4_needPlace cX4_needPlace 1 none, Cond.methodLink RX4 113 yX0_send, Cond.instanceMethod yX0_send, Cond.selects RX0 yX0_send yX0_send, Cond.initialized RX0, Cond.code yX0_send cX0_send 4 (some .int), Cond.fieldLink RX0 9 "SedgeBarges$Barges" "place" "[I", Cond.methodLink RX0 31 Lib.Math.abs.name, Cond.static Lib.Math.abs.name]
def wsL_sail_r2 : List Cond := [Cond.initialized "java/lang/Math", Cond.code Lib.Math.abs.name Lib.Math.abs.code 1 (some .int), Cond.fieldLink RX0 15 "SedgeBarges$Barges" "goal" "[I"]
def wsL_sail : List Cond := .codeWith yL_sail cL_sail 5 (some .int) [(0, 10, 13, 13)] :: ((wsL_sail_r1 ++ wsL_sail_r2) ++ wsX40 ++ wsX30 ++ wsX00 ++ (vx_atS RX4 165 "java/lang/IndexOutOfBoundsException" ["java/lang/RuntimeException", "java/lang/Exception"]).filter goodWord)
def wsL_load_r1 : List Cond := [Cond.classLink RL 13 "java/lang/IndexOutOfBoundsException", Cond.classLink RL 17 "java/lang/IllegalStateException", Cond.methodLink RL 42 yX4_load, Cond.instanceMethod yX4_load, Cond.selects RX4 yX4_load yX4_load, Cond.initialized RX4, Cond.code yX4_load cX4_load 3 (some .int), Cond.classLink RX4 42 "java/lang/IllegalStateException", Cond.initialized "java/lang/IllegalStateException", Cond.fieldLink RX4 10 "SedgeBarges" "now" "LSedgeBarges$Waterway;", Cond.methodLink RX4 110 yX4_needBarge, Cond.instanceMethod yX4_needBarge, Cond.selects RX4 yX4_needBarge yX4_needBarge, Cond.code yX4_needBarge cX4_needBarge 2 none, Cond.classLink RX4 161 "java/lang/IndexOutOfBoundsException", Cond.initialized "java/lang/IndexOutOfBoundsException", Cond.methodLink RX4 51 yX4_needBed, Cond.instanceMethod yX4_needBed, Cond.selects RX4 yX4_needBed yX4_needBed, Cond.code yX4_needBed cX4_needBed 2 none, Cond.methodLink RX4 122 yX3_takeAboard, Cond.instanceMethod yX3_takeAboard, Cond.selects RX3 yX3_takeAboard yX3_takeAboard, Cond.initialized RX3]
def wsL_load_r2 : List Cond := [Cond.code yX3_takeAboard cX3_takeAboard 6 (some .int), Cond.fieldLink RX3 28 "SedgeBarges$Waterway" "barges" "LSedgeBarges$Barges;", Cond.fieldLink RX3 21 "SedgeBarges$Waterway" "beds" "LSedgeBarges$Beds;", Cond.methodLink RX3 63 Lib.Math.min.name, Cond.static Lib.Math.min.name, Cond.initialized "java/lang/Math", Cond.code Lib.Math.min.name Lib.Math.min.code 2 (some .int), Cond.methodLink RX3 55 yX0_aboard, Cond.instanceMethod yX0_aboard, Cond.selects RX0 yX0_aboard yX0_aboard, Cond.initialized RX0, Cond.code yX0_aboard cX0_aboard 2 (some .int), Cond.fieldLink RX0 18 "SedgeBarges$Barges" "sedge" "[I", Cond.fieldLink RX0 21 "SedgeBarges$Barges" "reed" "[I"]
def wsL_load : List Cond := .codeWith yL_load cL_load 5 (some .int) [(0, 10, 13, 13), (0, 10, 17, 17)] :: ((wsL_load_r1 ++ wsL_load_r2) ++ wsX40 ++ wsX30 ++ wsX00 ++ wsX10 ++ (vx_atS RX4 46 "java/lang/IllegalStateException" ["java/lang/RuntimeException", "java/lang/Exception"]).filter goodWord ++ (vx_atS RX4 165 "java/lang/IndexOutOfBoundsException" ["java/lang/RuntimeException", "java/lang/Exception"]).filter goodWord)
def wsL_sell_r1 : List Cond := [Cond.classLink RL 13 "java/lang/IndexOutOfBoundsException", Cond.classLink RL 17 "java/lang/IllegalStateException", Cond.methodLink RL 45 yX4_sell, Cond.instanceMethod yX4_sell, Cond.selects RX4 yX4_sell yX4_sell, Cond.initialized RX4, Cond.code yX4_sell cX4_sell 3 (some .int), Cond.classLink RX4 42 "java/lang/IllegalStateException", Cond.initialized "java/lang/IllegalStateException", Cond.fieldLink RX4 10 "SedgeBarges" "now" "LSedgeBarges$Waterway;", Cond.methodLink RX4 110 yX4_needBarge, Cond.instanceMethod yX4_needBarge, Cond.selects RX4 yX4_needBarge yX4_needBarge, Cond.code yX4_needBarge cX4_needBarge 2 none, Cond.classLink RX4 161 "java/lang/IndexOutOfBoundsException", Cond.initialized "java/lang/IndexOutOfBoundsException", Cond.methodLink RX4 125 yX4_landingAt, Cond.static yX4_landingAt, Cond.code yX4_landingAt cX4_landingAt 2 (some .int), Cond.fieldLink RX4 147 "SedgeBarges" "LANDING_PLACE" "[I", Cond.methodLink RX4 130 yX3_sellAll, Cond.instanceMethod yX3_sellAll, Cond.selects RX3 yX3_sellAll yX3_sellAll, Cond.initialized RX3]
def wsL_sell_r2 : List Cond := [Cond.code yX3_sellAll cX3_sellAll 5 (some .int), Cond.fieldLink RX3 28 "SedgeBarges$Waterway" "barges" "LSedgeBarges$Barges;", Cond.fieldLink RX3 35 "SedgeBarges$Waterway" "landings" "LSedgeBarges$Landings;", Cond.fieldLink RX3 9 "SedgeBarges$Waterway" "coins" "I", Cond.methodLink RX3 55 yX0_aboard, Cond.instanceMethod yX0_aboard, Cond.selects RX0 yX0_aboard yX0_aboard, Cond.initialized RX0, Cond.code yX0_aboard cX0_aboard 2 (some .int), Cond.fieldLink RX0 18 "SedgeBarges$Barges" "sedge" "[I", Cond.fieldLink RX0 21 "SedgeBarges$Barges" "reed" "[I", Cond.methodLink RX3 78 yX2_sedgePrice, Cond.instanceMethod yX2_sedgePrice, Cond.selects RX2 yX2_sedgePrice yX2_sedgePrice, Cond.initialized RX2, Cond.code yX2_sedgePrice cX2_sedgePrice 2 (some .int), Cond.fieldLink RX2 9 "SedgeBarges$Landings" "store" "[I", Cond.methodLink RX2 18 Lib.Math.max.name, Cond.static Lib.Math.max.name, Cond.initialized "java/lang/Math", Cond.code Lib.Math.max.name Lib.Math.max.code 2 (some .int), Cond.methodLink RX3 81 yX2_reedPrice, Cond.instanceMethod yX2_reedPrice, Cond.selects RX2 yX2_reedPrice yX2_reedPrice]
def wsL_sell_r3 : List Cond := [Cond.code yX2_reedPrice cX2_reedPrice 2 (some .int), Cond.methodLink RX2 24 yX2_sedgePrice]
def wsL_sell : List Cond := .codeWith yL_sell cL_sell 4 (some .int) [(0, 9, 12, 13), (0, 9, 15, 17)] :: ((wsL_sell_r1 ++ (wsL_sell_r2 ++ wsL_sell_r3)) ++ wsX40 ++ wsX30 ++ wsX00 ++ wsX20 ++ (vx_atS RX4 46 "java/lang/IllegalStateException" ["java/lang/RuntimeException", "java/lang/Exception"]).filter goodWord ++ (vx_atS RX4 165 "java/lang/IndexOutOfBoundsException" ["java/lang/RuntimeException", "java/lang/Exception"]).filter goodWord)
def wsL_told_r1 : List Cond := [Cond.classLink RL 13 "java/lang/IndexOutOfBoundsException", Cond.methodLink RL 48 yX4_told, Cond.instanceMethod yX4_told, Cond.selects RX4 yX4_told yX4_told, Cond.initialized RX4, Cond.code yX4_told cX4_told 3 (some .int), Cond.fieldLink RX4 10 "SedgeBarges" "now" "LSedgeBarges$Waterway;", Cond.methodLink RX4 110 yX4_needBarge, Cond.instanceMethod yX4_needBarge, Cond.selects RX4 yX4_needBarge yX4_needBarge, Cond.code yX4_needBarge cX4_needBarge 2 none, Cond.classLink RX4 161 "java/lang/IndexOutOfBoundsException", Cond.initialized "java/lang/IndexOutOfBoundsException", Cond.methodLink RX4 82 yX4_needFigure, Cond.static yX4_needFigure, Cond.code yX4_needFigure cX4_needFigure 2 none, Cond.methodLink RX4 133 yX0_tell, Cond.instanceMethod yX0_tell, Cond.selects RX0 yX0_tell yX0_tell, Cond.initialized RX0, Cond.code yX0_tell cX0_tell 3 (some .int), Cond.fieldLink RX0 9 "SedgeBarges$Barges" "place" "[I", Cond.fieldLink RX0 15 "SedgeBarges$Barges" "goal" "[I", Cond.fieldLink RX0 18 "SedgeBarges$Barges" "sedge" "[I"]
def wsL_told_r2 : List Cond := [Cond.fieldLink RX0 21 "SedgeBarges$Barges" "reed" "[I", Cond.fieldLink RX0 24 "SedgeBarges$Barges" "brought" "[I", Cond.static yX4_landingAt, Cond.code yX4_landingAt cX4_landingAt 2 (some .int), Cond.fieldLink RX4 147 "SedgeBarges" "LANDING_PLACE" "[I"]
def wsL_told : List Cond := .codeWith yL_told cL_told 5 (some .int) [(0, 10, 13, 13)] :: ((wsL_told_r1 ++ wsL_told_r2) ++ wsX40 ++ wsX30 ++ wsX00 ++ (vx_atS RX4 165 "java/lang/IndexOutOfBoundsException" ["java/lang/RuntimeException", "java/lang/Exception"]).filter goodWord)
def wsL_landing_r1 : List Cond := [Cond.classLink RL 13 "java/lang/IndexOutOfBoundsException", Cond.methodLink RL 51 yX4_landing, Cond.instanceMethod yX4_landing, Cond.selects RX4 yX4_landing yX4_landing, Cond.initialized RX4, Cond.code yX4_landing cX4_landing 3 (some .int), Cond.fieldLink RX4 10 "SedgeBarges" "now" "LSedgeBarges$Waterway;", Cond.methodLink RX4 134 yX4_needLanding, Cond.static yX4_needLanding, Cond.code yX4_needLanding cX4_needLanding 1 none, Cond.classLink RX4 161 "java/lang/IndexOutOfBoundsException", Cond.initialized "java/lang/IndexOutOfBoundsException", Cond.methodLink RX4 82 yX4_needFigure, Cond.static yX4_needFigure, Cond.code yX4_needFigure cX4_needFigure 2 none, Cond.methodLink RX4 141 yX2_tell, Cond.instanceMethod yX2_tell, Cond.selects RX2 yX2_tell yX2_tell, Cond.initialized RX2, Cond.code yX2_tell cX2_tell 3 (some .int), Cond.fieldLink RX2 9 "SedgeBarges$Landings" "store" "[I", Cond.methodLink RX2 24 yX2_sedgePrice, Cond.instanceMethod yX2_sedgePrice, Cond.selects RX2 yX2_sedgePrice yX2_sedgePrice]
def wsL_landing_r2 : List Cond := [Cond.code yX2_sedgePrice cX2_sedgePrice 2 (some .int), Cond.methodLink RX2 18 Lib.Math.max.name, Cond.static Lib.Math.max.name, Cond.initialized "java/lang/Math", Cond.code Lib.Math.max.name Lib.Math.max.code 2 (some .int), Cond.methodLink RX2 34 yX2_reedPrice, Cond.instanceMethod yX2_reedPrice, Cond.selects RX2 yX2_reedPrice yX2_reedPrice, Cond.code yX2_reedPrice cX2_reedPrice 2 (some .int)]
def wsL_landing : List Cond := .codeWith yL_landing cL_landing 5 (some .int) [(0, 10, 13, 13)] :: ((wsL_landing_r1 ++ wsL_landing_r2) ++ wsX40 ++ wsX30 ++ wsX20 ++ (vx_atS RX4 165 "java/lang/IndexOutOfBoundsException" ["java/lang/RuntimeException", "java/lang/Exception"]).filter goodWord)
def wsL_would_r1 : List Cond := [Cond.classLink RL 13 "java/lang/IndexOutOfBoundsException", Cond.methodLink RL 54 yX4_would, Cond.instanceMethod yX4_would, Cond.selects RX4 yX4_would yX4_would, Cond.initialized RX4, Cond.code yX4_would cX4_would 4 (some .int), Cond.fieldLink RX4 16 "SedgeBarges" "ahead" "LSedgeBarges$Waterway;", Cond.fieldLink RX4 10 "SedgeBarges" "now" "LSedgeBarges$Waterway;", Cond.fieldLink RX4 147 "SedgeBarges" "LANDING_PLACE" "[I", Cond.methodLink RX4 110 yX4_needBarge, Cond.instanceMethod yX4_needBarge, Cond.selects RX4 yX4_needBarge yX4_needBarge, Cond.code yX4_needBarge cX4_needBarge 2 none, Cond.classLink RX4 161 "java/lang/IndexOutOfBoundsException", Cond.initialized "java/lang/IndexOutOfBoundsException", Cond.methodLink RX4 134 yX4_needLanding, Cond.static yX4_needLanding, Cond.code yX4_needLanding cX4_needLanding 1 none, Cond.methodLink RX4 144 yX3_copyFrom, Cond.instanceMethod yX3_copyFrom, Cond.selects RX3 yX3_copyFrom yX3_copyFrom, Cond.initialized RX3, Cond.code yX3_copyFrom cX3_copyFrom 2 none, Cond.fieldLink RX3 39 "SedgeBarges$Waterway" "day" "I"]
def wsL_would_r2 : List Cond := [Cond.fieldLink RX3 9 "SedgeBarges$Waterway" "coins" "I", Cond.fieldLink RX3 15 "SedgeBarges$Waterway" "ties" "I", Cond.fieldLink RX3 42 "SedgeBarges$Waterway" "rotted" "I", Cond.fieldLink RX3 21 "SedgeBarges$Waterway" "beds" "LSedgeBarges$Beds;", Cond.fieldLink RX3 28 "SedgeBarges$Waterway" "barges" "LSedgeBarges$Barges;", Cond.fieldLink RX3 35 "SedgeBarges$Waterway" "landings" "LSedgeBarges$Landings;", Cond.methodLink RX3 45 yX1_copyFrom, Cond.instanceMethod yX1_copyFrom, Cond.selects RX1 yX1_copyFrom yX1_copyFrom, Cond.initialized RX1, Cond.code yX1_copyFrom cX1_copyFrom 3 none, Cond.fieldLink RX1 39 "SedgeBarges$Beds" "number" "I", Cond.fieldLink RX1 9 "SedgeBarges$Beds" "place" "[I", Cond.fieldLink RX1 15 "SedgeBarges$Beds" "size" "[I", Cond.fieldLink RX1 18 "SedgeBarges$Beds" "age" "[I", Cond.fieldLink RX1 21 "SedgeBarges$Beds" "sedge" "[I", Cond.fieldLink RX1 24 "SedgeBarges$Beds" "untiedSedge" "[I", Cond.fieldLink RX1 27 "SedgeBarges$Beds" "untiedReed" "[I", Cond.fieldLink RX1 30 "SedgeBarges$Beds" "tiedSedge" "[I", Cond.fieldLink RX1 33 "SedgeBarges$Beds" "tiedReed" "[I", Cond.methodLink RX3 49 yX0_copyFrom, Cond.instanceMethod yX0_copyFrom, Cond.selects RX0 yX0_copyFrom yX0_copyFrom, Cond.initialized RX0]
def wsL_would_r3 : List Cond := [Cond.code yX0_copyFrom cX0_copyFrom 3 none, Cond.fieldLink RX0 27 "SedgeBarges$Barges" "number" "I", Cond.fieldLink RX0 9 "SedgeBarges$Barges" "place" "[I", Cond.fieldLink RX0 15 "SedgeBarges$Barges" "goal" "[I", Cond.fieldLink RX0 18 "SedgeBarges$Barges" "sedge" "[I", Cond.fieldLink RX0 21 "SedgeBarges$Barges" "reed" "[I", Cond.fieldLink RX0 24 "SedgeBarges$Barges" "brought" "[I", Cond.methodLink RX3 52 yX2_copyFrom, Cond.instanceMethod yX2_copyFrom, Cond.selects RX2 yX2_copyFrom yX2_copyFrom, Cond.initialized RX2, Cond.code yX2_copyFrom cX2_copyFrom 3 none, Cond.fieldLink RX2 9 "SedgeBarges$Landings" "store" "[I", Cond.methodLink RX4 113 yX0_send, Cond.instanceMethod yX0_send, Cond.selects RX0 yX0_send yX0_send, Cond.code yX0_send cX0_send 4 (some .int), Cond.methodLink RX0 31 Lib.Math.abs.name, Cond.static Lib.Math.abs.name, Cond.initialized "java/lang/Math", Cond.code Lib.Math.abs.name Lib.Math.abs.code 1 (some .int), Cond.methodLink RX4 150 yX3_passDays, Cond.instanceMethod yX3_passDays, Cond.selects RX3 yX3_passDays yX3_passDays]
def wsL_would_r4 : List Cond := [Cond.code yX3_passDays cX3_passDays 4 (some .int), Cond.methodLink RX3 90 yX3_passDay, Cond.instanceMethod yX3_passDay, Cond.selects RX3 yX3_passDay yX3_passDay, Cond.code yX3_passDay cX3_passDay 1 none, Cond.methodLink RX3 93 yX0_sailOn, Cond.instanceMethod yX0_sailOn, Cond.selects RX0 yX0_sailOn yX0_sailOn, Cond.code yX0_sailOn cX0_sailOn 3 none, Cond.methodLink RX0 37 Lib.Math.min.name, Cond.static Lib.Math.min.name, Cond.code Lib.Math.min.name Lib.Math.min.code 2 (some .int), Cond.methodLink RX0 41 Lib.Math.max.name, Cond.static Lib.Math.max.name, Cond.code Lib.Math.max.name Lib.Math.max.code 2 (some .int), Cond.methodLink RX3 96 yX1_rot, Cond.instanceMethod yX1_rot, Cond.selects RX1 yX1_rot yX1_rot, Cond.code yX1_rot cX1_rot 5 (some .int), Cond.static yX4_tenthRoundedUp, Cond.code yX4_tenthRoundedUp cX4_tenthRoundedUp 1 (some .int), Cond.methodLink RX3 100 yX2_thatch, Cond.instanceMethod yX2_thatch, Cond.selects RX2 yX2_thatch yX2_thatch]
def wsL_would_r5 : List Cond := [Cond.code yX2_thatch cX2_thatch 2 none, Cond.static yX4_twentiethRoundedUp, Cond.code yX4_twentiethRoundedUp cX4_twentiethRoundedUp 1 (some .int), Cond.methodLink RX3 103 yX1_endYear, Cond.instanceMethod yX1_endYear, Cond.selects RX1 yX1_endYear yX1_endYear, Cond.code yX1_endYear cX1_endYear 2 none, Cond.fieldLink RX1 36 "SedgeBarges$Beds" "change" "[I", Cond.methodLink RX1 53 Lib.Math.min.name, Cond.methodLink RX1 69 Lib.Math.max.name, Cond.methodLink RX1 62 yX1_changeByAge, Cond.static yX1_changeByAge, Cond.code yX1_changeByAge cX1_changeByAge 1 (some .int), Cond.methodLink RX1 65 yX1_isCreptInto, Cond.instanceMethod yX1_isCreptInto, Cond.selects RX1 yX1_isCreptInto yX1_isCreptInto, Cond.code yX1_isCreptInto cX1_isCreptInto 3 (some .boolean), Cond.methodLink RX1 72 Lib.Math.abs.name, Cond.methodLink RX4 130 yX3_sellAll, Cond.instanceMethod yX3_sellAll, Cond.selects RX3 yX3_sellAll yX3_sellAll, Cond.code yX3_sellAll cX3_sellAll 5 (some .int), Cond.methodLink RX3 55 yX0_aboard, Cond.instanceMethod yX0_aboard]
def wsL_would_r6 : List Cond := [Cond.selects RX0 yX0_aboard yX0_aboard, Cond.code yX0_aboard cX0_aboard 2 (some .int), Cond.methodLink RX3 78 yX2_sedgePrice, Cond.instanceMethod yX2_sedgePrice, Cond.selects RX2 yX2_sedgePrice yX2_sedgePrice, Cond.code yX2_sedgePrice cX2_sedgePrice 2 (some .int), Cond.methodLink RX2 18 Lib.Math.max.name, Cond.methodLink RX3 81 yX2_reedPrice, Cond.instanceMethod yX2_reedPrice, Cond.selects RX2 yX2_reedPrice yX2_reedPrice, Cond.code yX2_reedPrice cX2_reedPrice 2 (some .int), Cond.methodLink RX2 24 yX2_sedgePrice]
def wsL_would : List Cond := .codeWith yL_would cL_would 5 (some .int) [(0, 10, 13, 13)] :: ((wsL_would_r1 ++ (wsL_would_r2 ++ (wsL_would_r3 ++ (wsL_would_r4 ++ (wsL_would_r5 ++ wsL_would_r6))))) ++ wsX40 ++ wsX30 ++ wsX00 ++ wsX10 ++ wsX20 ++ (vx_atS RX4 165 "java/lang/IndexOutOfBoundsException" ["java/lang/RuntimeException", "java/lang/Exception"]).filter goodWord)
def wsL_advise_r1 : List Cond := [Cond.classLink RL 13 "java/lang/IndexOutOfBoundsException", Cond.methodLink RL 57 yX4_advise, Cond.instanceMethod yX4_advise, Cond.selects RX4 yX4_advise yX4_advise, Cond.initialized RX4, Cond.code yX4_advise cX4_advise 6 (some .int), Cond.methodLink RX4 110 yX4_needBarge, Cond.instanceMethod yX4_needBarge, Cond.selects RX4 yX4_needBarge yX4_needBarge, Cond.code yX4_needBarge cX4_needBarge 2 none, Cond.classLink RX4 161 "java/lang/IndexOutOfBoundsException", Cond.initialized "java/lang/IndexOutOfBoundsException", Cond.fieldLink RX4 10 "SedgeBarges" "now" "LSedgeBarges$Waterway;", Cond.methodLink RX4 153 yX4_would, Cond.instanceMethod yX4_would, Cond.selects RX4 yX4_would yX4_would, Cond.code yX4_would cX4_would 4 (some .int), Cond.fieldLink RX4 16 "SedgeBarges" "ahead" "LSedgeBarges$Waterway;", Cond.fieldLink RX4 147 "SedgeBarges" "LANDING_PLACE" "[I", Cond.methodLink RX4 134 yX4_needLanding, Cond.static yX4_needLanding, Cond.code yX4_needLanding cX4_needLanding 1 none, Cond.methodLink RX4 144 yX3_copyFrom, Cond.instanceMethod yX3_copyFrom]
def wsL_advise_r2 : List Cond := [Cond.selects RX3 yX3_copyFrom yX3_copyFrom, Cond.initialized RX3, Cond.code yX3_copyFrom cX3_copyFrom 2 none, Cond.fieldLink RX3 39 "SedgeBarges$Waterway" "day" "I", Cond.fieldLink RX3 9 "SedgeBarges$Waterway" "coins" "I", Cond.fieldLink RX3 15 "SedgeBarges$Waterway" "ties" "I", Cond.fieldLink RX3 42 "SedgeBarges$Waterway" "rotted" "I", Cond.fieldLink RX3 21 "SedgeBarges$Waterway" "beds" "LSedgeBarges$Beds;", Cond.fieldLink RX3 28 "SedgeBarges$Waterway" "barges" "LSedgeBarges$Barges;", Cond.fieldLink RX3 35 "SedgeBarges$Waterway" "landings" "LSedgeBarges$Landings;", Cond.methodLink RX3 45 yX1_copyFrom, Cond.instanceMethod yX1_copyFrom, Cond.selects RX1 yX1_copyFrom yX1_copyFrom, Cond.initialized RX1, Cond.code yX1_copyFrom cX1_copyFrom 3 none, Cond.fieldLink RX1 39 "SedgeBarges$Beds" "number" "I", Cond.fieldLink RX1 9 "SedgeBarges$Beds" "place" "[I", Cond.fieldLink RX1 15 "SedgeBarges$Beds" "size" "[I", Cond.fieldLink RX1 18 "SedgeBarges$Beds" "age" "[I", Cond.fieldLink RX1 21 "SedgeBarges$Beds" "sedge" "[I", Cond.fieldLink RX1 24 "SedgeBarges$Beds" "untiedSedge" "[I", Cond.fieldLink RX1 27 "SedgeBarges$Beds" "untiedReed" "[I", Cond.fieldLink RX1 30 "SedgeBarges$Beds" "tiedSedge" "[I", Cond.fieldLink RX1 33 "SedgeBarges$Beds" "tiedReed" "[I"]
def wsL_advise_r3 : List Cond := [Cond.methodLink RX3 49 yX0_copyFrom, Cond.instanceMethod yX0_copyFrom, Cond.selects RX0 yX0_copyFrom yX0_copyFrom, Cond.initialized RX0, Cond.code yX0_copyFrom cX0_copyFrom 3 none, Cond.fieldLink RX0 27 "SedgeBarges$Barges" "number" "I", Cond.fieldLink RX0 9 "SedgeBarges$Barges" "place" "[I", Cond.fieldLink RX0 15 "SedgeBarges$Barges" "goal" "[I", Cond.fieldLink RX0 18 "SedgeBarges$Barges" "sedge" "[I", Cond.fieldLink RX0 21 "SedgeBarges$Barges" "reed" "[I", Cond.fieldLink RX0 24 "SedgeBarges$Barges" "brought" "[I", Cond.methodLink RX3 52 yX2_copyFrom, Cond.instanceMethod yX2_copyFrom, Cond.selects RX2 yX2_copyFrom yX2_copyFrom, Cond.initialized RX2, Cond.code yX2_copyFrom cX2_copyFrom 3 none, Cond.fieldLink RX2 9 "SedgeBarges$Landings" "store" "[I", Cond.methodLink RX4 113 yX0_send, Cond.instanceMethod yX0_send, Cond.selects RX0 yX0_send yX0_send, Cond.code yX0_send cX0_send 4 (some .int), Cond.methodLink RX0 31 Lib.Math.abs.name, Cond.static Lib.Math.abs.name, Cond.initialized "java/lang/Math"]
def wsL_advise_r4 : List Cond := [Cond.code Lib.Math.abs.name Lib.Math.abs.code 1 (some .int), Cond.methodLink RX4 150 yX3_passDays, Cond.instanceMethod yX3_passDays, Cond.selects RX3 yX3_passDays yX3_passDays, Cond.code yX3_passDays cX3_passDays 4 (some .int), Cond.methodLink RX3 90 yX3_passDay, Cond.instanceMethod yX3_passDay, Cond.selects RX3 yX3_passDay yX3_passDay, Cond.code yX3_passDay cX3_passDay 1 none, Cond.methodLink RX3 93 yX0_sailOn, Cond.instanceMethod yX0_sailOn, Cond.selects RX0 yX0_sailOn yX0_sailOn, Cond.code yX0_sailOn cX0_sailOn 3 none, Cond.methodLink RX0 37 Lib.Math.min.name, Cond.static Lib.Math.min.name, Cond.code Lib.Math.min.name Lib.Math.min.code 2 (some .int), Cond.methodLink RX0 41 Lib.Math.max.name, Cond.static Lib.Math.max.name, Cond.code Lib.Math.max.name Lib.Math.max.code 2 (some .int), Cond.methodLink RX3 96 yX1_rot, Cond.instanceMethod yX1_rot, Cond.selects RX1 yX1_rot yX1_rot, Cond.code yX1_rot cX1_rot 5 (some .int), Cond.static yX4_tenthRoundedUp]
def wsL_advise_r5 : List Cond := [Cond.code yX4_tenthRoundedUp cX4_tenthRoundedUp 1 (some .int), Cond.methodLink RX3 100 yX2_thatch, Cond.instanceMethod yX2_thatch, Cond.selects RX2 yX2_thatch yX2_thatch, Cond.code yX2_thatch cX2_thatch 2 none, Cond.static yX4_twentiethRoundedUp, Cond.code yX4_twentiethRoundedUp cX4_twentiethRoundedUp 1 (some .int), Cond.methodLink RX3 103 yX1_endYear, Cond.instanceMethod yX1_endYear, Cond.selects RX1 yX1_endYear yX1_endYear, Cond.code yX1_endYear cX1_endYear 2 none, Cond.fieldLink RX1 36 "SedgeBarges$Beds" "change" "[I", Cond.methodLink RX1 53 Lib.Math.min.name, Cond.methodLink RX1 69 Lib.Math.max.name, Cond.methodLink RX1 62 yX1_changeByAge, Cond.static yX1_changeByAge, Cond.code yX1_changeByAge cX1_changeByAge 1 (some .int), Cond.methodLink RX1 65 yX1_isCreptInto, Cond.instanceMethod yX1_isCreptInto, Cond.selects RX1 yX1_isCreptInto yX1_isCreptInto, Cond.code yX1_isCreptInto cX1_isCreptInto 3 (some .boolean), Cond.methodLink RX1 72 Lib.Math.abs.name, Cond.methodLink RX4 130 yX3_sellAll, Cond.instanceMethod yX3_sellAll]
def wsL_advise_r6 : List Cond := [Cond.selects RX3 yX3_sellAll yX3_sellAll, Cond.code yX3_sellAll cX3_sellAll 5 (some .int), Cond.methodLink RX3 55 yX0_aboard, Cond.instanceMethod yX0_aboard, Cond.selects RX0 yX0_aboard yX0_aboard, Cond.code yX0_aboard cX0_aboard 2 (some .int), Cond.methodLink RX3 78 yX2_sedgePrice, Cond.instanceMethod yX2_sedgePrice, Cond.selects RX2 yX2_sedgePrice yX2_sedgePrice, Cond.code yX2_sedgePrice cX2_sedgePrice 2 (some .int), Cond.methodLink RX2 18 Lib.Math.max.name, Cond.methodLink RX3 81 yX2_reedPrice, Cond.instanceMethod yX2_reedPrice, Cond.selects RX2 yX2_reedPrice yX2_reedPrice, Cond.code yX2_reedPrice cX2_reedPrice 2 (some .int), Cond.methodLink RX2 24 yX2_sedgePrice]
def wsL_advise : List Cond := .codeWith yL_advise cL_advise 4 (some .int) [(0, 9, 12, 13)] :: ((wsL_advise_r1 ++ (wsL_advise_r2 ++ (wsL_advise_r3 ++ (wsL_advise_r4 ++ (wsL_advise_r5 ++ wsL_advise_r6))))) ++ wsX40 ++ wsX30 ++ wsX00 ++ wsX10 ++ wsX20 ++ (vx_atS RX4 165 "java/lang/IndexOutOfBoundsException" ["java/lang/RuntimeException", "java/lang/Exception"]).filter goodWord)
def wsL_count_r1 : List Cond := [Cond.classLink RL 13 "java/lang/IndexOutOfBoundsException", Cond.methodLink RL 60 yX4_count, Cond.instanceMethod yX4_count, Cond.selects RX4 yX4_count yX4_count, Cond.initialized RX4, Cond.code yX4_count cX4_count 2 (some .int), Cond.fieldLink RX4 10 "SedgeBarges" "now" "LSedgeBarges$Waterway;", Cond.methodLink RX4 82 yX4_needFigure, Cond.static yX4_needFigure, Cond.code yX4_needFigure cX4_needFigure 2 none, Cond.classLink RX4 161 "java/lang/IndexOutOfBoundsException", Cond.initialized "java/lang/IndexOutOfBoundsException", Cond.methodLink RX4 156 yX3_tell, Cond.instanceMethod yX3_tell, Cond.selects RX3 yX3_tell yX3_tell, Cond.initialized RX3, Cond.code yX3_tell cX3_tell 2 (some .int), Cond.fieldLink RX3 39 "SedgeBarges$Waterway" "day" "I", Cond.fieldLink RX3 9 "SedgeBarges$Waterway" "coins" "I", Cond.fieldLink RX3 15 "SedgeBarges$Waterway" "ties" "I", Cond.fieldLink RX3 21 "SedgeBarges$Waterway" "beds" "LSedgeBarges$Beds;", Cond.fieldLink RX3 28 "SedgeBarges$Waterway" "barges" "LSedgeBarges$Barges;", Cond.fieldLink RX3 35 "SedgeBarges$Waterway" "landings" "LSedgeBarges$Landings;", Cond.fieldLink RX3 42 "SedgeBarges$Waterway" "rotted" "I"]
def wsL_count_r2 : List Cond := [Cond.methodLink RX3 109 yX1_givenByAll, Cond.instanceMethod yX1_givenByAll, Cond.selects RX1 yX1_givenByAll yX1_givenByAll, Cond.initialized RX1, Cond.code yX1_givenByAll cX1_givenByAll 3 (some .int), Cond.fieldLink RX1 39 "SedgeBarges$Beds" "number" "I", Cond.methodLink RX1 46 yX1_given, Cond.instanceMethod yX1_given, Cond.selects RX1 yX1_given yX1_given, Cond.code yX1_given cX1_given 4 (some .int), Cond.fieldLink RX1 18 "SedgeBarges$Beds" "age" "[I", Cond.fieldLink RX1 15 "SedgeBarges$Beds" "size" "[I", Cond.methodLink RX3 112 yX1_untiedOfAll, Cond.instanceMethod yX1_untiedOfAll, Cond.selects RX1 yX1_untiedOfAll yX1_untiedOfAll, Cond.code yX1_untiedOfAll cX1_untiedOfAll 3 (some .int), Cond.fieldLink RX1 24 "SedgeBarges$Beds" "untiedSedge" "[I", Cond.fieldLink RX1 27 "SedgeBarges$Beds" "untiedReed" "[I", Cond.methodLink RX3 115 yX1_tiedOfAll, Cond.instanceMethod yX1_tiedOfAll, Cond.selects RX1 yX1_tiedOfAll yX1_tiedOfAll, Cond.code yX1_tiedOfAll cX1_tiedOfAll 3 (some .int), Cond.fieldLink RX1 30 "SedgeBarges$Beds" "tiedSedge" "[I", Cond.fieldLink RX1 33 "SedgeBarges$Beds" "tiedReed" "[I"]
def wsL_count_r3 : List Cond := [Cond.methodLink RX3 119 yX0_aboardAll, Cond.instanceMethod yX0_aboardAll, Cond.selects RX0 yX0_aboardAll yX0_aboardAll, Cond.initialized RX0, Cond.code yX0_aboardAll cX0_aboardAll 3 (some .int), Cond.fieldLink RX0 27 "SedgeBarges$Barges" "number" "I", Cond.methodLink RX0 47 yX0_aboard, Cond.instanceMethod yX0_aboard, Cond.selects RX0 yX0_aboard yX0_aboard, Cond.code yX0_aboard cX0_aboard 2 (some .int), Cond.fieldLink RX0 18 "SedgeBarges$Barges" "sedge" "[I", Cond.fieldLink RX0 21 "SedgeBarges$Barges" "reed" "[I", Cond.methodLink RX3 122 yX2_storeOfAll, Cond.instanceMethod yX2_storeOfAll, Cond.selects RX2 yX2_storeOfAll yX2_storeOfAll, Cond.initialized RX2, Cond.code yX2_storeOfAll cX2_storeOfAll 3 (some .int), Cond.fieldLink RX2 9 "SedgeBarges$Landings" "store" "[I"]
def wsL_count : List Cond := .codeWith yL_count cL_count 4 (some .int) [(0, 9, 12, 13)] :: ((wsL_count_r1 ++ (wsL_count_r2 ++ wsL_count_r3)) ++ wsX40 ++ wsX30 ++ wsX10 ++ wsX00 ++ wsX20 ++ (vx_atS RX4 165 "java/lang/IndexOutOfBoundsException" ["java/lang/RuntimeException", "java/lang/Exception"]).filter goodWord)
def wsL_pass_r1 : List Cond := [Cond.classLink RL 15 "java/lang/IllegalArgumentException", Cond.methodLink RL 63 yX4_pass, Cond.instanceMethod yX4_pass, Cond.selects RX4 yX4_pass yX4_pass, Cond.initialized RX4, Cond.code yX4_pass cX4_pass 2 (some .int), Cond.fieldLink RX4 10 "SedgeBarges" "now" "LSedgeBarges$Waterway;", Cond.methodLink RX4 158 yX4_needDays, Cond.static yX4_needDays, Cond.code yX4_needDays cX4_needDays 1 none, Cond.classLink RX4 23 "java/lang/IllegalArgumentException", Cond.initialized "java/lang/IllegalArgumentException", Cond.methodLink RX4 150 yX3_passDays, Cond.instanceMethod yX3_passDays, Cond.selects RX3 yX3_passDays yX3_passDays, Cond.initialized RX3, Cond.code yX3_passDays cX3_passDays 4 (some .int), Cond.fieldLink RX3 42 "SedgeBarges$Waterway" "rotted" "I", Cond.methodLink RX3 90 yX3_passDay, Cond.instanceMethod yX3_passDay, Cond.selects RX3 yX3_passDay yX3_passDay, Cond.code yX3_passDay cX3_passDay 1 none, Cond.fieldLink RX3 28 "SedgeBarges$Waterway" "barges" "LSedgeBarges$Barges;", Cond.fieldLink RX3 21 "SedgeBarges$Waterway" "beds" "LSedgeBarges$Beds;"]
def wsL_pass_r2 : List Cond := [Cond.fieldLink RX3 35 "SedgeBarges$Waterway" "landings" "LSedgeBarges$Landings;", Cond.fieldLink RX3 39 "SedgeBarges$Waterway" "day" "I", Cond.methodLink RX3 93 yX0_sailOn, Cond.instanceMethod yX0_sailOn, Cond.selects RX0 yX0_sailOn yX0_sailOn, Cond.initialized RX0, Cond.code yX0_sailOn cX0_sailOn 3 none, Cond.fieldLink RX0 27 "SedgeBarges$Barges" "number" "I", Cond.fieldLink RX0 15 "SedgeBarges$Barges" "goal" "[I", Cond.fieldLink RX0 9 "SedgeBarges$Barges" "place" "[I", Cond.methodLink RX0 37 Lib.Math.min.name, Cond.static Lib.Math.min.name, Cond.initialized "java/lang/Math", Cond.code Lib.Math.min.name Lib.Math.min.code 2 (some .int), Cond.methodLink RX0 41 Lib.Math.max.name, Cond.static Lib.Math.max.name, Cond.code Lib.Math.max.name Lib.Math.max.code 2 (some .int), Cond.methodLink RX3 96 yX1_rot, Cond.instanceMethod yX1_rot, Cond.selects RX1 yX1_rot yX1_rot, Cond.initialized RX1, Cond.code yX1_rot cX1_rot 5 (some .int), Cond.fieldLink RX1 39 "SedgeBarges$Beds" "number" "I", Cond.fieldLink RX1 24 "SedgeBarges$Beds" "untiedSedge" "[I"]
def wsL_pass_r3 : List Cond := [Cond.fieldLink RX1 27 "SedgeBarges$Beds" "untiedReed" "[I", Cond.static yX4_tenthRoundedUp, Cond.code yX4_tenthRoundedUp cX4_tenthRoundedUp 1 (some .int), Cond.methodLink RX3 100 yX2_thatch, Cond.instanceMethod yX2_thatch, Cond.selects RX2 yX2_thatch yX2_thatch, Cond.initialized RX2, Cond.code yX2_thatch cX2_thatch 2 none, Cond.fieldLink RX2 9 "SedgeBarges$Landings" "store" "[I", Cond.static yX4_twentiethRoundedUp, Cond.code yX4_twentiethRoundedUp cX4_twentiethRoundedUp 1 (some .int), Cond.methodLink RX3 103 yX1_endYear, Cond.instanceMethod yX1_endYear, Cond.selects RX1 yX1_endYear yX1_endYear, Cond.code yX1_endYear cX1_endYear 2 none, Cond.fieldLink RX1 36 "SedgeBarges$Beds" "change" "[I", Cond.fieldLink RX1 18 "SedgeBarges$Beds" "age" "[I", Cond.fieldLink RX1 21 "SedgeBarges$Beds" "sedge" "[I", Cond.methodLink RX1 53 Lib.Math.min.name, Cond.methodLink RX1 69 Lib.Math.max.name, Cond.methodLink RX1 62 yX1_changeByAge, Cond.static yX1_changeByAge, Cond.code yX1_changeByAge cX1_changeByAge 1 (some .int), Cond.methodLink RX1 65 yX1_isCreptInto]
def wsL_pass_r4 : List Cond := [Cond.instanceMethod yX1_isCreptInto, Cond.selects RX1 yX1_isCreptInto yX1_isCreptInto, Cond.code yX1_isCreptInto cX1_isCreptInto 3 (some .boolean), Cond.fieldLink RX1 9 "SedgeBarges$Beds" "place" "[I", Cond.methodLink RX1 72 Lib.Math.abs.name, Cond.static Lib.Math.abs.name, Cond.code Lib.Math.abs.name Lib.Math.abs.code 1 (some .int)]
def wsL_pass : List Cond := .codeWith yL_pass cL_pass 4 (some .int) [(0, 9, 12, 15)] :: ((wsL_pass_r1 ++ (wsL_pass_r2 ++ (wsL_pass_r3 ++ wsL_pass_r4))) ++ wsX40 ++ wsX30 ++ wsX00 ++ wsX10 ++ wsX20 ++ (vx_atS RX4 27 "java/lang/IllegalArgumentException" ["java/lang/RuntimeException", "java/lang/Exception"]).filter goodWord)
def wsL_foresee_r1 : List Cond := [Cond.classLink RL 15 "java/lang/IllegalArgumentException", Cond.classLink RL 13 "java/lang/IndexOutOfBoundsException", Cond.methodLink RL 66 yX4_foresee, Cond.instanceMethod yX4_foresee, Cond.selects RX4 yX4_foresee yX4_foresee, Cond.initialized RX4, Cond.code yX4_foresee cX4_foresee 3 (some .int), Cond.classLink RX4 161 "java/lang/IndexOutOfBoundsException", Cond.initialized "java/lang/IndexOutOfBoundsException", Cond.fieldLink RX4 16 "SedgeBarges" "ahead" "LSedgeBarges$Waterway;", Cond.fieldLink RX4 10 "SedgeBarges" "now" "LSedgeBarges$Waterway;", Cond.methodLink RX4 158 yX4_needDays, Cond.static yX4_needDays, Cond.code yX4_needDays cX4_needDays 1 none, Cond.classLink RX4 23 "java/lang/IllegalArgumentException", Cond.initialized "java/lang/IllegalArgumentException", Cond.methodLink RX4 144 yX3_copyFrom, Cond.instanceMethod yX3_copyFrom, Cond.selects RX3 yX3_copyFrom yX3_copyFrom, Cond.initialized RX3, Cond.code yX3_copyFrom cX3_copyFrom 2 none, Cond.fieldLink RX3 39 "SedgeBarges$Waterway" "day" "I", Cond.fieldLink RX3 9 "SedgeBarges$Waterway" "coins" "I", Cond.fieldLink RX3 15 "SedgeBarges$Waterway" "ties" "I"]
def wsL_foresee_r2 : List Cond := [Cond.fieldLink RX3 42 "SedgeBarges$Waterway" "rotted" "I", Cond.fieldLink RX3 21 "SedgeBarges$Waterway" "beds" "LSedgeBarges$Beds;", Cond.fieldLink RX3 28 "SedgeBarges$Waterway" "barges" "LSedgeBarges$Barges;", Cond.fieldLink RX3 35 "SedgeBarges$Waterway" "landings" "LSedgeBarges$Landings;", Cond.methodLink RX3 45 yX1_copyFrom, Cond.instanceMethod yX1_copyFrom, Cond.selects RX1 yX1_copyFrom yX1_copyFrom, Cond.initialized RX1, Cond.code yX1_copyFrom cX1_copyFrom 3 none, Cond.fieldLink RX1 39 "SedgeBarges$Beds" "number" "I", Cond.fieldLink RX1 9 "SedgeBarges$Beds" "place" "[I", Cond.fieldLink RX1 15 "SedgeBarges$Beds" "size" "[I", Cond.fieldLink RX1 18 "SedgeBarges$Beds" "age" "[I", Cond.fieldLink RX1 21 "SedgeBarges$Beds" "sedge" "[I", Cond.fieldLink RX1 24 "SedgeBarges$Beds" "untiedSedge" "[I", Cond.fieldLink RX1 27 "SedgeBarges$Beds" "untiedReed" "[I", Cond.fieldLink RX1 30 "SedgeBarges$Beds" "tiedSedge" "[I", Cond.fieldLink RX1 33 "SedgeBarges$Beds" "tiedReed" "[I", Cond.methodLink RX3 49 yX0_copyFrom, Cond.instanceMethod yX0_copyFrom, Cond.selects RX0 yX0_copyFrom yX0_copyFrom, Cond.initialized RX0, Cond.code yX0_copyFrom cX0_copyFrom 3 none, Cond.fieldLink RX0 27 "SedgeBarges$Barges" "number" "I"]
def wsL_foresee_r3 : List Cond := [Cond.fieldLink RX0 9 "SedgeBarges$Barges" "place" "[I", Cond.fieldLink RX0 15 "SedgeBarges$Barges" "goal" "[I", Cond.fieldLink RX0 18 "SedgeBarges$Barges" "sedge" "[I", Cond.fieldLink RX0 21 "SedgeBarges$Barges" "reed" "[I", Cond.fieldLink RX0 24 "SedgeBarges$Barges" "brought" "[I", Cond.methodLink RX3 52 yX2_copyFrom, Cond.instanceMethod yX2_copyFrom, Cond.selects RX2 yX2_copyFrom yX2_copyFrom, Cond.initialized RX2, Cond.code yX2_copyFrom cX2_copyFrom 3 none, Cond.fieldLink RX2 9 "SedgeBarges$Landings" "store" "[I", Cond.methodLink RX4 150 yX3_passDays, Cond.instanceMethod yX3_passDays, Cond.selects RX3 yX3_passDays yX3_passDays, Cond.code yX3_passDays cX3_passDays 4 (some .int), Cond.methodLink RX3 90 yX3_passDay, Cond.instanceMethod yX3_passDay, Cond.selects RX3 yX3_passDay yX3_passDay, Cond.code yX3_passDay cX3_passDay 1 none, Cond.methodLink RX3 93 yX0_sailOn, Cond.instanceMethod yX0_sailOn, Cond.selects RX0 yX0_sailOn yX0_sailOn, Cond.code yX0_sailOn cX0_sailOn 3 none, Cond.methodLink RX0 37 Lib.Math.min.name]
def wsL_foresee_r4 : List Cond := [Cond.static Lib.Math.min.name, Cond.initialized "java/lang/Math", Cond.code Lib.Math.min.name Lib.Math.min.code 2 (some .int), Cond.methodLink RX0 41 Lib.Math.max.name, Cond.static Lib.Math.max.name, Cond.code Lib.Math.max.name Lib.Math.max.code 2 (some .int), Cond.methodLink RX3 96 yX1_rot, Cond.instanceMethod yX1_rot, Cond.selects RX1 yX1_rot yX1_rot, Cond.code yX1_rot cX1_rot 5 (some .int), Cond.static yX4_tenthRoundedUp, Cond.code yX4_tenthRoundedUp cX4_tenthRoundedUp 1 (some .int), Cond.methodLink RX3 100 yX2_thatch, Cond.instanceMethod yX2_thatch, Cond.selects RX2 yX2_thatch yX2_thatch, Cond.code yX2_thatch cX2_thatch 2 none, Cond.static yX4_twentiethRoundedUp, Cond.code yX4_twentiethRoundedUp cX4_twentiethRoundedUp 1 (some .int), Cond.methodLink RX3 103 yX1_endYear, Cond.instanceMethod yX1_endYear, Cond.selects RX1 yX1_endYear yX1_endYear, Cond.code yX1_endYear cX1_endYear 2 none, Cond.fieldLink RX1 36 "SedgeBarges$Beds" "change" "[I", Cond.methodLink RX1 53 Lib.Math.min.name]
def wsL_foresee_r5 : List Cond := [Cond.methodLink RX1 69 Lib.Math.max.name, Cond.methodLink RX1 62 yX1_changeByAge, Cond.static yX1_changeByAge, Cond.code yX1_changeByAge cX1_changeByAge 1 (some .int), Cond.methodLink RX1 65 yX1_isCreptInto, Cond.instanceMethod yX1_isCreptInto, Cond.selects RX1 yX1_isCreptInto yX1_isCreptInto, Cond.code yX1_isCreptInto cX1_isCreptInto 3 (some .boolean), Cond.methodLink RX1 72 Lib.Math.abs.name, Cond.static Lib.Math.abs.name, Cond.code Lib.Math.abs.name Lib.Math.abs.code 1 (some .int), Cond.methodLink RX4 156 yX3_tell, Cond.instanceMethod yX3_tell, Cond.selects RX3 yX3_tell yX3_tell, Cond.code yX3_tell cX3_tell 2 (some .int), Cond.methodLink RX3 109 yX1_givenByAll, Cond.instanceMethod yX1_givenByAll, Cond.selects RX1 yX1_givenByAll yX1_givenByAll, Cond.code yX1_givenByAll cX1_givenByAll 3 (some .int), Cond.methodLink RX1 46 yX1_given, Cond.instanceMethod yX1_given, Cond.selects RX1 yX1_given yX1_given, Cond.code yX1_given cX1_given 4 (some .int), Cond.methodLink RX3 112 yX1_untiedOfAll]
def wsL_foresee_r6 : List Cond := [Cond.instanceMethod yX1_untiedOfAll, Cond.selects RX1 yX1_untiedOfAll yX1_untiedOfAll, Cond.code yX1_untiedOfAll cX1_untiedOfAll 3 (some .int), Cond.methodLink RX3 115 yX1_tiedOfAll, Cond.instanceMethod yX1_tiedOfAll, Cond.selects RX1 yX1_tiedOfAll yX1_tiedOfAll, Cond.code yX1_tiedOfAll cX1_tiedOfAll 3 (some .int), Cond.methodLink RX3 119 yX0_aboardAll, Cond.instanceMethod yX0_aboardAll, Cond.selects RX0 yX0_aboardAll yX0_aboardAll, Cond.code yX0_aboardAll cX0_aboardAll 3 (some .int), Cond.methodLink RX0 47 yX0_aboard, Cond.instanceMethod yX0_aboard, Cond.selects RX0 yX0_aboard yX0_aboard, Cond.code yX0_aboard cX0_aboard 2 (some .int), Cond.methodLink RX3 122 yX2_storeOfAll, Cond.instanceMethod yX2_storeOfAll, Cond.selects RX2 yX2_storeOfAll yX2_storeOfAll, Cond.code yX2_storeOfAll cX2_storeOfAll 3 (some .int)]
def wsL_foresee : List Cond := .codeWith yL_foresee cL_foresee 5 (some .int) [(0, 10, 13, 15), (0, 10, 17, 13)] :: ((wsL_foresee_r1 ++ (wsL_foresee_r2 ++ (wsL_foresee_r3 ++ (wsL_foresee_r4 ++ (wsL_foresee_r5 ++ wsL_foresee_r6))))) ++ wsX40 ++ wsX30 ++ wsX10 ++ wsX00 ++ wsX20 ++ (vx_atS RX4 165 "java/lang/IndexOutOfBoundsException" ["java/lang/RuntimeException", "java/lang/Exception"]).filter goodWord ++ (vx_atS RX4 27 "java/lang/IllegalArgumentException" ["java/lang/RuntimeException", "java/lang/Exception"]).filter goodWord)
def wsL_law0_r1 : List Cond := [Cond.classLink RL 8 RX4, Cond.instantiable RX4 2, Cond.initialized RX4, Cond.classLink RL 70 RX5, Cond.instantiable RX5 14, Cond.initialized RX5, Cond.arrayClass .long, Cond.methodLink RL 69 yX4_init, Cond.instanceMethod yX4_init, Cond.code yX4_init cX4_init 1 none, Cond.methodLink RX4 1 objectInit, Cond.instanceMethod objectInit, Cond.code objectInit ⟨#[0xb1]⟩ 1 none, Cond.classLink RX4 7 RX3, Cond.instantiable RX3 7, Cond.initialized RX3, Cond.fieldLink RX4 10 "SedgeBarges" "now" "LSedgeBarges$Waterway;", Cond.fieldLink RX4 16 "SedgeBarges" "ahead" "LSedgeBarges$Waterway;", Cond.instanceMethod yX3_init, Cond.code yX3_init cX3_init 1 none, Cond.methodLink RX3 3 objectInit, Cond.fieldLink RX3 9 "SedgeBarges$Waterway" "coins" "I", Cond.fieldLink RX3 15 "SedgeBarges$Waterway" "ties" "I", Cond.classLink RX3 18 RX1]
def wsL_law0_r2 : List Cond := [Cond.instantiable RX1 10, Cond.initialized RX1, Cond.fieldLink RX3 21 "SedgeBarges$Waterway" "beds" "LSedgeBarges$Beds;", Cond.classLink RX3 25 RX0, Cond.instantiable RX0 6, Cond.initialized RX0, Cond.fieldLink RX3 28 "SedgeBarges$Waterway" "barges" "LSedgeBarges$Barges;", Cond.classLink RX3 32 RX2, Cond.instantiable RX2 1, Cond.initialized RX2, Cond.fieldLink RX3 35 "SedgeBarges$Waterway" "landings" "LSedgeBarges$Landings;", Cond.instanceMethod yX1_init, Cond.code yX1_init cX1_init 1 none, Cond.methodLink RX1 3 objectInit, Cond.arrayClass .int, Cond.fieldLink RX1 9 "SedgeBarges$Beds" "place" "[I", Cond.fieldLink RX1 15 "SedgeBarges$Beds" "size" "[I", Cond.fieldLink RX1 18 "SedgeBarges$Beds" "age" "[I", Cond.fieldLink RX1 21 "SedgeBarges$Beds" "sedge" "[I", Cond.fieldLink RX1 24 "SedgeBarges$Beds" "untiedSedge" "[I", Cond.fieldLink RX1 27 "SedgeBarges$Beds" "untiedReed" "[I", Cond.fieldLink RX1 30 "SedgeBarges$Beds" "tiedSedge" "[I", Cond.fieldLink RX1 33 "SedgeBarges$Beds" "tiedReed" "[I", Cond.fieldLink RX1 36 "SedgeBarges$Beds" "change" "[I"]
def wsL_law0_r3 : List Cond := [Cond.instanceMethod yX0_init, Cond.code yX0_init cX0_init 1 none, Cond.methodLink RX0 3 objectInit, Cond.fieldLink RX0 9 "SedgeBarges$Barges" "place" "[I", Cond.fieldLink RX0 15 "SedgeBarges$Barges" "goal" "[I", Cond.fieldLink RX0 18 "SedgeBarges$Barges" "sedge" "[I", Cond.fieldLink RX0 21 "SedgeBarges$Barges" "reed" "[I", Cond.fieldLink RX0 24 "SedgeBarges$Barges" "brought" "[I", Cond.instanceMethod yX2_init, Cond.code yX2_init cX2_init 1 none, Cond.methodLink RX2 3 objectInit, Cond.fieldLink RX2 9 "SedgeBarges$Landings" "store" "[I", Cond.methodLink RL 72 yX5_init, Cond.instanceMethod yX5_init, Cond.code yX5_init cX5_init 1 none, Cond.methodLink RX5 1 objectInit, Cond.fieldLink RX5 7 "SedgeBargesModel" "coins" "I", Cond.fieldLink RX5 13 "SedgeBargesModel" "ties" "I", Cond.fieldLink RX5 16 "SedgeBargesModel" "b" "[I", Cond.fieldLink RX5 20 "SedgeBargesModel" "g" "[I", Cond.fieldLink RX5 23 "SedgeBargesModel" "store" "[I", Cond.fieldLink RX5 26 "SedgeBargesModel" "bAhead" "[I", Cond.fieldLink RX5 29 "SedgeBargesModel" "gAhead" "[I", Cond.fieldLink RX5 32 "SedgeBargesModel" "storeAhead" "[I"]
def wsL_law0_r4 : List Cond := [Cond.fieldLink RX5 35 "SedgeBargesModel" "more" "[I", Cond.methodLink RL 73 yL_bed, Cond.static yL_bed, Cond.initialized RL, Cond.codeWith yL_bed cL_bed 6 (some .int) [(0, 12, 15, 13), (0, 12, 19, 15), (0, 12, 23, 17)], Cond.classLink RL 13 "java/lang/IndexOutOfBoundsException", Cond.classLink RL 15 "java/lang/IllegalArgumentException", Cond.classLink RL 17 "java/lang/IllegalStateException", Cond.methodLink RL 7 yX4_bed, Cond.instanceMethod yX4_bed, Cond.selects RX4 yX4_bed yX4_bed, Cond.code yX4_bed cX4_bed 4 (some .int), Cond.classLink RX4 23 "java/lang/IllegalArgumentException", Cond.initialized "java/lang/IllegalArgumentException", Cond.classLink RX4 42 "java/lang/IllegalStateException", Cond.initialized "java/lang/IllegalStateException", Cond.methodLink RX4 19 yX4_needPlace, Cond.static yX4_needPlace, Cond.code yX4_needPlace cX4_needPlace 1 none, Cond.classLink RX4 161 "java/lang/IndexOutOfBoundsException", Cond.initialized "java/lang/IndexOutOfBoundsException", Cond.methodLink RX4 36 yX1_areFull, Cond.instanceMethod yX1_areFull, Cond.selects RX1 yX1_areFull yX1_areFull]
def wsL_law0_r5 : List Cond := [Cond.code yX1_areFull cX1_areFull 1 (some .boolean), Cond.fieldLink RX1 39 "SedgeBarges$Beds" "number" "I", Cond.methodLink RX4 47 yX1_add, Cond.instanceMethod yX1_add, Cond.selects RX1 yX1_add yX1_add, Cond.code yX1_add cX1_add 5 (some .int), Cond.methodLink RL 78 yX5_bed, Cond.instanceMethod yX5_bed, Cond.selects RX5 yX5_bed yX5_bed, Cond.code yX5_bed cX5_bed 5 (some .int), Cond.fieldLink RX5 38 "SedgeBargesModel" "thrown" "I", Cond.fieldLink RX5 41 "SedgeBargesModel" "beds" "I", Cond.methodLink RX5 44 yX5_isIn, Cond.static yX5_isIn, Cond.code yX5_isIn cX5_isIn 3 (some .boolean), Cond.methodLink RX5 58 yX5_no, Cond.instanceMethod yX5_no, Cond.selects RX5 yX5_no yX5_no, Cond.code yX5_no cX5_no 2 (some .int), Cond.methodLink RL 79 yX5_thrown, Cond.instanceMethod yX5_thrown, Cond.selects RX5 yX5_thrown yX5_thrown, Cond.code yX5_thrown cX5_thrown 1 (some .int), Cond.methodLink RL 83 yL_cut]
def wsL_law0_r6 : List Cond := [Cond.static yL_cut, Cond.codeWith yL_cut cL_cut 4 (some .int) [(0, 9, 12, 13), (0, 9, 15, 17)], Cond.methodLink RL 19 yX4_cut, Cond.instanceMethod yX4_cut, Cond.selects RX4 yX4_cut yX4_cut, Cond.code yX4_cut cX4_cut 2 (some .int), Cond.methodLink RX4 51 yX4_needBed, Cond.instanceMethod yX4_needBed, Cond.selects RX4 yX4_needBed yX4_needBed, Cond.code yX4_needBed cX4_needBed 2 none, Cond.methodLink RX4 60 yX1_cutDown, Cond.instanceMethod yX1_cutDown, Cond.selects RX1 yX1_cutDown yX1_cutDown, Cond.code yX1_cutDown cX1_cutDown 4 (some .int), Cond.methodLink RX1 46 yX1_given, Cond.instanceMethod yX1_given, Cond.selects RX1 yX1_given yX1_given, Cond.code yX1_given cX1_given 4 (some .int), Cond.methodLink RX1 50 yX1_sedgeGiven, Cond.instanceMethod yX1_sedgeGiven, Cond.selects RX1 yX1_sedgeGiven yX1_sedgeGiven, Cond.code yX1_sedgeGiven cX1_sedgeGiven 2 (some .int), Cond.methodLink RL 86 yX5_cut, Cond.instanceMethod yX5_cut]
def wsL_law0_r7 : List Cond := [Cond.selects RX5 yX5_cut yX5_cut, Cond.code yX5_cut cX5_cut 5 (some .int), Cond.methodLink RX5 62 yX5_isBed, Cond.instanceMethod yX5_isBed, Cond.selects RX5 yX5_isBed yX5_isBed, Cond.code yX5_isBed cX5_isBed 2 (some .boolean), Cond.methodLink RX5 54 yX5_gives, Cond.static yX5_gives, Cond.code yX5_gives cX5_gives 2 (some .int), Cond.fieldLink RX5 51 "SedgeBargesModel" "GROWTH" "[I", Cond.methodLink RX5 66 yX5_givesSedge, Cond.static yX5_givesSedge, Cond.code yX5_givesSedge cX5_givesSedge 2 (some .int), Cond.methodLink RL 87 yL_tie, Cond.static yL_tie, Cond.codeWith yL_tie cL_tie 4 (some .int) [(0, 9, 12, 13)], Cond.methodLink RL 23 yX4_tie, Cond.instanceMethod yX4_tie, Cond.selects RX4 yX4_tie yX4_tie, Cond.code yX4_tie cX4_tie 3 (some .int), Cond.methodLink RX4 68 yX1_tieUp, Cond.instanceMethod yX1_tieUp, Cond.selects RX1 yX1_tieUp yX1_tieUp, Cond.code yX1_tieUp cX1_tieUp 5 (some .int)]
def wsL_law0_r8 : List Cond := [Cond.methodLink RX1 53 Lib.Math.min.name, Cond.static Lib.Math.min.name, Cond.initialized "java/lang/Math", Cond.code Lib.Math.min.name Lib.Math.min.code 2 (some .int), Cond.methodLink RL 89 yX5_tie, Cond.instanceMethod yX5_tie, Cond.selects RX5 yX5_tie yX5_tie, Cond.code yX5_tie cX5_tie 2 (some .int), Cond.methodLink RX5 69 yX5_tieOf, Cond.instanceMethod yX5_tieOf, Cond.selects RX5 yX5_tieOf yX5_tieOf, Cond.code yX5_tieOf cX5_tieOf 4 (some .int), Cond.methodLink RX5 73 Lib.Math.min.name, Cond.methodLink RL 90 yL_buy, Cond.static yL_buy, Cond.codeWith yL_buy cL_buy 4 (some .int) [(0, 9, 12, 15), (0, 9, 15, 17)], Cond.methodLink RL 26 yX4_buy, Cond.instanceMethod yX4_buy, Cond.selects RX4 yX4_buy yX4_buy, Cond.code yX4_buy cX4_buy 3 (some .int), Cond.methodLink RX4 74 yX4_tenthRoundedUp, Cond.static yX4_tenthRoundedUp, Cond.code yX4_tenthRoundedUp cX4_tenthRoundedUp 1 (some .int), Cond.methodLink RL 92 yX5_buy]
def wsL_law0_r9 : List Cond := [Cond.instanceMethod yX5_buy, Cond.selects RX5 yX5_buy yX5_buy, Cond.code yX5_buy cX5_buy 2 (some .int), Cond.methodLink RL 93 yL_about, Cond.static yL_about, Cond.codeWith yL_about cL_about 5 (some .int) [(0, 10, 13, 13)], Cond.methodLink RL 29 yX4_about, Cond.instanceMethod yX4_about, Cond.selects RX4 yX4_about yX4_about, Cond.code yX4_about cX4_about 3 (some .int), Cond.methodLink RX4 82 yX4_needFigure, Cond.static yX4_needFigure, Cond.code yX4_needFigure cX4_needFigure 2 none, Cond.methodLink RX4 86 yX1_tell, Cond.instanceMethod yX1_tell, Cond.selects RX1 yX1_tell yX1_tell, Cond.code yX1_tell cX1_tell 3 (some .int), Cond.methodLink RL 96 yX5_about, Cond.instanceMethod yX5_about, Cond.selects RX5 yX5_about yX5_about, Cond.code yX5_about cX5_about 3 (some .int), Cond.methodLink RX5 78 yX5_bedTold, Cond.instanceMethod yX5_bedTold, Cond.selects RX5 yX5_bedTold yX5_bedTold]
def wsL_law0_r10 : List Cond := [Cond.code yX5_bedTold cX5_bedTold 4 (some .int), Cond.methodLink RL 97 yL_best, Cond.static yL_best, Cond.codeWith yL_best cL_best 4 (some .int) [(0, 9, 12, 13)], Cond.methodLink RL 33 yX4_best, Cond.instanceMethod yX4_best, Cond.selects RX4 yX4_best yX4_best, Cond.code yX4_best cX4_best 6 (some .int), Cond.methodLink RX4 89 yX1_copyFrom, Cond.instanceMethod yX1_copyFrom, Cond.selects RX1 yX1_copyFrom yX1_copyFrom, Cond.code yX1_copyFrom cX1_copyFrom 3 none, Cond.methodLink RX4 93 yX1_sedgeGiven, Cond.methodLink RX4 96 yX1_endYear, Cond.instanceMethod yX1_endYear, Cond.selects RX1 yX1_endYear yX1_endYear, Cond.code yX1_endYear cX1_endYear 2 none, Cond.methodLink RX1 69 Lib.Math.max.name, Cond.static Lib.Math.max.name, Cond.code Lib.Math.max.name Lib.Math.max.code 2 (some .int), Cond.methodLink RX1 62 yX1_changeByAge, Cond.static yX1_changeByAge, Cond.code yX1_changeByAge cX1_changeByAge 1 (some .int), Cond.methodLink RX1 65 yX1_isCreptInto]
def wsL_law0_r11 : List Cond := [Cond.instanceMethod yX1_isCreptInto, Cond.selects RX1 yX1_isCreptInto yX1_isCreptInto, Cond.code yX1_isCreptInto cX1_isCreptInto 3 (some .boolean), Cond.methodLink RX1 72 Lib.Math.abs.name, Cond.static Lib.Math.abs.name, Cond.code Lib.Math.abs.name Lib.Math.abs.code 1 (some .int), Cond.methodLink RL 99 yX5_best, Cond.instanceMethod yX5_best, Cond.selects RX5 yX5_best yX5_best, Cond.code yX5_best cX5_best 6 (some .int), Cond.methodLink RX5 81 yX5_lookAhead, Cond.instanceMethod yX5_lookAhead, Cond.selects RX5 yX5_lookAhead yX5_lookAhead, Cond.code yX5_lookAhead cX5_lookAhead 1 none, Cond.methodLink RX5 158 arraycopyName, Cond.native arraycopyName, Cond.static arraycopyName, Cond.initialized "java/lang/System", Cond.methodLink RX5 84 yX5_endYear, Cond.instanceMethod yX5_endYear, Cond.selects RX5 yX5_endYear yX5_endYear, Cond.code yX5_endYear cX5_endYear 4 none, Cond.methodLink RX5 110 Lib.Math.max.name, Cond.methodLink RX5 137 yX5_hasReedBeside]
def wsL_law0_r12 : List Cond := [Cond.instanceMethod yX5_hasReedBeside, Cond.selects RX5 yX5_hasReedBeside yX5_hasReedBeside, Cond.code yX5_hasReedBeside cX5_hasReedBeside 5 (some .boolean), Cond.methodLink RX5 88 Lib.Math.abs.name, Cond.methodLink RL 100 yL_barge, Cond.static yL_barge, Cond.codeWith yL_barge cL_barge 4 (some .int) [(0, 9, 12, 13), (0, 9, 15, 17)], Cond.methodLink RL 36 yX4_barge, Cond.instanceMethod yX4_barge, Cond.selects RX4 yX4_barge yX4_barge, Cond.code yX4_barge cX4_barge 2 (some .int), Cond.methodLink RX4 103 yX0_areFull, Cond.instanceMethod yX0_areFull, Cond.selects RX0 yX0_areFull yX0_areFull, Cond.code yX0_areFull cX0_areFull 1 (some .boolean), Cond.fieldLink RX0 27 "SedgeBarges$Barges" "number" "I", Cond.methodLink RX4 108 yX0_add, Cond.instanceMethod yX0_add, Cond.selects RX0 yX0_add yX0_add, Cond.code yX0_add cX0_add 3 (some .int), Cond.methodLink RL 102 yX5_barge, Cond.instanceMethod yX5_barge, Cond.selects RX5 yX5_barge yX5_barge, Cond.code yX5_barge cX5_barge 2 (some .int)]
def wsL_law0_r13 : List Cond := [Cond.fieldLink RX5 48 "SedgeBargesModel" "barges" "I", Cond.methodLink RL 103 yL_sail, Cond.static yL_sail, Cond.codeWith yL_sail cL_sail 5 (some .int) [(0, 10, 13, 13)], Cond.methodLink RL 39 yX4_sail, Cond.instanceMethod yX4_sail, Cond.selects RX4 yX4_sail yX4_sail, Cond.code yX4_sail cX4_sail 3 (some .int), Cond.methodLink RX4 110 yX4_needBarge, Cond.instanceMethod yX4_needBarge, Cond.selects RX4 yX4_needBarge yX4_needBarge, Cond.code yX4_needBarge cX4_needBarge 2 none, Cond.methodLink RX4 113 yX0_send, Cond.instanceMethod yX0_send, Cond.selects RX0 yX0_send yX0_send, Cond.code yX0_send cX0_send 4 (some .int), Cond.methodLink RX0 31 Lib.Math.abs.name, Cond.methodLink RL 105 yX5_sail, Cond.instanceMethod yX5_sail, Cond.selects RX5 yX5_sail yX5_sail, Cond.code yX5_sail cX5_sail 4 (some .int), Cond.methodLink RX5 91 yX5_isBarge, Cond.instanceMethod yX5_isBarge, Cond.selects RX5 yX5_isBarge yX5_isBarge]
def wsL_law0_r14 : List Cond := [Cond.code yX5_isBarge cX5_isBarge 2 (some .boolean), Cond.methodLink RX5 94 yX5_days, Cond.static yX5_days, Cond.code yX5_days cX5_days 2 (some .int), Cond.methodLink RL 106 yL_load, Cond.static yL_load, Cond.codeWith yL_load cL_load 5 (some .int) [(0, 10, 13, 13), (0, 10, 17, 17)], Cond.methodLink RL 42 yX4_load, Cond.instanceMethod yX4_load, Cond.selects RX4 yX4_load yX4_load, Cond.code yX4_load cX4_load 3 (some .int), Cond.methodLink RX4 122 yX3_takeAboard, Cond.instanceMethod yX3_takeAboard, Cond.selects RX3 yX3_takeAboard yX3_takeAboard, Cond.code yX3_takeAboard cX3_takeAboard 6 (some .int), Cond.methodLink RX3 63 Lib.Math.min.name, Cond.methodLink RX3 55 yX0_aboard, Cond.instanceMethod yX0_aboard, Cond.selects RX0 yX0_aboard yX0_aboard, Cond.code yX0_aboard cX0_aboard 2 (some .int), Cond.methodLink RL 108 yX5_load, Cond.instanceMethod yX5_load, Cond.selects RX5 yX5_load yX5_load, Cond.code yX5_load cX5_load 3 (some .int)]
def wsL_law0_r15 : List Cond := [Cond.methodLink RX5 97 yX5_loadOf, Cond.instanceMethod yX5_loadOf, Cond.selects RX5 yX5_loadOf yX5_loadOf, Cond.code yX5_loadOf cX5_loadOf 5 (some .int), Cond.methodLink RX5 101 yX5_aboard, Cond.instanceMethod yX5_aboard, Cond.selects RX5 yX5_aboard yX5_aboard, Cond.code yX5_aboard cX5_aboard 2 (some .int), Cond.methodLink RL 109 yL_sell, Cond.static yL_sell, Cond.codeWith yL_sell cL_sell 4 (some .int) [(0, 9, 12, 13), (0, 9, 15, 17)], Cond.methodLink RL 45 yX4_sell, Cond.instanceMethod yX4_sell, Cond.selects RX4 yX4_sell yX4_sell, Cond.code yX4_sell cX4_sell 3 (some .int), Cond.methodLink RX4 125 yX4_landingAt, Cond.static yX4_landingAt, Cond.code yX4_landingAt cX4_landingAt 2 (some .int), Cond.fieldLink RX4 147 "SedgeBarges" "LANDING_PLACE" "[I", Cond.methodLink RX4 130 yX3_sellAll, Cond.instanceMethod yX3_sellAll, Cond.selects RX3 yX3_sellAll yX3_sellAll, Cond.code yX3_sellAll cX3_sellAll 5 (some .int), Cond.methodLink RX3 78 yX2_sedgePrice]
def wsL_law0_r16 : List Cond := [Cond.instanceMethod yX2_sedgePrice, Cond.selects RX2 yX2_sedgePrice yX2_sedgePrice, Cond.code yX2_sedgePrice cX2_sedgePrice 2 (some .int), Cond.methodLink RX2 18 Lib.Math.max.name, Cond.methodLink RX3 81 yX2_reedPrice, Cond.instanceMethod yX2_reedPrice, Cond.selects RX2 yX2_reedPrice yX2_reedPrice, Cond.code yX2_reedPrice cX2_reedPrice 2 (some .int), Cond.methodLink RX2 24 yX2_sedgePrice, Cond.methodLink RL 111 yX5_sell, Cond.instanceMethod yX5_sell, Cond.selects RX5 yX5_sell yX5_sell, Cond.code yX5_sell cX5_sell 5 (some .int), Cond.methodLink RX5 119 yX5_landingAt, Cond.static yX5_landingAt, Cond.code yX5_landingAt cX5_landingAt 2 (some .int), Cond.fieldLink RX5 104 "SedgeBargesModel" "LANDING" "[I", Cond.methodLink RX5 122 yX5_brings, Cond.instanceMethod yX5_brings, Cond.selects RX5 yX5_brings yX5_brings, Cond.code yX5_brings cX5_brings 4 (some .int), Cond.methodLink RX5 113 yX5_price, Cond.static yX5_price, Cond.code yX5_price cX5_price 2 (some .int)]
def wsL_law0_r17 : List Cond := [Cond.fieldLink RX5 107 "SedgeBargesModel" "WORTH" "[I", Cond.methodLink RX5 116 yX5_reedPrice, Cond.static yX5_reedPrice, Cond.code yX5_reedPrice cX5_reedPrice 2 (some .int), Cond.methodLink RL 112 yL_told, Cond.static yL_told, Cond.codeWith yL_told cL_told 5 (some .int) [(0, 10, 13, 13)], Cond.methodLink RL 48 yX4_told, Cond.instanceMethod yX4_told, Cond.selects RX4 yX4_told yX4_told, Cond.code yX4_told cX4_told 3 (some .int), Cond.methodLink RX4 133 yX0_tell, Cond.instanceMethod yX0_tell, Cond.selects RX0 yX0_tell yX0_tell, Cond.code yX0_tell cX0_tell 3 (some .int), Cond.methodLink RL 114 yX5_told, Cond.instanceMethod yX5_told, Cond.selects RX5 yX5_told yX5_told, Cond.code yX5_told cX5_told 3 (some .int), Cond.methodLink RX5 125 yX5_bargeTold, Cond.instanceMethod yX5_bargeTold, Cond.selects RX5 yX5_bargeTold yX5_bargeTold, Cond.code yX5_bargeTold cX5_bargeTold 4 (some .int), Cond.methodLink RL 115 yL_landing]
def wsL_law0_r18 : List Cond := [Cond.static yL_landing, Cond.codeWith yL_landing cL_landing 5 (some .int) [(0, 10, 13, 13)], Cond.methodLink RL 51 yX4_landing, Cond.instanceMethod yX4_landing, Cond.selects RX4 yX4_landing yX4_landing, Cond.code yX4_landing cX4_landing 3 (some .int), Cond.methodLink RX4 134 yX4_needLanding, Cond.static yX4_needLanding, Cond.code yX4_needLanding cX4_needLanding 1 none, Cond.methodLink RX4 141 yX2_tell, Cond.instanceMethod yX2_tell, Cond.selects RX2 yX2_tell yX2_tell, Cond.code yX2_tell cX2_tell 3 (some .int), Cond.methodLink RX2 34 yX2_reedPrice, Cond.methodLink RL 117 yX5_landing, Cond.instanceMethod yX5_landing, Cond.selects RX5 yX5_landing yX5_landing, Cond.code yX5_landing cX5_landing 3 (some .int), Cond.methodLink RX5 128 yX5_landingTold, Cond.instanceMethod yX5_landingTold, Cond.selects RX5 yX5_landingTold yX5_landingTold, Cond.code yX5_landingTold cX5_landingTold 3 (some .int), Cond.methodLink RL 118 yL_would, Cond.static yL_would]
def wsL_law0_r19 : List Cond := [Cond.codeWith yL_would cL_would 5 (some .int) [(0, 10, 13, 13)], Cond.methodLink RL 54 yX4_would, Cond.instanceMethod yX4_would, Cond.selects RX4 yX4_would yX4_would, Cond.code yX4_would cX4_would 4 (some .int), Cond.methodLink RX4 144 yX3_copyFrom, Cond.instanceMethod yX3_copyFrom, Cond.selects RX3 yX3_copyFrom yX3_copyFrom, Cond.code yX3_copyFrom cX3_copyFrom 2 none, Cond.fieldLink RX3 39 "SedgeBarges$Waterway" "day" "I", Cond.fieldLink RX3 42 "SedgeBarges$Waterway" "rotted" "I", Cond.methodLink RX3 45 yX1_copyFrom, Cond.methodLink RX3 49 yX0_copyFrom, Cond.instanceMethod yX0_copyFrom, Cond.selects RX0 yX0_copyFrom yX0_copyFrom, Cond.code yX0_copyFrom cX0_copyFrom 3 none, Cond.methodLink RX3 52 yX2_copyFrom, Cond.instanceMethod yX2_copyFrom, Cond.selects RX2 yX2_copyFrom yX2_copyFrom, Cond.code yX2_copyFrom cX2_copyFrom 3 none, Cond.methodLink RX4 150 yX3_passDays, Cond.instanceMethod yX3_passDays, Cond.selects RX3 yX3_passDays yX3_passDays, Cond.code yX3_passDays cX3_passDays 4 (some .int)]
def wsL_law0_r20 : List Cond := [Cond.methodLink RX3 90 yX3_passDay, Cond.instanceMethod yX3_passDay, Cond.selects RX3 yX3_passDay yX3_passDay, Cond.code yX3_passDay cX3_passDay 1 none, Cond.methodLink RX3 93 yX0_sailOn, Cond.instanceMethod yX0_sailOn, Cond.selects RX0 yX0_sailOn yX0_sailOn, Cond.code yX0_sailOn cX0_sailOn 3 none, Cond.methodLink RX0 37 Lib.Math.min.name, Cond.methodLink RX0 41 Lib.Math.max.name, Cond.methodLink RX3 96 yX1_rot, Cond.instanceMethod yX1_rot, Cond.selects RX1 yX1_rot yX1_rot, Cond.code yX1_rot cX1_rot 5 (some .int), Cond.methodLink RX3 100 yX2_thatch, Cond.instanceMethod yX2_thatch, Cond.selects RX2 yX2_thatch yX2_thatch, Cond.code yX2_thatch cX2_thatch 2 none, Cond.static yX4_twentiethRoundedUp, Cond.code yX4_twentiethRoundedUp cX4_twentiethRoundedUp 1 (some .int), Cond.methodLink RX3 103 yX1_endYear, Cond.methodLink RL 120 yX5_would, Cond.instanceMethod yX5_would, Cond.selects RX5 yX5_would yX5_would]
def wsL_law0_r21 : List Cond := [Cond.code yX5_would cX5_would 3 (some .int), Cond.methodLink RX5 134 yX5_wouldBring, Cond.instanceMethod yX5_wouldBring, Cond.selects RX5 yX5_wouldBring yX5_wouldBring, Cond.code yX5_wouldBring cX5_wouldBring 5 (some .int), Cond.methodLink RX5 131 yX5_left, Cond.static yX5_left, Cond.code yX5_left cX5_left 1 (some .int), Cond.methodLink RL 121 yL_advise, Cond.static yL_advise, Cond.codeWith yL_advise cL_advise 4 (some .int) [(0, 9, 12, 13)], Cond.methodLink RL 57 yX4_advise, Cond.instanceMethod yX4_advise, Cond.selects RX4 yX4_advise yX4_advise, Cond.code yX4_advise cX4_advise 6 (some .int), Cond.methodLink RX4 153 yX4_would, Cond.methodLink RL 123 yX5_advise, Cond.instanceMethod yX5_advise, Cond.selects RX5 yX5_advise yX5_advise, Cond.code yX5_advise cX5_advise 4 (some .int), Cond.methodLink RL 124 yL_count, Cond.static yL_count, Cond.codeWith yL_count cL_count 4 (some .int) [(0, 9, 12, 13)], Cond.methodLink RL 60 yX4_count]
def wsL_law0_r22 : List Cond := [Cond.instanceMethod yX4_count, Cond.selects RX4 yX4_count yX4_count, Cond.code yX4_count cX4_count 2 (some .int), Cond.methodLink RX4 156 yX3_tell, Cond.instanceMethod yX3_tell, Cond.selects RX3 yX3_tell yX3_tell, Cond.code yX3_tell cX3_tell 2 (some .int), Cond.methodLink RX3 109 yX1_givenByAll, Cond.instanceMethod yX1_givenByAll, Cond.selects RX1 yX1_givenByAll yX1_givenByAll, Cond.code yX1_givenByAll cX1_givenByAll 3 (some .int), Cond.methodLink RX3 112 yX1_untiedOfAll, Cond.instanceMethod yX1_untiedOfAll, Cond.selects RX1 yX1_untiedOfAll yX1_untiedOfAll, Cond.code yX1_untiedOfAll cX1_untiedOfAll 3 (some .int), Cond.methodLink RX3 115 yX1_tiedOfAll, Cond.instanceMethod yX1_tiedOfAll, Cond.selects RX1 yX1_tiedOfAll yX1_tiedOfAll, Cond.code yX1_tiedOfAll cX1_tiedOfAll 3 (some .int), Cond.methodLink RX3 119 yX0_aboardAll, Cond.instanceMethod yX0_aboardAll, Cond.selects RX0 yX0_aboardAll yX0_aboardAll, Cond.code yX0_aboardAll cX0_aboardAll 3 (some .int), Cond.methodLink RX0 47 yX0_aboard]
def wsL_law0_r23 : List Cond := [Cond.methodLink RX3 122 yX2_storeOfAll, Cond.instanceMethod yX2_storeOfAll, Cond.selects RX2 yX2_storeOfAll yX2_storeOfAll, Cond.code yX2_storeOfAll cX2_storeOfAll 3 (some .int), Cond.methodLink RL 126 yX5_count, Cond.instanceMethod yX5_count, Cond.selects RX5 yX5_count yX5_count, Cond.code yX5_count cX5_count 2 (some .int), Cond.methodLink RX5 179 yX5_counted, Cond.instanceMethod yX5_counted, Cond.selects RX5 yX5_counted yX5_counted, Cond.code yX5_counted cX5_counted 2 (some .int), Cond.fieldLink RX5 148 "SedgeBargesModel" "day" "I", Cond.fieldLink RX5 155 "SedgeBargesModel" "rotted" "I", Cond.methodLink RX5 168 yX5_sum, Cond.instanceMethod yX5_sum, Cond.selects RX5 yX5_sum yX5_sum, Cond.code yX5_sum cX5_sum 5 (some .int), Cond.methodLink RX5 171 yX5_aboardAll, Cond.instanceMethod yX5_aboardAll, Cond.selects RX5 yX5_aboardAll yX5_aboardAll, Cond.code yX5_aboardAll cX5_aboardAll 3 (some .int), Cond.methodLink RX5 175 yX5_summed, Cond.instanceMethod yX5_summed]
def wsL_law0_r24 : List Cond := [Cond.selects RX5 yX5_summed yX5_summed, Cond.code yX5_summed cX5_summed 5 (some .int), Cond.methodLink RX5 164 yX5_giveAll, Cond.instanceMethod yX5_giveAll, Cond.selects RX5 yX5_giveAll yX5_giveAll, Cond.code yX5_giveAll cX5_giveAll 4 (some .int), Cond.methodLink RL 127 yL_pass, Cond.static yL_pass, Cond.codeWith yL_pass cL_pass 4 (some .int) [(0, 9, 12, 15)], Cond.methodLink RL 63 yX4_pass, Cond.instanceMethod yX4_pass, Cond.selects RX4 yX4_pass yX4_pass, Cond.code yX4_pass cX4_pass 2 (some .int), Cond.methodLink RX4 158 yX4_needDays, Cond.static yX4_needDays, Cond.code yX4_needDays cX4_needDays 1 none, Cond.methodLink RL 129 yX5_pass_, Cond.instanceMethod yX5_pass_, Cond.selects RX5 yX5_pass_ yX5_pass_, Cond.code yX5_pass_ cX5_pass_ 4 (some .int), Cond.methodLink RX5 151 yX5_pass, Cond.instanceMethod yX5_pass, Cond.selects RX5 yX5_pass yX5_pass, Cond.code yX5_pass cX5_pass 7 (some .int)]
def wsL_law0_r25 : List Cond := [Cond.methodLink RX5 141 yX5_sailOn, Cond.instanceMethod yX5_sailOn, Cond.selects RX5 yX5_sailOn yX5_sailOn, Cond.code yX5_sailOn cX5_sailOn 5 none, Cond.methodLink RX5 145 yX5_rot, Cond.static yX5_rot, Cond.code yX5_rot cX5_rot 3 (some .int), Cond.methodLink RL 130 yL_foresee, Cond.static yL_foresee, Cond.codeWith yL_foresee cL_foresee 5 (some .int) [(0, 10, 13, 15), (0, 10, 17, 13)], Cond.methodLink RL 66 yX4_foresee, Cond.instanceMethod yX4_foresee, Cond.selects RX4 yX4_foresee yX4_foresee, Cond.code yX4_foresee cX4_foresee 3 (some .int), Cond.methodLink RL 132 yX5_foresee, Cond.instanceMethod yX5_foresee, Cond.selects RX5 yX5_foresee yX5_foresee, Cond.code yX5_foresee cX5_foresee 5 (some .int), Cond.methodLink RL 133 yX4_mean, Cond.instanceMethod yX4_mean, Cond.selects RX4 yX4_mean yX4_mean, Cond.code yX4_mean cX4_mean 1 (some .double), Cond.methodLink RX4 169 yX1_sedgeOfAll, Cond.instanceMethod yX1_sedgeOfAll]
def wsL_law0_r26 : List Cond := [Cond.selects RX1 yX1_sedgeOfAll yX1_sedgeOfAll, Cond.code yX1_sedgeOfAll cX1_sedgeOfAll 3 (some .int), Cond.methodLink RL 137 yX5_mean, Cond.instanceMethod yX5_mean, Cond.selects RX5 yX5_mean yX5_mean, Cond.code yX5_mean cX5_mean 1 (some .double), Cond.methodLink RL 138 yX4_digest, Cond.instanceMethod yX4_digest, Cond.selects RX4 yX4_digest yX4_digest, Cond.code yX4_digest cX4_digest 5 (some .long), Cond.constantLong RX4 173 (1277), Cond.constantLong RX4 175 (31), Cond.methodLink RL 142 yX5_digest, Cond.instanceMethod yX5_digest, Cond.selects RX5 yX5_digest yX5_digest, Cond.code yX5_digest cX5_digest 4 (some .long), Cond.constantLong RX5 182 (1277), Cond.constantLong RX5 184 (31)]
def wsL_law0 : List Cond := (wsL_law0_r1 ++ (wsL_law0_r2 ++ (wsL_law0_r3 ++ (wsL_law0_r4 ++ (wsL_law0_r5 ++ (wsL_law0_r6 ++ (wsL_law0_r7 ++ (wsL_law0_r8 ++ (wsL_law0_r9 ++ (wsL_law0_r10 ++ (wsL_law0_r11 ++ (wsL_law0_r12 ++ (wsL_law0_r13 ++ (wsL_law0_r14 ++ (wsL_law0_r15 ++ (wsL_law0_r16 ++ (wsL_law0_r17 ++ (wsL_law0_r18 ++ (wsL_law0_r19 ++ (wsL_law0_r20 ++ (wsL_law0_r21 ++ (wsL_law0_r22 ++ (wsL_law0_r23 ++ (wsL_law0_r24 ++ (wsL_law0_r25 ++ wsL_law0_r26))))))))))))))))))))))))) ++ wsX40 ++ wsX50 ++ wsX30 ++ wsX10 ++ wsX00 ++ wsX20 ++ ([] : List Cond)
def wsL_law : List Cond := wsL_law0 ++ (vx_atS RX4 27 "java/lang/IllegalArgumentException" ["java/lang/RuntimeException", "java/lang/Exception"]).filter goodWord ++ (vx_atS RX4 46 "java/lang/IllegalStateException" ["java/lang/RuntimeException", "java/lang/Exception"]).filter goodWord ++ (vx_atS RX4 165 "java/lang/IndexOutOfBoundsException" ["java/lang/RuntimeException", "java/lang/Exception"]).filter goodWord
abbrev vwCl : List vw_C := [(RX0, TX0, 6), (RX1, TX1, 10), (RX2, TX2, 1), (RX3, TX3, 7), (RX4, TX4, 2), (RX5, TX5, 14)]
end
section
theorem dX0_init_0 : decode cX0_init 0 = .ok (.aload_n 0, 1) := by decide +kernel
theorem dX0_init_1 : decode cX0_init 1 = .ok (.invokespecial 3, 3) := by decide +kernel
theorem dX0_init_4 : decode cX0_init 4 = .ok (.aload_n 0, 1) := by decide +kernel
theorem dX0_init_5 : decode cX0_init 5 = .ok (.iconst 3, 1) := by decide +kernel
theorem dX0_init_6 : decode cX0_init 6 = .ok (.newarray .int, 2) := by decide +kernel
theorem dX0_init_8 : decode cX0_init 8 = .ok (.putfield 9, 3) := by decide +kernel
theorem dX0_init_11 : decode cX0_init 11 = .ok (.aload_n 0, 1) := by decide +kernel
theorem dX0_init_12 : decode cX0_init 12 = .ok (.iconst 3, 1) := by decide +kernel
theorem dX0_init_13 : decode cX0_init 13 = .ok (.newarray .int, 2) := by decide +kernel
theorem dX0_init_15 : decode cX0_init 15 = .ok (.putfield 15, 3) := by decide +kernel
theorem dX0_init_18 : decode cX0_init 18 = .ok (.aload_n 0, 1) := by decide +kernel
theorem dX0_init_19 : decode cX0_init 19 = .ok (.iconst 3, 1) := by decide +kernel
theorem dX0_init_20 : decode cX0_init 20 = .ok (.newarray .int, 2) := by decide +kernel
theorem dX0_init_22 : decode cX0_init 22 = .ok (.putfield 18, 3) := by decide +kernel
theorem dX0_init_25 : decode cX0_init 25 = .ok (.aload_n 0, 1) := by decide +kernel
theorem dX0_init_26 : decode cX0_init 26 = .ok (.iconst 3, 1) := by decide +kernel
theorem dX0_init_27 : decode cX0_init 27 = .ok (.newarray .int, 2) := by decide +kernel
theorem dX0_init_29 : decode cX0_init 29 = .ok (.putfield 21, 3) := by decide +kernel
theorem dX0_init_32 : decode cX0_init 32 = .ok (.aload_n 0, 1) := by decide +kernel
theorem dX0_init_33 : decode cX0_init 33 = .ok (.iconst 3, 1) := by decide +kernel
theorem dX0_init_34 : decode cX0_init 34 = .ok (.newarray .int, 2) := by decide +kernel
theorem dX0_init_36 : decode cX0_init 36 = .ok (.putfield 24, 3) := by decide +kernel
theorem dX0_init_39 : decode cX0_init 39 = .ok (.return_, 1) := by decide +kernel
theorem dX0_areFull_0 : decode cX0_areFull 0 = .ok (.aload_n 0, 1) := by decide +kernel
theorem dX0_areFull_1 : decode cX0_areFull 1 = .ok (.getfield 27, 3) := by decide +kernel
theorem dX0_areFull_4 : decode cX0_areFull 4 = .ok (.iconst 3, 1) := by decide +kernel
theorem dX0_areFull_5 : decode cX0_areFull 5 = .ok (.if_icmp .lt 7, 3) := by decide +kernel
theorem dX0_areFull_8 : decode cX0_areFull 8 = .ok (.iconst 1, 1) := by decide +kernel
theorem dX0_areFull_9 : decode cX0_areFull 9 = .ok (.goto 4, 3) := by decide +kernel
theorem dX0_areFull_12 : decode cX0_areFull 12 = .ok (.iconst 0, 1) := by decide +kernel
theorem dX0_areFull_13 : decode cX0_areFull 13 = .ok (.ireturn, 1) := by decide +kernel
theorem dX0_add_0 : decode cX0_add 0 = .ok (.aload_n 0, 1) := by decide +kernel
theorem dX0_add_1 : decode cX0_add 1 = .ok (.getfield 27, 3) := by decide +kernel
theorem dX0_add_4 : decode cX0_add 4 = .ok (.istore_n 2, 1) := by decide +kernel
theorem dX0_add_5 : decode cX0_add 5 = .ok (.aload_n 0, 1) := by decide +kernel
theorem dX0_add_6 : decode cX0_add 6 = .ok (.getfield 9, 3) := by decide +kernel
theorem dX0_add_9 : decode cX0_add 9 = .ok (.iload_n 2, 1) := by decide +kernel
theorem dX0_add_10 : decode cX0_add 10 = .ok (.iload_n 1, 1) := by decide +kernel
theorem dX0_add_11 : decode cX0_add 11 = .ok (.iastore, 1) := by decide +kernel
theorem dX0_add_12 : decode cX0_add 12 = .ok (.aload_n 0, 1) := by decide +kernel
theorem dX0_add_13 : decode cX0_add 13 = .ok (.getfield 15, 3) := by decide +kernel
theorem dX0_add_16 : decode cX0_add 16 = .ok (.iload_n 2, 1) := by decide +kernel
theorem dX0_add_17 : decode cX0_add 17 = .ok (.iconst (-1), 1) := by decide +kernel
theorem dX0_add_18 : decode cX0_add 18 = .ok (.iastore, 1) := by decide +kernel
theorem dX0_add_19 : decode cX0_add 19 = .ok (.aload_n 0, 1) := by decide +kernel
theorem dX0_add_20 : decode cX0_add 20 = .ok (.dup, 1) := by decide +kernel
theorem dX0_add_21 : decode cX0_add 21 = .ok (.getfield 27, 3) := by decide +kernel
theorem dX0_add_24 : decode cX0_add 24 = .ok (.iconst 1, 1) := by decide +kernel
theorem dX0_add_25 : decode cX0_add 25 = .ok (.iadd, 1) := by decide +kernel
theorem dX0_add_26 : decode cX0_add 26 = .ok (.putfield 27, 3) := by decide +kernel
theorem dX0_add_29 : decode cX0_add 29 = .ok (.iload_n 2, 1) := by decide +kernel
theorem dX0_add_30 : decode cX0_add 30 = .ok (.ireturn, 1) := by decide +kernel
theorem dX0_copyFrom_0 : decode cX0_copyFrom 0 = .ok (.aload_n 0, 1) := by decide +kernel
theorem dX0_copyFrom_1 : decode cX0_copyFrom 1 = .ok (.aload_n 1, 1) := by decide +kernel
theorem dX0_copyFrom_2 : decode cX0_copyFrom 2 = .ok (.getfield 27, 3) := by decide +kernel
theorem dX0_copyFrom_5 : decode cX0_copyFrom 5 = .ok (.putfield 27, 3) := by decide +kernel
theorem dX0_copyFrom_8 : decode cX0_copyFrom 8 = .ok (.iconst 0, 1) := by decide +kernel
theorem dX0_copyFrom_9 : decode cX0_copyFrom 9 = .ok (.istore_n 2, 1) := by decide +kernel
theorem dX0_copyFrom_10 : decode cX0_copyFrom 10 = .ok (.iload_n 2, 1) := by decide +kernel
theorem dX0_copyFrom_11 : decode cX0_copyFrom 11 = .ok (.aload_n 0, 1) := by decide +kernel
theorem dX0_copyFrom_12 : decode cX0_copyFrom 12 = .ok (.getfield 27, 3) := by decide +kernel
theorem dX0_copyFrom_15 : decode cX0_copyFrom 15 = .ok (.if_icmp .ge 69, 3) := by decide +kernel
theorem dX0_copyFrom_18 : decode cX0_copyFrom 18 = .ok (.aload_n 0, 1) := by decide +kernel
theorem dX0_copyFrom_19 : decode cX0_copyFrom 19 = .ok (.getfield 9, 3) := by decide +kernel
theorem dX0_copyFrom_22 : decode cX0_copyFrom 22 = .ok (.iload_n 2, 1) := by decide +kernel
theorem dX0_copyFrom_23 : decode cX0_copyFrom 23 = .ok (.aload_n 1, 1) := by decide +kernel
theorem dX0_copyFrom_24 : decode cX0_copyFrom 24 = .ok (.getfield 9, 3) := by decide +kernel
theorem dX0_copyFrom_27 : decode cX0_copyFrom 27 = .ok (.iload_n 2, 1) := by decide +kernel
theorem dX0_copyFrom_28 : decode cX0_copyFrom 28 = .ok (.iaload, 1) := by decide +kernel
theorem dX0_copyFrom_29 : decode cX0_copyFrom 29 = .ok (.iastore, 1) := by decide +kernel
theorem dX0_copyFrom_30 : decode cX0_copyFrom 30 = .ok (.aload_n 0, 1) := by decide +kernel
theorem dX0_copyFrom_31 : decode cX0_copyFrom 31 = .ok (.getfield 15, 3) := by decide +kernel
theorem dX0_copyFrom_34 : decode cX0_copyFrom 34 = .ok (.iload_n 2, 1) := by decide +kernel
theorem dX0_copyFrom_35 : decode cX0_copyFrom 35 = .ok (.aload_n 1, 1) := by decide +kernel
theorem dX0_copyFrom_36 : decode cX0_copyFrom 36 = .ok (.getfield 15, 3) := by decide +kernel
theorem dX0_copyFrom_39 : decode cX0_copyFrom 39 = .ok (.iload_n 2, 1) := by decide +kernel
theorem dX0_copyFrom_40 : decode cX0_copyFrom 40 = .ok (.iaload, 1) := by decide +kernel
theorem dX0_copyFrom_41 : decode cX0_copyFrom 41 = .ok (.iastore, 1) := by decide +kernel
theorem dX0_copyFrom_42 : decode cX0_copyFrom 42 = .ok (.aload_n 0, 1) := by decide +kernel
theorem dX0_copyFrom_43 : decode cX0_copyFrom 43 = .ok (.getfield 18, 3) := by decide +kernel
theorem dX0_copyFrom_46 : decode cX0_copyFrom 46 = .ok (.iload_n 2, 1) := by decide +kernel
theorem dX0_copyFrom_47 : decode cX0_copyFrom 47 = .ok (.aload_n 1, 1) := by decide +kernel
theorem dX0_copyFrom_48 : decode cX0_copyFrom 48 = .ok (.getfield 18, 3) := by decide +kernel
theorem dX0_copyFrom_51 : decode cX0_copyFrom 51 = .ok (.iload_n 2, 1) := by decide +kernel
theorem dX0_copyFrom_52 : decode cX0_copyFrom 52 = .ok (.iaload, 1) := by decide +kernel
theorem dX0_copyFrom_53 : decode cX0_copyFrom 53 = .ok (.iastore, 1) := by decide +kernel
theorem dX0_copyFrom_54 : decode cX0_copyFrom 54 = .ok (.aload_n 0, 1) := by decide +kernel
theorem dX0_copyFrom_55 : decode cX0_copyFrom 55 = .ok (.getfield 21, 3) := by decide +kernel
theorem dX0_copyFrom_58 : decode cX0_copyFrom 58 = .ok (.iload_n 2, 1) := by decide +kernel
theorem dX0_copyFrom_59 : decode cX0_copyFrom 59 = .ok (.aload_n 1, 1) := by decide +kernel
theorem dX0_copyFrom_60 : decode cX0_copyFrom 60 = .ok (.getfield 21, 3) := by decide +kernel
theorem dX0_copyFrom_63 : decode cX0_copyFrom 63 = .ok (.iload_n 2, 1) := by decide +kernel
theorem dX0_copyFrom_64 : decode cX0_copyFrom 64 = .ok (.iaload, 1) := by decide +kernel
theorem dX0_copyFrom_65 : decode cX0_copyFrom 65 = .ok (.iastore, 1) := by decide +kernel
theorem dX0_copyFrom_66 : decode cX0_copyFrom 66 = .ok (.aload_n 0, 1) := by decide +kernel
theorem dX0_copyFrom_67 : decode cX0_copyFrom 67 = .ok (.getfield 24, 3) := by decide +kernel
theorem dX0_copyFrom_70 : decode cX0_copyFrom 70 = .ok (.iload_n 2, 1) := by decide +kernel
theorem dX0_copyFrom_71 : decode cX0_copyFrom 71 = .ok (.aload_n 1, 1) := by decide +kernel
theorem dX0_copyFrom_72 : decode cX0_copyFrom 72 = .ok (.getfield 24, 3) := by decide +kernel
theorem dX0_copyFrom_75 : decode cX0_copyFrom 75 = .ok (.iload_n 2, 1) := by decide +kernel
theorem dX0_copyFrom_76 : decode cX0_copyFrom 76 = .ok (.iaload, 1) := by decide +kernel
theorem dX0_copyFrom_77 : decode cX0_copyFrom 77 = .ok (.iastore, 1) := by decide +kernel
theorem dX0_copyFrom_78 : decode cX0_copyFrom 78 = .ok (.iinc 2 1, 3) := by decide +kernel
theorem dX0_copyFrom_81 : decode cX0_copyFrom 81 = .ok (.goto (-71), 3) := by decide +kernel
theorem dX0_copyFrom_84 : decode cX0_copyFrom 84 = .ok (.return_, 1) := by decide +kernel
theorem dX0_send_0 : decode cX0_send 0 = .ok (.iload_n 2, 1) := by decide +kernel
theorem dX0_send_1 : decode cX0_send 1 = .ok (.aload_n 0, 1) := by decide +kernel
theorem dX0_send_2 : decode cX0_send 2 = .ok (.getfield 9, 3) := by decide +kernel
theorem dX0_send_5 : decode cX0_send 5 = .ok (.iload_n 1, 1) := by decide +kernel
theorem dX0_send_6 : decode cX0_send 6 = .ok (.iaload, 1) := by decide +kernel
theorem dX0_send_7 : decode cX0_send 7 = .ok (.isub, 1) := by decide +kernel
theorem dX0_send_8 : decode cX0_send 8 = .ok (.invokestatic 31, 3) := by decide +kernel
theorem dX0_send_11 : decode cX0_send 11 = .ok (.istore_n 3, 1) := by decide +kernel
theorem dX0_send_12 : decode cX0_send 12 = .ok (.aload_n 0, 1) := by decide +kernel
theorem dX0_send_13 : decode cX0_send 13 = .ok (.getfield 15, 3) := by decide +kernel
theorem dX0_send_16 : decode cX0_send 16 = .ok (.iload_n 1, 1) := by decide +kernel
theorem dX0_send_17 : decode cX0_send 17 = .ok (.iload_n 3, 1) := by decide +kernel
theorem dX0_send_18 : decode cX0_send 18 = .ok (.ifCond .ne 7, 3) := by decide +kernel
theorem dX0_send_21 : decode cX0_send 21 = .ok (.iconst (-1), 1) := by decide +kernel
theorem dX0_send_22 : decode cX0_send 22 = .ok (.goto 4, 3) := by decide +kernel
theorem dX0_send_25 : decode cX0_send 25 = .ok (.iload_n 2, 1) := by decide +kernel
theorem dX0_send_26 : decode cX0_send 26 = .ok (.iastore, 1) := by decide +kernel
theorem dX0_send_27 : decode cX0_send 27 = .ok (.iload_n 3, 1) := by decide +kernel
theorem dX0_send_28 : decode cX0_send 28 = .ok (.iconst 5, 1) := by decide +kernel
theorem dX0_send_29 : decode cX0_send 29 = .ok (.iadd, 1) := by decide +kernel
theorem dX0_send_30 : decode cX0_send 30 = .ok (.iconst 1, 1) := by decide +kernel
theorem dX0_send_31 : decode cX0_send 31 = .ok (.isub, 1) := by decide +kernel
theorem dX0_send_32 : decode cX0_send 32 = .ok (.iconst 5, 1) := by decide +kernel
theorem dX0_send_33 : decode cX0_send 33 = .ok (.idiv, 1) := by decide +kernel
theorem dX0_send_34 : decode cX0_send 34 = .ok (.ireturn, 1) := by decide +kernel
theorem dX0_sailOn_0 : decode cX0_sailOn 0 = .ok (.iconst 0, 1) := by decide +kernel
theorem dX0_sailOn_1 : decode cX0_sailOn 1 = .ok (.istore_n 1, 1) := by decide +kernel
theorem dX0_sailOn_2 : decode cX0_sailOn 2 = .ok (.iload_n 1, 1) := by decide +kernel
theorem dX0_sailOn_3 : decode cX0_sailOn 3 = .ok (.aload_n 0, 1) := by decide +kernel
theorem dX0_sailOn_4 : decode cX0_sailOn 4 = .ok (.getfield 27, 3) := by decide +kernel
theorem dX0_sailOn_7 : decode cX0_sailOn 7 = .ok (.if_icmp .ge 74, 3) := by decide +kernel
theorem dX0_sailOn_10 : decode cX0_sailOn 10 = .ok (.aload_n 0, 1) := by decide +kernel
theorem dX0_sailOn_11 : decode cX0_sailOn 11 = .ok (.getfield 15, 3) := by decide +kernel
theorem dX0_sailOn_14 : decode cX0_sailOn 14 = .ok (.iload_n 1, 1) := by decide +kernel
theorem dX0_sailOn_15 : decode cX0_sailOn 15 = .ok (.iaload, 1) := by decide +kernel
theorem dX0_sailOn_16 : decode cX0_sailOn 16 = .ok (.iconst (-1), 1) := by decide +kernel
theorem dX0_sailOn_17 : decode cX0_sailOn 17 = .ok (.if_icmp .eq 58, 3) := by decide +kernel
theorem dX0_sailOn_20 : decode cX0_sailOn 20 = .ok (.aload_n 0, 1) := by decide +kernel
theorem dX0_sailOn_21 : decode cX0_sailOn 21 = .ok (.getfield 15, 3) := by decide +kernel
theorem dX0_sailOn_24 : decode cX0_sailOn 24 = .ok (.iload_n 1, 1) := by decide +kernel
theorem dX0_sailOn_25 : decode cX0_sailOn 25 = .ok (.iaload, 1) := by decide +kernel
theorem dX0_sailOn_26 : decode cX0_sailOn 26 = .ok (.aload_n 0, 1) := by decide +kernel
theorem dX0_sailOn_27 : decode cX0_sailOn 27 = .ok (.getfield 9, 3) := by decide +kernel
theorem dX0_sailOn_30 : decode cX0_sailOn 30 = .ok (.iload_n 1, 1) := by decide +kernel
theorem dX0_sailOn_31 : decode cX0_sailOn 31 = .ok (.iaload, 1) := by decide +kernel
theorem dX0_sailOn_32 : decode cX0_sailOn 32 = .ok (.isub, 1) := by decide +kernel
theorem dX0_sailOn_33 : decode cX0_sailOn 33 = .ok (.istore_n 2, 1) := by decide +kernel
theorem dX0_sailOn_34 : decode cX0_sailOn 34 = .ok (.aload_n 0, 1) := by decide +kernel
theorem dX0_sailOn_35 : decode cX0_sailOn 35 = .ok (.getfield 9, 3) := by decide +kernel
theorem dX0_sailOn_38 : decode cX0_sailOn 38 = .ok (.iload_n 1, 1) := by decide +kernel
theorem dX0_sailOn_39 : decode cX0_sailOn 39 = .ok (.dup2, 1) := by decide +kernel
theorem dX0_sailOn_40 : decode cX0_sailOn 40 = .ok (.iaload, 1) := by decide +kernel
theorem dX0_sailOn_41 : decode cX0_sailOn 41 = .ok (.bipush (-5), 2) := by decide +kernel
theorem dX0_sailOn_43 : decode cX0_sailOn 43 = .ok (.iconst 5, 1) := by decide +kernel
theorem dX0_sailOn_44 : decode cX0_sailOn 44 = .ok (.iload_n 2, 1) := by decide +kernel
theorem dX0_sailOn_45 : decode cX0_sailOn 45 = .ok (.invokestatic 37, 3) := by decide +kernel
theorem dX0_sailOn_48 : decode cX0_sailOn 48 = .ok (.invokestatic 41, 3) := by decide +kernel
theorem dX0_sailOn_51 : decode cX0_sailOn 51 = .ok (.iadd, 1) := by decide +kernel
theorem dX0_sailOn_52 : decode cX0_sailOn 52 = .ok (.iastore, 1) := by decide +kernel
theorem dX0_sailOn_53 : decode cX0_sailOn 53 = .ok (.aload_n 0, 1) := by decide +kernel
theorem dX0_sailOn_54 : decode cX0_sailOn 54 = .ok (.getfield 9, 3) := by decide +kernel
theorem dX0_sailOn_57 : decode cX0_sailOn 57 = .ok (.iload_n 1, 1) := by decide +kernel
theorem dX0_sailOn_58 : decode cX0_sailOn 58 = .ok (.iaload, 1) := by decide +kernel
theorem dX0_sailOn_59 : decode cX0_sailOn 59 = .ok (.aload_n 0, 1) := by decide +kernel
theorem dX0_sailOn_60 : decode cX0_sailOn 60 = .ok (.getfield 15, 3) := by decide +kernel
theorem dX0_sailOn_63 : decode cX0_sailOn 63 = .ok (.iload_n 1, 1) := by decide +kernel
theorem dX0_sailOn_64 : decode cX0_sailOn 64 = .ok (.iaload, 1) := by decide +kernel
theorem dX0_sailOn_65 : decode cX0_sailOn 65 = .ok (.if_icmp .ne 10, 3) := by decide +kernel
theorem dX0_sailOn_68 : decode cX0_sailOn 68 = .ok (.aload_n 0, 1) := by decide +kernel
theorem dX0_sailOn_69 : decode cX0_sailOn 69 = .ok (.getfield 15, 3) := by decide +kernel
theorem dX0_sailOn_72 : decode cX0_sailOn 72 = .ok (.iload_n 1, 1) := by decide +kernel
theorem dX0_sailOn_73 : decode cX0_sailOn 73 = .ok (.iconst (-1), 1) := by decide +kernel
theorem dX0_sailOn_74 : decode cX0_sailOn 74 = .ok (.iastore, 1) := by decide +kernel
theorem dX0_sailOn_75 : decode cX0_sailOn 75 = .ok (.iinc 1 1, 3) := by decide +kernel
theorem dX0_sailOn_78 : decode cX0_sailOn 78 = .ok (.goto (-76), 3) := by decide +kernel
theorem dX0_sailOn_81 : decode cX0_sailOn 81 = .ok (.return_, 1) := by decide +kernel
theorem dX0_aboard_0 : decode cX0_aboard 0 = .ok (.aload_n 0, 1) := by decide +kernel
theorem dX0_aboard_1 : decode cX0_aboard 1 = .ok (.getfield 18, 3) := by decide +kernel
theorem dX0_aboard_4 : decode cX0_aboard 4 = .ok (.iload_n 1, 1) := by decide +kernel
theorem dX0_aboard_5 : decode cX0_aboard 5 = .ok (.iaload, 1) := by decide +kernel
theorem dX0_aboard_6 : decode cX0_aboard 6 = .ok (.aload_n 0, 1) := by decide +kernel
theorem dX0_aboard_7 : decode cX0_aboard 7 = .ok (.getfield 21, 3) := by decide +kernel
theorem dX0_aboard_10 : decode cX0_aboard 10 = .ok (.iload_n 1, 1) := by decide +kernel
theorem dX0_aboard_11 : decode cX0_aboard 11 = .ok (.iaload, 1) := by decide +kernel
theorem dX0_aboard_12 : decode cX0_aboard 12 = .ok (.iadd, 1) := by decide +kernel
theorem dX0_aboard_13 : decode cX0_aboard 13 = .ok (.ireturn, 1) := by decide +kernel
set_option maxRecDepth 20000 in
theorem ggX0_tell_X4_landingAt : GoodIn wsX0_tell wsX4_landingAt := goodIn_r _ [8, 9] (by decide +kernel) (by decide +kernel)
set_option maxRecDepth 20000 in
theorem gX0_tell_X4_landingAt_n44 : GoodIn wsX0_tell (wsX4_landingAt) := ggX0_tell_X4_landingAt
theorem dX0_tell_0 : decode cX0_tell 0 = .ok (.iload_n 2, 1) := by decide +kernel
theorem dX0_tell_1 : decode cX0_tell 1 = .ok (.tableswitch 73 0 4 #[35, 42, 49, 56, 63], 35) := by decide +kernel
theorem dX0_tell_36 : decode cX0_tell 36 = .ok (.aload_n 0, 1) := by decide +kernel
theorem dX0_tell_37 : decode cX0_tell 37 = .ok (.getfield 9, 3) := by decide +kernel
theorem dX0_tell_40 : decode cX0_tell 40 = .ok (.iload_n 1, 1) := by decide +kernel
theorem dX0_tell_41 : decode cX0_tell 41 = .ok (.iaload, 1) := by decide +kernel
theorem dX0_tell_42 : decode cX0_tell 42 = .ok (.ireturn, 1) := by decide +kernel
theorem dX0_tell_43 : decode cX0_tell 43 = .ok (.aload_n 0, 1) := by decide +kernel
theorem dX0_tell_44 : decode cX0_tell 44 = .ok (.getfield 15, 3) := by decide +kernel
theorem dX0_tell_47 : decode cX0_tell 47 = .ok (.iload_n 1, 1) := by decide +kernel
theorem dX0_tell_48 : decode cX0_tell 48 = .ok (.iaload, 1) := by decide +kernel
theorem dX0_tell_49 : decode cX0_tell 49 = .ok (.ireturn, 1) := by decide +kernel
theorem dX0_tell_50 : decode cX0_tell 50 = .ok (.aload_n 0, 1) := by decide +kernel
theorem dX0_tell_51 : decode cX0_tell 51 = .ok (.getfield 18, 3) := by decide +kernel
theorem dX0_tell_54 : decode cX0_tell 54 = .ok (.iload_n 1, 1) := by decide +kernel
theorem dX0_tell_55 : decode cX0_tell 55 = .ok (.iaload, 1) := by decide +kernel
theorem dX0_tell_56 : decode cX0_tell 56 = .ok (.ireturn, 1) := by decide +kernel
theorem dX0_tell_57 : decode cX0_tell 57 = .ok (.aload_n 0, 1) := by decide +kernel
theorem dX0_tell_58 : decode cX0_tell 58 = .ok (.getfield 21, 3) := by decide +kernel
theorem dX0_tell_61 : decode cX0_tell 61 = .ok (.iload_n 1, 1) := by decide +kernel
theorem dX0_tell_62 : decode cX0_tell 62 = .ok (.iaload, 1) := by decide +kernel
theorem dX0_tell_63 : decode cX0_tell 63 = .ok (.ireturn, 1) := by decide +kernel
theorem dX0_tell_64 : decode cX0_tell 64 = .ok (.aload_n 0, 1) := by decide +kernel
theorem dX0_tell_65 : decode cX0_tell 65 = .ok (.getfield 9, 3) := by decide +kernel
theorem dX0_tell_68 : decode cX0_tell 68 = .ok (.iload_n 1, 1) := by decide +kernel
theorem dX0_tell_69 : decode cX0_tell 69 = .ok (.iaload, 1) := by decide +kernel
theorem dX0_tell_70 : decode cX0_tell 70 = .ok (.invokestatic 44, 3) := by decide +kernel
theorem dX0_tell_73 : decode cX0_tell 73 = .ok (.ireturn, 1) := by decide +kernel
theorem dX0_tell_74 : decode cX0_tell 74 = .ok (.aload_n 0, 1) := by decide +kernel
theorem dX0_tell_75 : decode cX0_tell 75 = .ok (.getfield 24, 3) := by decide +kernel
theorem dX0_tell_78 : decode cX0_tell 78 = .ok (.iload_n 1, 1) := by decide +kernel
theorem dX0_tell_79 : decode cX0_tell 79 = .ok (.iaload, 1) := by decide +kernel
theorem dX0_tell_80 : decode cX0_tell 80 = .ok (.ireturn, 1) := by decide +kernel
set_option maxRecDepth 20000 in
theorem ggX0_aboardAll_X0_aboard : GoodIn wsX0_aboardAll wsX0_aboard := goodIn_r _ [6, 7, 8, 9, 10, 11, 12, 13, 14] (by decide +kernel) (by decide +kernel)
set_option maxRecDepth 20000 in
theorem gX0_aboardAll_X0_aboard : GoodIn wsX0_aboardAll (wsV RX0 47 RX0 yX0_aboard wsX0_aboard) := goodIn_app (goodIn_of _ (by decide +kernel)) ggX0_aboardAll_X0_aboard
theorem dX0_aboardAll_0 : decode cX0_aboardAll 0 = .ok (.iconst 0, 1) := by decide +kernel
theorem dX0_aboardAll_1 : decode cX0_aboardAll 1 = .ok (.istore_n 1, 1) := by decide +kernel
theorem dX0_aboardAll_2 : decode cX0_aboardAll 2 = .ok (.iconst 0, 1) := by decide +kernel
theorem dX0_aboardAll_3 : decode cX0_aboardAll 3 = .ok (.istore_n 2, 1) := by decide +kernel
theorem dX0_aboardAll_4 : decode cX0_aboardAll 4 = .ok (.iload_n 2, 1) := by decide +kernel
theorem dX0_aboardAll_5 : decode cX0_aboardAll 5 = .ok (.aload_n 0, 1) := by decide +kernel
theorem dX0_aboardAll_6 : decode cX0_aboardAll 6 = .ok (.getfield 27, 3) := by decide +kernel
theorem dX0_aboardAll_9 : decode cX0_aboardAll 9 = .ok (.if_icmp .ge 17, 3) := by decide +kernel
theorem dX0_aboardAll_12 : decode cX0_aboardAll 12 = .ok (.iload_n 1, 1) := by decide +kernel
theorem dX0_aboardAll_13 : decode cX0_aboardAll 13 = .ok (.aload_n 0, 1) := by decide +kernel
theorem dX0_aboardAll_14 : decode cX0_aboardAll 14 = .ok (.iload_n 2, 1) := by decide +kernel
theorem dX0_aboardAll_15 : decode cX0_aboardAll 15 = .ok (.invokevirtual 47, 3) := by decide +kernel
theorem dX0_aboardAll_18 : decode cX0_aboardAll 18 = .ok (.iadd, 1) := by decide +kernel
theorem dX0_aboardAll_19 : decode cX0_aboardAll 19 = .ok (.istore_n 1, 1) := by decide +kernel
theorem dX0_aboardAll_20 : decode cX0_aboardAll 20 = .ok (.iinc 2 1, 3) := by decide +kernel
theorem dX0_aboardAll_23 : decode cX0_aboardAll 23 = .ok (.goto (-19), 3) := by decide +kernel
theorem dX0_aboardAll_26 : decode cX0_aboardAll 26 = .ok (.iload_n 1, 1) := by decide +kernel
theorem dX0_aboardAll_27 : decode cX0_aboardAll 27 = .ok (.ireturn, 1) := by decide +kernel
theorem dX1_init_0 : decode cX1_init 0 = .ok (.aload_n 0, 1) := by decide +kernel
theorem dX1_init_1 : decode cX1_init 1 = .ok (.invokespecial 3, 3) := by decide +kernel
theorem dX1_init_4 : decode cX1_init 4 = .ok (.aload_n 0, 1) := by decide +kernel
theorem dX1_init_5 : decode cX1_init 5 = .ok (.bipush 8, 2) := by decide +kernel
theorem dX1_init_7 : decode cX1_init 7 = .ok (.newarray .int, 2) := by decide +kernel
theorem dX1_init_9 : decode cX1_init 9 = .ok (.putfield 9, 3) := by decide +kernel
theorem dX1_init_12 : decode cX1_init 12 = .ok (.aload_n 0, 1) := by decide +kernel
theorem dX1_init_13 : decode cX1_init 13 = .ok (.bipush 8, 2) := by decide +kernel
theorem dX1_init_15 : decode cX1_init 15 = .ok (.newarray .int, 2) := by decide +kernel
theorem dX1_init_17 : decode cX1_init 17 = .ok (.putfield 15, 3) := by decide +kernel
theorem dX1_init_20 : decode cX1_init 20 = .ok (.aload_n 0, 1) := by decide +kernel
theorem dX1_init_21 : decode cX1_init 21 = .ok (.bipush 8, 2) := by decide +kernel
theorem dX1_init_23 : decode cX1_init 23 = .ok (.newarray .int, 2) := by decide +kernel
theorem dX1_init_25 : decode cX1_init 25 = .ok (.putfield 18, 3) := by decide +kernel
theorem dX1_init_28 : decode cX1_init 28 = .ok (.aload_n 0, 1) := by decide +kernel
theorem dX1_init_29 : decode cX1_init 29 = .ok (.bipush 8, 2) := by decide +kernel
theorem dX1_init_31 : decode cX1_init 31 = .ok (.newarray .int, 2) := by decide +kernel
theorem dX1_init_33 : decode cX1_init 33 = .ok (.putfield 21, 3) := by decide +kernel
theorem dX1_init_36 : decode cX1_init 36 = .ok (.aload_n 0, 1) := by decide +kernel
theorem dX1_init_37 : decode cX1_init 37 = .ok (.bipush 8, 2) := by decide +kernel
theorem dX1_init_39 : decode cX1_init 39 = .ok (.newarray .int, 2) := by decide +kernel
theorem dX1_init_41 : decode cX1_init 41 = .ok (.putfield 24, 3) := by decide +kernel
theorem dX1_init_44 : decode cX1_init 44 = .ok (.aload_n 0, 1) := by decide +kernel
theorem dX1_init_45 : decode cX1_init 45 = .ok (.bipush 8, 2) := by decide +kernel
theorem dX1_init_47 : decode cX1_init 47 = .ok (.newarray .int, 2) := by decide +kernel
theorem dX1_init_49 : decode cX1_init 49 = .ok (.putfield 27, 3) := by decide +kernel
theorem dX1_init_52 : decode cX1_init 52 = .ok (.aload_n 0, 1) := by decide +kernel
theorem dX1_init_53 : decode cX1_init 53 = .ok (.bipush 8, 2) := by decide +kernel
theorem dX1_init_55 : decode cX1_init 55 = .ok (.newarray .int, 2) := by decide +kernel
theorem dX1_init_57 : decode cX1_init 57 = .ok (.putfield 30, 3) := by decide +kernel
theorem dX1_init_60 : decode cX1_init 60 = .ok (.aload_n 0, 1) := by decide +kernel
theorem dX1_init_61 : decode cX1_init 61 = .ok (.bipush 8, 2) := by decide +kernel
theorem dX1_init_63 : decode cX1_init 63 = .ok (.newarray .int, 2) := by decide +kernel
theorem dX1_init_65 : decode cX1_init 65 = .ok (.putfield 33, 3) := by decide +kernel
theorem dX1_init_68 : decode cX1_init 68 = .ok (.aload_n 0, 1) := by decide +kernel
theorem dX1_init_69 : decode cX1_init 69 = .ok (.bipush 8, 2) := by decide +kernel
theorem dX1_init_71 : decode cX1_init 71 = .ok (.newarray .int, 2) := by decide +kernel
theorem dX1_init_73 : decode cX1_init 73 = .ok (.putfield 36, 3) := by decide +kernel
theorem dX1_init_76 : decode cX1_init 76 = .ok (.return_, 1) := by decide +kernel
theorem dX1_areFull_0 : decode cX1_areFull 0 = .ok (.aload_n 0, 1) := by decide +kernel
theorem dX1_areFull_1 : decode cX1_areFull 1 = .ok (.getfield 39, 3) := by decide +kernel
theorem dX1_areFull_4 : decode cX1_areFull 4 = .ok (.bipush 8, 2) := by decide +kernel
theorem dX1_areFull_6 : decode cX1_areFull 6 = .ok (.if_icmp .lt 7, 3) := by decide +kernel
theorem dX1_areFull_9 : decode cX1_areFull 9 = .ok (.iconst 1, 1) := by decide +kernel
theorem dX1_areFull_10 : decode cX1_areFull 10 = .ok (.goto 4, 3) := by decide +kernel
theorem dX1_areFull_13 : decode cX1_areFull 13 = .ok (.iconst 0, 1) := by decide +kernel
theorem dX1_areFull_14 : decode cX1_areFull 14 = .ok (.ireturn, 1) := by decide +kernel
theorem dX1_add_0 : decode cX1_add 0 = .ok (.aload_n 0, 1) := by decide +kernel
theorem dX1_add_1 : decode cX1_add 1 = .ok (.getfield 39, 3) := by decide +kernel
theorem dX1_add_4 : decode cX1_add 4 = .ok (.istore 4, 2) := by decide +kernel
theorem dX1_add_6 : decode cX1_add 6 = .ok (.aload_n 0, 1) := by decide +kernel
theorem dX1_add_7 : decode cX1_add 7 = .ok (.getfield 9, 3) := by decide +kernel
theorem dX1_add_10 : decode cX1_add 10 = .ok (.iload 4, 2) := by decide +kernel
theorem dX1_add_12 : decode cX1_add 12 = .ok (.iload_n 1, 1) := by decide +kernel
theorem dX1_add_13 : decode cX1_add 13 = .ok (.iastore, 1) := by decide +kernel
theorem dX1_add_14 : decode cX1_add 14 = .ok (.aload_n 0, 1) := by decide +kernel
theorem dX1_add_15 : decode cX1_add 15 = .ok (.getfield 15, 3) := by decide +kernel
theorem dX1_add_18 : decode cX1_add 18 = .ok (.iload 4, 2) := by decide +kernel
theorem dX1_add_20 : decode cX1_add 20 = .ok (.iload_n 2, 1) := by decide +kernel
theorem dX1_add_21 : decode cX1_add 21 = .ok (.iastore, 1) := by decide +kernel
theorem dX1_add_22 : decode cX1_add 22 = .ok (.aload_n 0, 1) := by decide +kernel
theorem dX1_add_23 : decode cX1_add 23 = .ok (.getfield 18, 3) := by decide +kernel
theorem dX1_add_26 : decode cX1_add 26 = .ok (.iload 4, 2) := by decide +kernel
theorem dX1_add_28 : decode cX1_add 28 = .ok (.iconst 3, 1) := by decide +kernel
theorem dX1_add_29 : decode cX1_add 29 = .ok (.iastore, 1) := by decide +kernel
theorem dX1_add_30 : decode cX1_add 30 = .ok (.aload_n 0, 1) := by decide +kernel
theorem dX1_add_31 : decode cX1_add 31 = .ok (.getfield 21, 3) := by decide +kernel
theorem dX1_add_34 : decode cX1_add 34 = .ok (.iload 4, 2) := by decide +kernel
theorem dX1_add_36 : decode cX1_add 36 = .ok (.iload_n 3, 1) := by decide +kernel
theorem dX1_add_37 : decode cX1_add 37 = .ok (.iastore, 1) := by decide +kernel
theorem dX1_add_38 : decode cX1_add 38 = .ok (.aload_n 0, 1) := by decide +kernel
theorem dX1_add_39 : decode cX1_add 39 = .ok (.dup, 1) := by decide +kernel
theorem dX1_add_40 : decode cX1_add 40 = .ok (.getfield 39, 3) := by decide +kernel
theorem dX1_add_43 : decode cX1_add 43 = .ok (.iconst 1, 1) := by decide +kernel
theorem dX1_add_44 : decode cX1_add 44 = .ok (.iadd, 1) := by decide +kernel
theorem dX1_add_45 : decode cX1_add 45 = .ok (.putfield 39, 3) := by decide +kernel
theorem dX1_add_48 : decode cX1_add 48 = .ok (.iload 4, 2) := by decide +kernel
theorem dX1_add_50 : decode cX1_add 50 = .ok (.ireturn, 1) := by decide +kernel
theorem dX1_copyFrom_0 : decode cX1_copyFrom 0 = .ok (.aload_n 0, 1) := by decide +kernel
theorem dX1_copyFrom_1 : decode cX1_copyFrom 1 = .ok (.aload_n 1, 1) := by decide +kernel
theorem dX1_copyFrom_2 : decode cX1_copyFrom 2 = .ok (.getfield 39, 3) := by decide +kernel
theorem dX1_copyFrom_5 : decode cX1_copyFrom 5 = .ok (.putfield 39, 3) := by decide +kernel
theorem dX1_copyFrom_8 : decode cX1_copyFrom 8 = .ok (.iconst 0, 1) := by decide +kernel
theorem dX1_copyFrom_9 : decode cX1_copyFrom 9 = .ok (.istore_n 2, 1) := by decide +kernel
theorem dX1_copyFrom_10 : decode cX1_copyFrom 10 = .ok (.iload_n 2, 1) := by decide +kernel
theorem dX1_copyFrom_11 : decode cX1_copyFrom 11 = .ok (.aload_n 0, 1) := by decide +kernel
theorem dX1_copyFrom_12 : decode cX1_copyFrom 12 = .ok (.getfield 39, 3) := by decide +kernel
theorem dX1_copyFrom_15 : decode cX1_copyFrom 15 = .ok (.if_icmp .ge 105, 3) := by decide +kernel
theorem dX1_copyFrom_18 : decode cX1_copyFrom 18 = .ok (.aload_n 0, 1) := by decide +kernel
theorem dX1_copyFrom_19 : decode cX1_copyFrom 19 = .ok (.getfield 9, 3) := by decide +kernel
theorem dX1_copyFrom_22 : decode cX1_copyFrom 22 = .ok (.iload_n 2, 1) := by decide +kernel
theorem dX1_copyFrom_23 : decode cX1_copyFrom 23 = .ok (.aload_n 1, 1) := by decide +kernel
theorem dX1_copyFrom_24 : decode cX1_copyFrom 24 = .ok (.getfield 9, 3) := by decide +kernel
theorem dX1_copyFrom_27 : decode cX1_copyFrom 27 = .ok (.iload_n 2, 1) := by decide +kernel
theorem dX1_copyFrom_28 : decode cX1_copyFrom 28 = .ok (.iaload, 1) := by decide +kernel
theorem dX1_copyFrom_29 : decode cX1_copyFrom 29 = .ok (.iastore, 1) := by decide +kernel
theorem dX1_copyFrom_30 : decode cX1_copyFrom 30 = .ok (.aload_n 0, 1) := by decide +kernel
theorem dX1_copyFrom_31 : decode cX1_copyFrom 31 = .ok (.getfield 15, 3) := by decide +kernel
theorem dX1_copyFrom_34 : decode cX1_copyFrom 34 = .ok (.iload_n 2, 1) := by decide +kernel
theorem dX1_copyFrom_35 : decode cX1_copyFrom 35 = .ok (.aload_n 1, 1) := by decide +kernel
theorem dX1_copyFrom_36 : decode cX1_copyFrom 36 = .ok (.getfield 15, 3) := by decide +kernel
theorem dX1_copyFrom_39 : decode cX1_copyFrom 39 = .ok (.iload_n 2, 1) := by decide +kernel
theorem dX1_copyFrom_40 : decode cX1_copyFrom 40 = .ok (.iaload, 1) := by decide +kernel
theorem dX1_copyFrom_41 : decode cX1_copyFrom 41 = .ok (.iastore, 1) := by decide +kernel
theorem dX1_copyFrom_42 : decode cX1_copyFrom 42 = .ok (.aload_n 0, 1) := by decide +kernel
theorem dX1_copyFrom_43 : decode cX1_copyFrom 43 = .ok (.getfield 18, 3) := by decide +kernel
theorem dX1_copyFrom_46 : decode cX1_copyFrom 46 = .ok (.iload_n 2, 1) := by decide +kernel
theorem dX1_copyFrom_47 : decode cX1_copyFrom 47 = .ok (.aload_n 1, 1) := by decide +kernel
theorem dX1_copyFrom_48 : decode cX1_copyFrom 48 = .ok (.getfield 18, 3) := by decide +kernel
theorem dX1_copyFrom_51 : decode cX1_copyFrom 51 = .ok (.iload_n 2, 1) := by decide +kernel
theorem dX1_copyFrom_52 : decode cX1_copyFrom 52 = .ok (.iaload, 1) := by decide +kernel
theorem dX1_copyFrom_53 : decode cX1_copyFrom 53 = .ok (.iastore, 1) := by decide +kernel
theorem dX1_copyFrom_54 : decode cX1_copyFrom 54 = .ok (.aload_n 0, 1) := by decide +kernel
theorem dX1_copyFrom_55 : decode cX1_copyFrom 55 = .ok (.getfield 21, 3) := by decide +kernel
theorem dX1_copyFrom_58 : decode cX1_copyFrom 58 = .ok (.iload_n 2, 1) := by decide +kernel
theorem dX1_copyFrom_59 : decode cX1_copyFrom 59 = .ok (.aload_n 1, 1) := by decide +kernel
theorem dX1_copyFrom_60 : decode cX1_copyFrom 60 = .ok (.getfield 21, 3) := by decide +kernel
theorem dX1_copyFrom_63 : decode cX1_copyFrom 63 = .ok (.iload_n 2, 1) := by decide +kernel
theorem dX1_copyFrom_64 : decode cX1_copyFrom 64 = .ok (.iaload, 1) := by decide +kernel
theorem dX1_copyFrom_65 : decode cX1_copyFrom 65 = .ok (.iastore, 1) := by decide +kernel
theorem dX1_copyFrom_66 : decode cX1_copyFrom 66 = .ok (.aload_n 0, 1) := by decide +kernel
theorem dX1_copyFrom_67 : decode cX1_copyFrom 67 = .ok (.getfield 24, 3) := by decide +kernel
theorem dX1_copyFrom_70 : decode cX1_copyFrom 70 = .ok (.iload_n 2, 1) := by decide +kernel
theorem dX1_copyFrom_71 : decode cX1_copyFrom 71 = .ok (.aload_n 1, 1) := by decide +kernel
theorem dX1_copyFrom_72 : decode cX1_copyFrom 72 = .ok (.getfield 24, 3) := by decide +kernel
theorem dX1_copyFrom_75 : decode cX1_copyFrom 75 = .ok (.iload_n 2, 1) := by decide +kernel
theorem dX1_copyFrom_76 : decode cX1_copyFrom 76 = .ok (.iaload, 1) := by decide +kernel
theorem dX1_copyFrom_77 : decode cX1_copyFrom 77 = .ok (.iastore, 1) := by decide +kernel
theorem dX1_copyFrom_78 : decode cX1_copyFrom 78 = .ok (.aload_n 0, 1) := by decide +kernel
theorem dX1_copyFrom_79 : decode cX1_copyFrom 79 = .ok (.getfield 27, 3) := by decide +kernel
theorem dX1_copyFrom_82 : decode cX1_copyFrom 82 = .ok (.iload_n 2, 1) := by decide +kernel
theorem dX1_copyFrom_83 : decode cX1_copyFrom 83 = .ok (.aload_n 1, 1) := by decide +kernel
theorem dX1_copyFrom_84 : decode cX1_copyFrom 84 = .ok (.getfield 27, 3) := by decide +kernel
theorem dX1_copyFrom_87 : decode cX1_copyFrom 87 = .ok (.iload_n 2, 1) := by decide +kernel
theorem dX1_copyFrom_88 : decode cX1_copyFrom 88 = .ok (.iaload, 1) := by decide +kernel
theorem dX1_copyFrom_89 : decode cX1_copyFrom 89 = .ok (.iastore, 1) := by decide +kernel
theorem dX1_copyFrom_90 : decode cX1_copyFrom 90 = .ok (.aload_n 0, 1) := by decide +kernel
theorem dX1_copyFrom_91 : decode cX1_copyFrom 91 = .ok (.getfield 30, 3) := by decide +kernel
theorem dX1_copyFrom_94 : decode cX1_copyFrom 94 = .ok (.iload_n 2, 1) := by decide +kernel
theorem dX1_copyFrom_95 : decode cX1_copyFrom 95 = .ok (.aload_n 1, 1) := by decide +kernel
theorem dX1_copyFrom_96 : decode cX1_copyFrom 96 = .ok (.getfield 30, 3) := by decide +kernel
theorem dX1_copyFrom_99 : decode cX1_copyFrom 99 = .ok (.iload_n 2, 1) := by decide +kernel
theorem dX1_copyFrom_100 : decode cX1_copyFrom 100 = .ok (.iaload, 1) := by decide +kernel
theorem dX1_copyFrom_101 : decode cX1_copyFrom 101 = .ok (.iastore, 1) := by decide +kernel
theorem dX1_copyFrom_102 : decode cX1_copyFrom 102 = .ok (.aload_n 0, 1) := by decide +kernel
theorem dX1_copyFrom_103 : decode cX1_copyFrom 103 = .ok (.getfield 33, 3) := by decide +kernel
theorem dX1_copyFrom_106 : decode cX1_copyFrom 106 = .ok (.iload_n 2, 1) := by decide +kernel
theorem dX1_copyFrom_107 : decode cX1_copyFrom 107 = .ok (.aload_n 1, 1) := by decide +kernel
theorem dX1_copyFrom_108 : decode cX1_copyFrom 108 = .ok (.getfield 33, 3) := by decide +kernel
theorem dX1_copyFrom_111 : decode cX1_copyFrom 111 = .ok (.iload_n 2, 1) := by decide +kernel
theorem dX1_copyFrom_112 : decode cX1_copyFrom 112 = .ok (.iaload, 1) := by decide +kernel
theorem dX1_copyFrom_113 : decode cX1_copyFrom 113 = .ok (.iastore, 1) := by decide +kernel
theorem dX1_copyFrom_114 : decode cX1_copyFrom 114 = .ok (.iinc 2 1, 3) := by decide +kernel
theorem dX1_copyFrom_117 : decode cX1_copyFrom 117 = .ok (.goto (-107), 3) := by decide +kernel
theorem dX1_copyFrom_120 : decode cX1_copyFrom 120 = .ok (.return_, 1) := by decide +kernel
theorem dX1_given_0 : decode cX1_given 0 = .ok (.aload_n 0, 1) := by decide +kernel
theorem dX1_given_1 : decode cX1_given 1 = .ok (.getfield 18, 3) := by decide +kernel
theorem dX1_given_4 : decode cX1_given 4 = .ok (.iload_n 1, 1) := by decide +kernel
theorem dX1_given_5 : decode cX1_given 5 = .ok (.iaload, 1) := by decide +kernel
theorem dX1_given_6 : decode cX1_given 6 = .ok (.istore_n 2, 1) := by decide +kernel
theorem dX1_given_7 : decode cX1_given 7 = .ok (.iload_n 2, 1) := by decide +kernel
theorem dX1_given_8 : decode cX1_given 8 = .ok (.ifCond .lt 19, 3) := by decide +kernel
theorem dX1_given_11 : decode cX1_given 11 = .ok (.iload_n 2, 1) := by decide +kernel
theorem dX1_given_12 : decode cX1_given 12 = .ok (.getstatic 43, 3) := by decide +kernel
theorem dX1_given_15 : decode cX1_given 15 = .ok (.arraylength, 1) := by decide +kernel
theorem dX1_given_16 : decode cX1_given 16 = .ok (.if_icmp .ge 11, 3) := by decide +kernel
theorem dX1_given_19 : decode cX1_given 19 = .ok (.getstatic 43, 3) := by decide +kernel
theorem dX1_given_22 : decode cX1_given 22 = .ok (.iload_n 2, 1) := by decide +kernel
theorem dX1_given_23 : decode cX1_given 23 = .ok (.iaload, 1) := by decide +kernel
theorem dX1_given_24 : decode cX1_given 24 = .ok (.goto 4, 3) := by decide +kernel
theorem dX1_given_27 : decode cX1_given 27 = .ok (.iconst 0, 1) := by decide +kernel
theorem dX1_given_28 : decode cX1_given 28 = .ok (.istore_n 3, 1) := by decide +kernel
theorem dX1_given_29 : decode cX1_given 29 = .ok (.iconst 3, 1) := by decide +kernel
theorem dX1_given_30 : decode cX1_given 30 = .ok (.aload_n 0, 1) := by decide +kernel
theorem dX1_given_31 : decode cX1_given 31 = .ok (.getfield 15, 3) := by decide +kernel
theorem dX1_given_34 : decode cX1_given 34 = .ok (.iload_n 1, 1) := by decide +kernel
theorem dX1_given_35 : decode cX1_given 35 = .ok (.iaload, 1) := by decide +kernel
theorem dX1_given_36 : decode cX1_given 36 = .ok (.imul, 1) := by decide +kernel
theorem dX1_given_37 : decode cX1_given 37 = .ok (.iload_n 3, 1) := by decide +kernel
theorem dX1_given_38 : decode cX1_given 38 = .ok (.imul, 1) := by decide +kernel
theorem dX1_given_39 : decode cX1_given 39 = .ok (.ireturn, 1) := by decide +kernel
set_option maxRecDepth 20000 in
theorem ggX1_sedgeGiven_X1_given : GoodIn wsX1_sedgeGiven wsX1_given := goodIn_r _ [6, 7, 8, 9, 10, 11, 12, 13, 14, 15, 16, 17, 18] (by decide +kernel) (by decide +kernel)
set_option maxRecDepth 20000 in
theorem gX1_sedgeGiven_X1_given : GoodIn wsX1_sedgeGiven (wsV RX1 46 RX1 yX1_given wsX1_given) := goodIn_app (goodIn_of _ (by decide +kernel)) ggX1_sedgeGiven_X1_given
theorem dX1_sedgeGiven_0 : decode cX1_sedgeGiven 0 = .ok (.aload_n 0, 1) := by decide +kernel
theorem dX1_sedgeGiven_1 : decode cX1_sedgeGiven 1 = .ok (.iload_n 1, 1) := by decide +kernel
theorem dX1_sedgeGiven_2 : decode cX1_sedgeGiven 2 = .ok (.invokevirtual 46, 3) := by decide +kernel
theorem dX1_sedgeGiven_5 : decode cX1_sedgeGiven 5 = .ok (.aload_n 0, 1) := by decide +kernel
theorem dX1_sedgeGiven_6 : decode cX1_sedgeGiven 6 = .ok (.getfield 21, 3) := by decide +kernel
theorem dX1_sedgeGiven_9 : decode cX1_sedgeGiven 9 = .ok (.iload_n 1, 1) := by decide +kernel
theorem dX1_sedgeGiven_10 : decode cX1_sedgeGiven 10 = .ok (.iaload, 1) := by decide +kernel
theorem dX1_sedgeGiven_11 : decode cX1_sedgeGiven 11 = .ok (.imul, 1) := by decide +kernel
theorem dX1_sedgeGiven_12 : decode cX1_sedgeGiven 12 = .ok (.bipush 100, 2) := by decide +kernel
theorem dX1_sedgeGiven_14 : decode cX1_sedgeGiven 14 = .ok (.idiv, 1) := by decide +kernel
theorem dX1_sedgeGiven_15 : decode cX1_sedgeGiven 15 = .ok (.ireturn, 1) := by decide +kernel
set_option maxRecDepth 20000 in
theorem ggX1_cutDown_X1_given : GoodIn wsX1_cutDown wsX1_given := goodIn_r _ [8, 3, 9, 15, 16, 17, 18, 19, 20, 21, 22, 23, 24] (by decide +kernel) (by decide +kernel)
set_option maxRecDepth 20000 in
theorem gX1_cutDown_X1_given : GoodIn wsX1_cutDown (wsV RX1 46 RX1 yX1_given wsX1_given) := goodIn_app (goodIn_of _ (by decide +kernel)) ggX1_cutDown_X1_given
set_option maxRecDepth 20000 in
theorem ggX1_cutDown_X1_sedgeGiven : GoodIn wsX1_cutDown wsX1_sedgeGiven := goodIn_r _ [13, 14, 4, 5, 6, 7, 8, 3, 9, 15, 16, 17, 18, 19, 20, 21, 22, 23, 24] (by decide +kernel) (by decide +kernel)
set_option maxRecDepth 20000 in
theorem gX1_cutDown_X1_sedgeGiven : GoodIn wsX1_cutDown (wsV RX1 50 RX1 yX1_sedgeGiven wsX1_sedgeGiven) := goodIn_app (goodIn_of _ (by decide +kernel)) ggX1_cutDown_X1_sedgeGiven
theorem dX1_cutDown_0 : decode cX1_cutDown 0 = .ok (.aload_n 0, 1) := by decide +kernel
theorem dX1_cutDown_1 : decode cX1_cutDown 1 = .ok (.iload_n 1, 1) := by decide +kernel
theorem dX1_cutDown_2 : decode cX1_cutDown 2 = .ok (.invokevirtual 46, 3) := by decide +kernel
theorem dX1_cutDown_5 : decode cX1_cutDown 5 = .ok (.istore_n 2, 1) := by decide +kernel
theorem dX1_cutDown_6 : decode cX1_cutDown 6 = .ok (.aload_n 0, 1) := by decide +kernel
theorem dX1_cutDown_7 : decode cX1_cutDown 7 = .ok (.iload_n 1, 1) := by decide +kernel
theorem dX1_cutDown_8 : decode cX1_cutDown 8 = .ok (.invokevirtual 50, 3) := by decide +kernel
theorem dX1_cutDown_11 : decode cX1_cutDown 11 = .ok (.istore_n 3, 1) := by decide +kernel
theorem dX1_cutDown_12 : decode cX1_cutDown 12 = .ok (.aload_n 0, 1) := by decide +kernel
theorem dX1_cutDown_13 : decode cX1_cutDown 13 = .ok (.getfield 24, 3) := by decide +kernel
theorem dX1_cutDown_16 : decode cX1_cutDown 16 = .ok (.iload_n 1, 1) := by decide +kernel
theorem dX1_cutDown_17 : decode cX1_cutDown 17 = .ok (.dup2, 1) := by decide +kernel
theorem dX1_cutDown_18 : decode cX1_cutDown 18 = .ok (.iaload, 1) := by decide +kernel
theorem dX1_cutDown_19 : decode cX1_cutDown 19 = .ok (.iload_n 3, 1) := by decide +kernel
theorem dX1_cutDown_20 : decode cX1_cutDown 20 = .ok (.iadd, 1) := by decide +kernel
theorem dX1_cutDown_21 : decode cX1_cutDown 21 = .ok (.iastore, 1) := by decide +kernel
theorem dX1_cutDown_22 : decode cX1_cutDown 22 = .ok (.aload_n 0, 1) := by decide +kernel
theorem dX1_cutDown_23 : decode cX1_cutDown 23 = .ok (.getfield 27, 3) := by decide +kernel
theorem dX1_cutDown_26 : decode cX1_cutDown 26 = .ok (.iload_n 1, 1) := by decide +kernel
theorem dX1_cutDown_27 : decode cX1_cutDown 27 = .ok (.dup2, 1) := by decide +kernel
theorem dX1_cutDown_28 : decode cX1_cutDown 28 = .ok (.iaload, 1) := by decide +kernel
theorem dX1_cutDown_29 : decode cX1_cutDown 29 = .ok (.iload_n 2, 1) := by decide +kernel
theorem dX1_cutDown_30 : decode cX1_cutDown 30 = .ok (.iload_n 3, 1) := by decide +kernel
theorem dX1_cutDown_31 : decode cX1_cutDown 31 = .ok (.isub, 1) := by decide +kernel
theorem dX1_cutDown_32 : decode cX1_cutDown 32 = .ok (.iadd, 1) := by decide +kernel
theorem dX1_cutDown_33 : decode cX1_cutDown 33 = .ok (.iastore, 1) := by decide +kernel
theorem dX1_cutDown_34 : decode cX1_cutDown 34 = .ok (.aload_n 0, 1) := by decide +kernel
theorem dX1_cutDown_35 : decode cX1_cutDown 35 = .ok (.getfield 18, 3) := by decide +kernel
theorem dX1_cutDown_38 : decode cX1_cutDown 38 = .ok (.iload_n 1, 1) := by decide +kernel
theorem dX1_cutDown_39 : decode cX1_cutDown 39 = .ok (.iconst 0, 1) := by decide +kernel
theorem dX1_cutDown_40 : decode cX1_cutDown 40 = .ok (.iastore, 1) := by decide +kernel
theorem dX1_cutDown_41 : decode cX1_cutDown 41 = .ok (.iload_n 2, 1) := by decide +kernel
theorem dX1_cutDown_42 : decode cX1_cutDown 42 = .ok (.ireturn, 1) := by decide +kernel
theorem dX1_tieUp_0 : decode cX1_tieUp 0 = .ok (.aload_n 0, 1) := by decide +kernel
theorem dX1_tieUp_1 : decode cX1_tieUp 1 = .ok (.getfield 24, 3) := by decide +kernel
theorem dX1_tieUp_4 : decode cX1_tieUp 4 = .ok (.iload_n 1, 1) := by decide +kernel
theorem dX1_tieUp_5 : decode cX1_tieUp 5 = .ok (.iaload, 1) := by decide +kernel
theorem dX1_tieUp_6 : decode cX1_tieUp 6 = .ok (.iload_n 2, 1) := by decide +kernel
theorem dX1_tieUp_7 : decode cX1_tieUp 7 = .ok (.invokestatic 53, 3) := by decide +kernel
theorem dX1_tieUp_10 : decode cX1_tieUp 10 = .ok (.istore_n 3, 1) := by decide +kernel
theorem dX1_tieUp_11 : decode cX1_tieUp 11 = .ok (.aload_n 0, 1) := by decide +kernel
theorem dX1_tieUp_12 : decode cX1_tieUp 12 = .ok (.getfield 27, 3) := by decide +kernel
theorem dX1_tieUp_15 : decode cX1_tieUp 15 = .ok (.iload_n 1, 1) := by decide +kernel
theorem dX1_tieUp_16 : decode cX1_tieUp 16 = .ok (.iaload, 1) := by decide +kernel
theorem dX1_tieUp_17 : decode cX1_tieUp 17 = .ok (.iload_n 2, 1) := by decide +kernel
theorem dX1_tieUp_18 : decode cX1_tieUp 18 = .ok (.iload_n 3, 1) := by decide +kernel
theorem dX1_tieUp_19 : decode cX1_tieUp 19 = .ok (.isub, 1) := by decide +kernel
theorem dX1_tieUp_20 : decode cX1_tieUp 20 = .ok (.invokestatic 53, 3) := by decide +kernel
theorem dX1_tieUp_23 : decode cX1_tieUp 23 = .ok (.istore 4, 2) := by decide +kernel
theorem dX1_tieUp_25 : decode cX1_tieUp 25 = .ok (.aload_n 0, 1) := by decide +kernel
theorem dX1_tieUp_26 : decode cX1_tieUp 26 = .ok (.getfield 24, 3) := by decide +kernel
theorem dX1_tieUp_29 : decode cX1_tieUp 29 = .ok (.iload_n 1, 1) := by decide +kernel
theorem dX1_tieUp_30 : decode cX1_tieUp 30 = .ok (.dup2, 1) := by decide +kernel
theorem dX1_tieUp_31 : decode cX1_tieUp 31 = .ok (.iaload, 1) := by decide +kernel
theorem dX1_tieUp_32 : decode cX1_tieUp 32 = .ok (.iload_n 3, 1) := by decide +kernel
theorem dX1_tieUp_33 : decode cX1_tieUp 33 = .ok (.isub, 1) := by decide +kernel
theorem dX1_tieUp_34 : decode cX1_tieUp 34 = .ok (.iastore, 1) := by decide +kernel
theorem dX1_tieUp_35 : decode cX1_tieUp 35 = .ok (.aload_n 0, 1) := by decide +kernel
theorem dX1_tieUp_36 : decode cX1_tieUp 36 = .ok (.getfield 27, 3) := by decide +kernel
theorem dX1_tieUp_39 : decode cX1_tieUp 39 = .ok (.iload_n 1, 1) := by decide +kernel
theorem dX1_tieUp_40 : decode cX1_tieUp 40 = .ok (.dup2, 1) := by decide +kernel
theorem dX1_tieUp_41 : decode cX1_tieUp 41 = .ok (.iaload, 1) := by decide +kernel
theorem dX1_tieUp_42 : decode cX1_tieUp 42 = .ok (.iload 4, 2) := by decide +kernel
theorem dX1_tieUp_44 : decode cX1_tieUp 44 = .ok (.isub, 1) := by decide +kernel
theorem dX1_tieUp_45 : decode cX1_tieUp 45 = .ok (.iastore, 1) := by decide +kernel
theorem dX1_tieUp_46 : decode cX1_tieUp 46 = .ok (.aload_n 0, 1) := by decide +kernel
theorem dX1_tieUp_47 : decode cX1_tieUp 47 = .ok (.getfield 30, 3) := by decide +kernel
theorem dX1_tieUp_50 : decode cX1_tieUp 50 = .ok (.iload_n 1, 1) := by decide +kernel
theorem dX1_tieUp_51 : decode cX1_tieUp 51 = .ok (.dup2, 1) := by decide +kernel
theorem dX1_tieUp_52 : decode cX1_tieUp 52 = .ok (.iaload, 1) := by decide +kernel
theorem dX1_tieUp_53 : decode cX1_tieUp 53 = .ok (.iload_n 3, 1) := by decide +kernel
theorem dX1_tieUp_54 : decode cX1_tieUp 54 = .ok (.iadd, 1) := by decide +kernel
theorem dX1_tieUp_55 : decode cX1_tieUp 55 = .ok (.iastore, 1) := by decide +kernel
theorem dX1_tieUp_56 : decode cX1_tieUp 56 = .ok (.aload_n 0, 1) := by decide +kernel
theorem dX1_tieUp_57 : decode cX1_tieUp 57 = .ok (.getfield 33, 3) := by decide +kernel
theorem dX1_tieUp_60 : decode cX1_tieUp 60 = .ok (.iload_n 1, 1) := by decide +kernel
theorem dX1_tieUp_61 : decode cX1_tieUp 61 = .ok (.dup2, 1) := by decide +kernel
theorem dX1_tieUp_62 : decode cX1_tieUp 62 = .ok (.iaload, 1) := by decide +kernel
theorem dX1_tieUp_63 : decode cX1_tieUp 63 = .ok (.iload 4, 2) := by decide +kernel
theorem dX1_tieUp_65 : decode cX1_tieUp 65 = .ok (.iadd, 1) := by decide +kernel
theorem dX1_tieUp_66 : decode cX1_tieUp 66 = .ok (.iastore, 1) := by decide +kernel
theorem dX1_tieUp_67 : decode cX1_tieUp 67 = .ok (.iload_n 3, 1) := by decide +kernel
theorem dX1_tieUp_68 : decode cX1_tieUp 68 = .ok (.iload 4, 2) := by decide +kernel
theorem dX1_tieUp_70 : decode cX1_tieUp 70 = .ok (.iadd, 1) := by decide +kernel
theorem dX1_tieUp_71 : decode cX1_tieUp 71 = .ok (.ireturn, 1) := by decide +kernel
set_option maxRecDepth 20000 in
theorem ggX1_rot_X4_tenthRoundedUp : GoodIn wsX1_rot wsX4_tenthRoundedUp := goodIn_r _ [6] (by decide +kernel) (by decide +kernel)
set_option maxRecDepth 20000 in
theorem gX1_rot_X4_tenthRoundedUp_n59 : GoodIn wsX1_rot (wsX4_tenthRoundedUp) := ggX1_rot_X4_tenthRoundedUp
theorem dX1_rot_0 : decode cX1_rot 0 = .ok (.iconst 0, 1) := by decide +kernel
theorem dX1_rot_1 : decode cX1_rot 1 = .ok (.istore_n 1, 1) := by decide +kernel
theorem dX1_rot_2 : decode cX1_rot 2 = .ok (.iconst 0, 1) := by decide +kernel
theorem dX1_rot_3 : decode cX1_rot 3 = .ok (.istore_n 2, 1) := by decide +kernel
theorem dX1_rot_4 : decode cX1_rot 4 = .ok (.iload_n 2, 1) := by decide +kernel
theorem dX1_rot_5 : decode cX1_rot 5 = .ok (.aload_n 0, 1) := by decide +kernel
theorem dX1_rot_6 : decode cX1_rot 6 = .ok (.getfield 39, 3) := by decide +kernel
theorem dX1_rot_9 : decode cX1_rot 9 = .ok (.if_icmp .ge 58, 3) := by decide +kernel
theorem dX1_rot_12 : decode cX1_rot 12 = .ok (.aload_n 0, 1) := by decide +kernel
theorem dX1_rot_13 : decode cX1_rot 13 = .ok (.getfield 24, 3) := by decide +kernel
theorem dX1_rot_16 : decode cX1_rot 16 = .ok (.iload_n 2, 1) := by decide +kernel
theorem dX1_rot_17 : decode cX1_rot 17 = .ok (.iaload, 1) := by decide +kernel
theorem dX1_rot_18 : decode cX1_rot 18 = .ok (.invokestatic 59, 3) := by decide +kernel
theorem dX1_rot_21 : decode cX1_rot 21 = .ok (.istore_n 3, 1) := by decide +kernel
theorem dX1_rot_22 : decode cX1_rot 22 = .ok (.aload_n 0, 1) := by decide +kernel
theorem dX1_rot_23 : decode cX1_rot 23 = .ok (.getfield 27, 3) := by decide +kernel
theorem dX1_rot_26 : decode cX1_rot 26 = .ok (.iload_n 2, 1) := by decide +kernel
theorem dX1_rot_27 : decode cX1_rot 27 = .ok (.iaload, 1) := by decide +kernel
theorem dX1_rot_28 : decode cX1_rot 28 = .ok (.invokestatic 59, 3) := by decide +kernel
theorem dX1_rot_31 : decode cX1_rot 31 = .ok (.istore 4, 2) := by decide +kernel
theorem dX1_rot_33 : decode cX1_rot 33 = .ok (.aload_n 0, 1) := by decide +kernel
theorem dX1_rot_34 : decode cX1_rot 34 = .ok (.getfield 24, 3) := by decide +kernel
theorem dX1_rot_37 : decode cX1_rot 37 = .ok (.iload_n 2, 1) := by decide +kernel
theorem dX1_rot_38 : decode cX1_rot 38 = .ok (.dup2, 1) := by decide +kernel
theorem dX1_rot_39 : decode cX1_rot 39 = .ok (.iaload, 1) := by decide +kernel
theorem dX1_rot_40 : decode cX1_rot 40 = .ok (.iload_n 3, 1) := by decide +kernel
theorem dX1_rot_41 : decode cX1_rot 41 = .ok (.isub, 1) := by decide +kernel
theorem dX1_rot_42 : decode cX1_rot 42 = .ok (.iastore, 1) := by decide +kernel
theorem dX1_rot_43 : decode cX1_rot 43 = .ok (.aload_n 0, 1) := by decide +kernel
theorem dX1_rot_44 : decode cX1_rot 44 = .ok (.getfield 27, 3) := by decide +kernel
theorem dX1_rot_47 : decode cX1_rot 47 = .ok (.iload_n 2, 1) := by decide +kernel
theorem dX1_rot_48 : decode cX1_rot 48 = .ok (.dup2, 1) := by decide +kernel
theorem dX1_rot_49 : decode cX1_rot 49 = .ok (.iaload, 1) := by decide +kernel
theorem dX1_rot_50 : decode cX1_rot 50 = .ok (.iload 4, 2) := by decide +kernel
theorem dX1_rot_52 : decode cX1_rot 52 = .ok (.isub, 1) := by decide +kernel
theorem dX1_rot_53 : decode cX1_rot 53 = .ok (.iastore, 1) := by decide +kernel
theorem dX1_rot_54 : decode cX1_rot 54 = .ok (.iload_n 1, 1) := by decide +kernel
theorem dX1_rot_55 : decode cX1_rot 55 = .ok (.iload_n 3, 1) := by decide +kernel
theorem dX1_rot_56 : decode cX1_rot 56 = .ok (.iload 4, 2) := by decide +kernel
theorem dX1_rot_58 : decode cX1_rot 58 = .ok (.iadd, 1) := by decide +kernel
theorem dX1_rot_59 : decode cX1_rot 59 = .ok (.iadd, 1) := by decide +kernel
theorem dX1_rot_60 : decode cX1_rot 60 = .ok (.istore_n 1, 1) := by decide +kernel
theorem dX1_rot_61 : decode cX1_rot 61 = .ok (.iinc 2 1, 3) := by decide +kernel
theorem dX1_rot_64 : decode cX1_rot 64 = .ok (.goto (-60), 3) := by decide +kernel
theorem dX1_rot_67 : decode cX1_rot 67 = .ok (.iload_n 1, 1) := by decide +kernel
theorem dX1_rot_68 : decode cX1_rot 68 = .ok (.ireturn, 1) := by decide +kernel
set_option maxRecDepth 20000 in
theorem ggX1_endYear_X1_changeByAge : GoodIn wsX1_endYear wsX1_changeByAge := goodIn_r _ [15] (by decide +kernel) (by decide +kernel)
set_option maxRecDepth 20000 in
theorem gX1_endYear_X1_changeByAge : GoodIn wsX1_endYear (va_wsS RX1 62 yX1_changeByAge wsX1_changeByAge) := goodIn_app (goodIn_of _ (by decide +kernel)) ggX1_endYear_X1_changeByAge
set_option maxRecDepth 20000 in
theorem ggX1_endYear_X1_isCreptInto : GoodIn wsX1_endYear wsX1_isCreptInto := goodIn_r _ [19, 1, 20, 21, 22, 7, 23, 4, 24, 25, 26, 27, 28, 29, 30, 31, 32, 33] (by decide +kernel) (by decide +kernel)
set_option maxRecDepth 20000 in
theorem gX1_endYear_X1_isCreptInto : GoodIn wsX1_endYear (wsV RX1 65 RX1 yX1_isCreptInto wsX1_isCreptInto) := goodIn_app (goodIn_of _ (by decide +kernel)) ggX1_endYear_X1_isCreptInto
theorem dX1_endYear_0 : decode cX1_endYear 0 = .ok (.iconst 0, 1) := by decide +kernel
theorem dX1_endYear_1 : decode cX1_endYear 1 = .ok (.istore_n 1, 1) := by decide +kernel
theorem dX1_endYear_2 : decode cX1_endYear 2 = .ok (.iload_n 1, 1) := by decide +kernel
theorem dX1_endYear_3 : decode cX1_endYear 3 = .ok (.aload_n 0, 1) := by decide +kernel
theorem dX1_endYear_4 : decode cX1_endYear 4 = .ok (.getfield 39, 3) := by decide +kernel
theorem dX1_endYear_7 : decode cX1_endYear 7 = .ok (.if_icmp .ge 38, 3) := by decide +kernel
theorem dX1_endYear_10 : decode cX1_endYear 10 = .ok (.aload_n 0, 1) := by decide +kernel
theorem dX1_endYear_11 : decode cX1_endYear 11 = .ok (.getfield 36, 3) := by decide +kernel
theorem dX1_endYear_14 : decode cX1_endYear 14 = .ok (.iload_n 1, 1) := by decide +kernel
theorem dX1_endYear_15 : decode cX1_endYear 15 = .ok (.aload_n 0, 1) := by decide +kernel
theorem dX1_endYear_16 : decode cX1_endYear 16 = .ok (.getfield 18, 3) := by decide +kernel
theorem dX1_endYear_19 : decode cX1_endYear 19 = .ok (.iload_n 1, 1) := by decide +kernel
theorem dX1_endYear_20 : decode cX1_endYear 20 = .ok (.iaload, 1) := by decide +kernel
theorem dX1_endYear_21 : decode cX1_endYear 21 = .ok (.invokestatic 62, 3) := by decide +kernel
theorem dX1_endYear_24 : decode cX1_endYear 24 = .ok (.aload_n 0, 1) := by decide +kernel
theorem dX1_endYear_25 : decode cX1_endYear 25 = .ok (.iload_n 1, 1) := by decide +kernel
theorem dX1_endYear_26 : decode cX1_endYear 26 = .ok (.invokevirtual 65, 3) := by decide +kernel
theorem dX1_endYear_29 : decode cX1_endYear 29 = .ok (.ifCond .eq 7, 3) := by decide +kernel
theorem dX1_endYear_32 : decode cX1_endYear 32 = .ok (.iconst 3, 1) := by decide +kernel
theorem dX1_endYear_33 : decode cX1_endYear 33 = .ok (.goto 4, 3) := by decide +kernel
theorem dX1_endYear_36 : decode cX1_endYear 36 = .ok (.iconst 0, 1) := by decide +kernel
theorem dX1_endYear_37 : decode cX1_endYear 37 = .ok (.isub, 1) := by decide +kernel
theorem dX1_endYear_38 : decode cX1_endYear 38 = .ok (.iastore, 1) := by decide +kernel
theorem dX1_endYear_39 : decode cX1_endYear 39 = .ok (.iinc 1 1, 3) := by decide +kernel
theorem dX1_endYear_42 : decode cX1_endYear 42 = .ok (.goto (-40), 3) := by decide +kernel
theorem dX1_endYear_45 : decode cX1_endYear 45 = .ok (.iconst 0, 1) := by decide +kernel
theorem dX1_endYear_46 : decode cX1_endYear 46 = .ok (.istore_n 1, 1) := by decide +kernel
theorem dX1_endYear_47 : decode cX1_endYear 47 = .ok (.iload_n 1, 1) := by decide +kernel
theorem dX1_endYear_48 : decode cX1_endYear 48 = .ok (.aload_n 0, 1) := by decide +kernel
theorem dX1_endYear_49 : decode cX1_endYear 49 = .ok (.getfield 39, 3) := by decide +kernel
theorem dX1_endYear_52 : decode cX1_endYear 52 = .ok (.if_icmp .ge 56, 3) := by decide +kernel
theorem dX1_endYear_55 : decode cX1_endYear 55 = .ok (.aload_n 0, 1) := by decide +kernel
theorem dX1_endYear_56 : decode cX1_endYear 56 = .ok (.getfield 21, 3) := by decide +kernel
theorem dX1_endYear_59 : decode cX1_endYear 59 = .ok (.iload_n 1, 1) := by decide +kernel
theorem dX1_endYear_60 : decode cX1_endYear 60 = .ok (.iconst 0, 1) := by decide +kernel
theorem dX1_endYear_61 : decode cX1_endYear 61 = .ok (.bipush 100, 2) := by decide +kernel
theorem dX1_endYear_63 : decode cX1_endYear 63 = .ok (.aload_n 0, 1) := by decide +kernel
theorem dX1_endYear_64 : decode cX1_endYear 64 = .ok (.getfield 21, 3) := by decide +kernel
theorem dX1_endYear_67 : decode cX1_endYear 67 = .ok (.iload_n 1, 1) := by decide +kernel
theorem dX1_endYear_68 : decode cX1_endYear 68 = .ok (.iaload, 1) := by decide +kernel
theorem dX1_endYear_69 : decode cX1_endYear 69 = .ok (.aload_n 0, 1) := by decide +kernel
theorem dX1_endYear_70 : decode cX1_endYear 70 = .ok (.getfield 36, 3) := by decide +kernel
theorem dX1_endYear_73 : decode cX1_endYear 73 = .ok (.iload_n 1, 1) := by decide +kernel
theorem dX1_endYear_74 : decode cX1_endYear 74 = .ok (.iaload, 1) := by decide +kernel
theorem dX1_endYear_75 : decode cX1_endYear 75 = .ok (.iadd, 1) := by decide +kernel
theorem dX1_endYear_76 : decode cX1_endYear 76 = .ok (.invokestatic 53, 3) := by decide +kernel
theorem dX1_endYear_79 : decode cX1_endYear 79 = .ok (.invokestatic 69, 3) := by decide +kernel
theorem dX1_endYear_82 : decode cX1_endYear 82 = .ok (.iastore, 1) := by decide +kernel
theorem dX1_endYear_83 : decode cX1_endYear 83 = .ok (.aload_n 0, 1) := by decide +kernel
theorem dX1_endYear_84 : decode cX1_endYear 84 = .ok (.getfield 18, 3) := by decide +kernel
theorem dX1_endYear_87 : decode cX1_endYear 87 = .ok (.iload_n 1, 1) := by decide +kernel
theorem dX1_endYear_88 : decode cX1_endYear 88 = .ok (.bipush 9, 2) := by decide +kernel
theorem dX1_endYear_90 : decode cX1_endYear 90 = .ok (.aload_n 0, 1) := by decide +kernel
theorem dX1_endYear_91 : decode cX1_endYear 91 = .ok (.getfield 18, 3) := by decide +kernel
theorem dX1_endYear_94 : decode cX1_endYear 94 = .ok (.iload_n 1, 1) := by decide +kernel
theorem dX1_endYear_95 : decode cX1_endYear 95 = .ok (.iaload, 1) := by decide +kernel
theorem dX1_endYear_96 : decode cX1_endYear 96 = .ok (.iconst 1, 1) := by decide +kernel
theorem dX1_endYear_97 : decode cX1_endYear 97 = .ok (.iadd, 1) := by decide +kernel
theorem dX1_endYear_98 : decode cX1_endYear 98 = .ok (.invokestatic 53, 3) := by decide +kernel
theorem dX1_endYear_101 : decode cX1_endYear 101 = .ok (.iastore, 1) := by decide +kernel
theorem dX1_endYear_102 : decode cX1_endYear 102 = .ok (.iinc 1 1, 3) := by decide +kernel
theorem dX1_endYear_105 : decode cX1_endYear 105 = .ok (.goto (-58), 3) := by decide +kernel
theorem dX1_endYear_108 : decode cX1_endYear 108 = .ok (.return_, 1) := by decide +kernel
theorem dX1_changeByAge_0 : decode cX1_changeByAge 0 = .ok (.iload_n 0, 1) := by decide +kernel
theorem dX1_changeByAge_1 : decode cX1_changeByAge 1 = .ok (.bipush 6, 2) := by decide +kernel
theorem dX1_changeByAge_3 : decode cX1_changeByAge 3 = .ok (.if_icmp .lt 6, 3) := by decide +kernel
theorem dX1_changeByAge_6 : decode cX1_changeByAge 6 = .ok (.bipush (-6), 2) := by decide +kernel
theorem dX1_changeByAge_8 : decode cX1_changeByAge 8 = .ok (.ireturn, 1) := by decide +kernel
theorem dX1_changeByAge_9 : decode cX1_changeByAge 9 = .ok (.iload_n 0, 1) := by decide +kernel
theorem dX1_changeByAge_10 : decode cX1_changeByAge 10 = .ok (.iconst 1, 1) := by decide +kernel
theorem dX1_changeByAge_11 : decode cX1_changeByAge 11 = .ok (.if_icmp .lt 7, 3) := by decide +kernel
theorem dX1_changeByAge_14 : decode cX1_changeByAge 14 = .ok (.iconst 2, 1) := by decide +kernel
theorem dX1_changeByAge_15 : decode cX1_changeByAge 15 = .ok (.goto 4, 3) := by decide +kernel
theorem dX1_changeByAge_18 : decode cX1_changeByAge 18 = .ok (.iconst 0, 1) := by decide +kernel
theorem dX1_changeByAge_19 : decode cX1_changeByAge 19 = .ok (.ireturn, 1) := by decide +kernel
theorem dX1_isCreptInto_0 : decode cX1_isCreptInto 0 = .ok (.iconst 0, 1) := by decide +kernel
theorem dX1_isCreptInto_1 : decode cX1_isCreptInto 1 = .ok (.istore_n 2, 1) := by decide +kernel
theorem dX1_isCreptInto_2 : decode cX1_isCreptInto 2 = .ok (.iload_n 2, 1) := by decide +kernel
theorem dX1_isCreptInto_3 : decode cX1_isCreptInto 3 = .ok (.aload_n 0, 1) := by decide +kernel
theorem dX1_isCreptInto_4 : decode cX1_isCreptInto 4 = .ok (.getfield 39, 3) := by decide +kernel
theorem dX1_isCreptInto_7 : decode cX1_isCreptInto 7 = .ok (.if_icmp .ge 49, 3) := by decide +kernel
theorem dX1_isCreptInto_10 : decode cX1_isCreptInto 10 = .ok (.aload_n 0, 1) := by decide +kernel
theorem dX1_isCreptInto_11 : decode cX1_isCreptInto 11 = .ok (.getfield 9, 3) := by decide +kernel
theorem dX1_isCreptInto_14 : decode cX1_isCreptInto 14 = .ok (.iload_n 2, 1) := by decide +kernel
theorem dX1_isCreptInto_15 : decode cX1_isCreptInto 15 = .ok (.iaload, 1) := by decide +kernel
theorem dX1_isCreptInto_16 : decode cX1_isCreptInto 16 = .ok (.aload_n 0, 1) := by decide +kernel
theorem dX1_isCreptInto_17 : decode cX1_isCreptInto 17 = .ok (.getfield 9, 3) := by decide +kernel
theorem dX1_isCreptInto_20 : decode cX1_isCreptInto 20 = .ok (.iload_n 1, 1) := by decide +kernel
theorem dX1_isCreptInto_21 : decode cX1_isCreptInto 21 = .ok (.iaload, 1) := by decide +kernel
theorem dX1_isCreptInto_22 : decode cX1_isCreptInto 22 = .ok (.isub, 1) := by decide +kernel
theorem dX1_isCreptInto_23 : decode cX1_isCreptInto 23 = .ok (.invokestatic 72, 3) := by decide +kernel
theorem dX1_isCreptInto_26 : decode cX1_isCreptInto 26 = .ok (.iconst 4, 1) := by decide +kernel
theorem dX1_isCreptInto_27 : decode cX1_isCreptInto 27 = .ok (.if_icmp .gt 23, 3) := by decide +kernel
theorem dX1_isCreptInto_30 : decode cX1_isCreptInto 30 = .ok (.aload_n 0, 1) := by decide +kernel
theorem dX1_isCreptInto_31 : decode cX1_isCreptInto 31 = .ok (.getfield 21, 3) := by decide +kernel
theorem dX1_isCreptInto_34 : decode cX1_isCreptInto 34 = .ok (.iload_n 1, 1) := by decide +kernel
theorem dX1_isCreptInto_35 : decode cX1_isCreptInto 35 = .ok (.iaload, 1) := by decide +kernel
theorem dX1_isCreptInto_36 : decode cX1_isCreptInto 36 = .ok (.aload_n 0, 1) := by decide +kernel
theorem dX1_isCreptInto_37 : decode cX1_isCreptInto 37 = .ok (.getfield 21, 3) := by decide +kernel
theorem dX1_isCreptInto_40 : decode cX1_isCreptInto 40 = .ok (.iload_n 2, 1) := by decide +kernel
theorem dX1_isCreptInto_41 : decode cX1_isCreptInto 41 = .ok (.iaload, 1) := by decide +kernel
theorem dX1_isCreptInto_42 : decode cX1_isCreptInto 42 = .ok (.isub, 1) := by decide +kernel
theorem dX1_isCreptInto_43 : decode cX1_isCreptInto 43 = .ok (.bipush 30, 2) := by decide +kernel
theorem dX1_isCreptInto_45 : decode cX1_isCreptInto 45 = .ok (.if_icmp .lt 5, 3) := by decide +kernel
theorem dX1_isCreptInto_48 : decode cX1_isCreptInto 48 = .ok (.iconst 1, 1) := by decide +kernel
theorem dX1_isCreptInto_49 : decode cX1_isCreptInto 49 = .ok (.ireturn, 1) := by decide +kernel
theorem dX1_isCreptInto_50 : decode cX1_isCreptInto 50 = .ok (.iinc 2 1, 3) := by decide +kernel
theorem dX1_isCreptInto_53 : decode cX1_isCreptInto 53 = .ok (.goto (-51), 3) := by decide +kernel
theorem dX1_isCreptInto_56 : decode cX1_isCreptInto 56 = .ok (.iconst 0, 1) := by decide +kernel
theorem dX1_isCreptInto_57 : decode cX1_isCreptInto 57 = .ok (.ireturn, 1) := by decide +kernel
set_option maxRecDepth 20000 in
theorem ggX1_tell_X1_given : GoodIn wsX1_tell wsX1_given := goodIn_r _ [13, 3, 2, 18, 19, 20, 21, 22, 23, 24, 25, 26, 27] (by decide +kernel) (by decide +kernel)
set_option maxRecDepth 20000 in
theorem gX1_tell_X1_given : GoodIn wsX1_tell (wsV RX1 46 RX1 yX1_given wsX1_given) := goodIn_app (goodIn_of _ (by decide +kernel)) ggX1_tell_X1_given
set_option maxRecDepth 20000 in
theorem ggX1_tell_X1_sedgeGiven : GoodIn wsX1_tell wsX1_sedgeGiven := goodIn_r _ [17, 4, 9, 10, 11, 12, 13, 3, 2, 18, 19, 20, 21, 22, 23, 24, 25, 26, 27] (by decide +kernel) (by decide +kernel)
set_option maxRecDepth 20000 in
theorem gX1_tell_X1_sedgeGiven : GoodIn wsX1_tell (wsV RX1 50 RX1 yX1_sedgeGiven wsX1_sedgeGiven) := goodIn_app (goodIn_of _ (by decide +kernel)) ggX1_tell_X1_sedgeGiven
theorem dX1_tell_0 : decode cX1_tell 0 = .ok (.iload_n 2, 1) := by decide +kernel
theorem dX1_tell_1 : decode cX1_tell 1 = .ok (.tableswitch 112 0 8 #[51, 58, 65, 72, 79, 85, 91, 98, 105], 51) := by decide +kernel
theorem dX1_tell_52 : decode cX1_tell 52 = .ok (.aload_n 0, 1) := by decide +kernel
theorem dX1_tell_53 : decode cX1_tell 53 = .ok (.getfield 9, 3) := by decide +kernel
theorem dX1_tell_56 : decode cX1_tell 56 = .ok (.iload_n 1, 1) := by decide +kernel
theorem dX1_tell_57 : decode cX1_tell 57 = .ok (.iaload, 1) := by decide +kernel
theorem dX1_tell_58 : decode cX1_tell 58 = .ok (.ireturn, 1) := by decide +kernel
theorem dX1_tell_59 : decode cX1_tell 59 = .ok (.aload_n 0, 1) := by decide +kernel
theorem dX1_tell_60 : decode cX1_tell 60 = .ok (.getfield 15, 3) := by decide +kernel
theorem dX1_tell_63 : decode cX1_tell 63 = .ok (.iload_n 1, 1) := by decide +kernel
theorem dX1_tell_64 : decode cX1_tell 64 = .ok (.iaload, 1) := by decide +kernel
theorem dX1_tell_65 : decode cX1_tell 65 = .ok (.ireturn, 1) := by decide +kernel
theorem dX1_tell_66 : decode cX1_tell 66 = .ok (.aload_n 0, 1) := by decide +kernel
theorem dX1_tell_67 : decode cX1_tell 67 = .ok (.getfield 18, 3) := by decide +kernel
theorem dX1_tell_70 : decode cX1_tell 70 = .ok (.iload_n 1, 1) := by decide +kernel
theorem dX1_tell_71 : decode cX1_tell 71 = .ok (.iaload, 1) := by decide +kernel
theorem dX1_tell_72 : decode cX1_tell 72 = .ok (.ireturn, 1) := by decide +kernel
theorem dX1_tell_73 : decode cX1_tell 73 = .ok (.aload_n 0, 1) := by decide +kernel
theorem dX1_tell_74 : decode cX1_tell 74 = .ok (.getfield 21, 3) := by decide +kernel
theorem dX1_tell_77 : decode cX1_tell 77 = .ok (.iload_n 1, 1) := by decide +kernel
theorem dX1_tell_78 : decode cX1_tell 78 = .ok (.iaload, 1) := by decide +kernel
theorem dX1_tell_79 : decode cX1_tell 79 = .ok (.ireturn, 1) := by decide +kernel
theorem dX1_tell_80 : decode cX1_tell 80 = .ok (.aload_n 0, 1) := by decide +kernel
theorem dX1_tell_81 : decode cX1_tell 81 = .ok (.iload_n 1, 1) := by decide +kernel
theorem dX1_tell_82 : decode cX1_tell 82 = .ok (.invokevirtual 46, 3) := by decide +kernel
theorem dX1_tell_85 : decode cX1_tell 85 = .ok (.ireturn, 1) := by decide +kernel
theorem dX1_tell_86 : decode cX1_tell 86 = .ok (.aload_n 0, 1) := by decide +kernel
theorem dX1_tell_87 : decode cX1_tell 87 = .ok (.iload_n 1, 1) := by decide +kernel
theorem dX1_tell_88 : decode cX1_tell 88 = .ok (.invokevirtual 50, 3) := by decide +kernel
theorem dX1_tell_91 : decode cX1_tell 91 = .ok (.ireturn, 1) := by decide +kernel
theorem dX1_tell_92 : decode cX1_tell 92 = .ok (.aload_n 0, 1) := by decide +kernel
theorem dX1_tell_93 : decode cX1_tell 93 = .ok (.getfield 24, 3) := by decide +kernel
theorem dX1_tell_96 : decode cX1_tell 96 = .ok (.iload_n 1, 1) := by decide +kernel
theorem dX1_tell_97 : decode cX1_tell 97 = .ok (.iaload, 1) := by decide +kernel
theorem dX1_tell_98 : decode cX1_tell 98 = .ok (.ireturn, 1) := by decide +kernel
theorem dX1_tell_99 : decode cX1_tell 99 = .ok (.aload_n 0, 1) := by decide +kernel
theorem dX1_tell_100 : decode cX1_tell 100 = .ok (.getfield 27, 3) := by decide +kernel
theorem dX1_tell_103 : decode cX1_tell 103 = .ok (.iload_n 1, 1) := by decide +kernel
theorem dX1_tell_104 : decode cX1_tell 104 = .ok (.iaload, 1) := by decide +kernel
theorem dX1_tell_105 : decode cX1_tell 105 = .ok (.ireturn, 1) := by decide +kernel
theorem dX1_tell_106 : decode cX1_tell 106 = .ok (.aload_n 0, 1) := by decide +kernel
theorem dX1_tell_107 : decode cX1_tell 107 = .ok (.getfield 30, 3) := by decide +kernel
theorem dX1_tell_110 : decode cX1_tell 110 = .ok (.iload_n 1, 1) := by decide +kernel
theorem dX1_tell_111 : decode cX1_tell 111 = .ok (.iaload, 1) := by decide +kernel
theorem dX1_tell_112 : decode cX1_tell 112 = .ok (.ireturn, 1) := by decide +kernel
theorem dX1_tell_113 : decode cX1_tell 113 = .ok (.aload_n 0, 1) := by decide +kernel
theorem dX1_tell_114 : decode cX1_tell 114 = .ok (.getfield 33, 3) := by decide +kernel
theorem dX1_tell_117 : decode cX1_tell 117 = .ok (.iload_n 1, 1) := by decide +kernel
theorem dX1_tell_118 : decode cX1_tell 118 = .ok (.iaload, 1) := by decide +kernel
theorem dX1_tell_119 : decode cX1_tell 119 = .ok (.ireturn, 1) := by decide +kernel
theorem dX1_sedgeOfAll_0 : decode cX1_sedgeOfAll 0 = .ok (.iconst 0, 1) := by decide +kernel
theorem dX1_sedgeOfAll_1 : decode cX1_sedgeOfAll 1 = .ok (.istore_n 1, 1) := by decide +kernel
theorem dX1_sedgeOfAll_2 : decode cX1_sedgeOfAll 2 = .ok (.iconst 0, 1) := by decide +kernel
theorem dX1_sedgeOfAll_3 : decode cX1_sedgeOfAll 3 = .ok (.istore_n 2, 1) := by decide +kernel
theorem dX1_sedgeOfAll_4 : decode cX1_sedgeOfAll 4 = .ok (.iload_n 2, 1) := by decide +kernel
theorem dX1_sedgeOfAll_5 : decode cX1_sedgeOfAll 5 = .ok (.aload_n 0, 1) := by decide +kernel
theorem dX1_sedgeOfAll_6 : decode cX1_sedgeOfAll 6 = .ok (.getfield 39, 3) := by decide +kernel
theorem dX1_sedgeOfAll_9 : decode cX1_sedgeOfAll 9 = .ok (.if_icmp .ge 18, 3) := by decide +kernel
theorem dX1_sedgeOfAll_12 : decode cX1_sedgeOfAll 12 = .ok (.iload_n 1, 1) := by decide +kernel
theorem dX1_sedgeOfAll_13 : decode cX1_sedgeOfAll 13 = .ok (.aload_n 0, 1) := by decide +kernel
theorem dX1_sedgeOfAll_14 : decode cX1_sedgeOfAll 14 = .ok (.getfield 21, 3) := by decide +kernel
theorem dX1_sedgeOfAll_17 : decode cX1_sedgeOfAll 17 = .ok (.iload_n 2, 1) := by decide +kernel
theorem dX1_sedgeOfAll_18 : decode cX1_sedgeOfAll 18 = .ok (.iaload, 1) := by decide +kernel
theorem dX1_sedgeOfAll_19 : decode cX1_sedgeOfAll 19 = .ok (.iadd, 1) := by decide +kernel
theorem dX1_sedgeOfAll_20 : decode cX1_sedgeOfAll 20 = .ok (.istore_n 1, 1) := by decide +kernel
theorem dX1_sedgeOfAll_21 : decode cX1_sedgeOfAll 21 = .ok (.iinc 2 1, 3) := by decide +kernel
theorem dX1_sedgeOfAll_24 : decode cX1_sedgeOfAll 24 = .ok (.goto (-20), 3) := by decide +kernel
theorem dX1_sedgeOfAll_27 : decode cX1_sedgeOfAll 27 = .ok (.iload_n 1, 1) := by decide +kernel
theorem dX1_sedgeOfAll_28 : decode cX1_sedgeOfAll 28 = .ok (.ireturn, 1) := by decide +kernel
set_option maxRecDepth 20000 in
theorem ggX1_givenByAll_X1_given : GoodIn wsX1_givenByAll wsX1_given := goodIn_r _ [6, 7, 8, 9, 10, 11, 12, 13, 14, 15, 16, 17, 18] (by decide +kernel) (by decide +kernel)
set_option maxRecDepth 20000 in
theorem gX1_givenByAll_X1_given : GoodIn wsX1_givenByAll (wsV RX1 46 RX1 yX1_given wsX1_given) := goodIn_app (goodIn_of _ (by decide +kernel)) ggX1_givenByAll_X1_given
theorem dX1_givenByAll_0 : decode cX1_givenByAll 0 = .ok (.iconst 0, 1) := by decide +kernel
theorem dX1_givenByAll_1 : decode cX1_givenByAll 1 = .ok (.istore_n 1, 1) := by decide +kernel
theorem dX1_givenByAll_2 : decode cX1_givenByAll 2 = .ok (.iconst 0, 1) := by decide +kernel
theorem dX1_givenByAll_3 : decode cX1_givenByAll 3 = .ok (.istore_n 2, 1) := by decide +kernel
theorem dX1_givenByAll_4 : decode cX1_givenByAll 4 = .ok (.iload_n 2, 1) := by decide +kernel
theorem dX1_givenByAll_5 : decode cX1_givenByAll 5 = .ok (.aload_n 0, 1) := by decide +kernel
theorem dX1_givenByAll_6 : decode cX1_givenByAll 6 = .ok (.getfield 39, 3) := by decide +kernel
theorem dX1_givenByAll_9 : decode cX1_givenByAll 9 = .ok (.if_icmp .ge 17, 3) := by decide +kernel
theorem dX1_givenByAll_12 : decode cX1_givenByAll 12 = .ok (.iload_n 1, 1) := by decide +kernel
theorem dX1_givenByAll_13 : decode cX1_givenByAll 13 = .ok (.aload_n 0, 1) := by decide +kernel
theorem dX1_givenByAll_14 : decode cX1_givenByAll 14 = .ok (.iload_n 2, 1) := by decide +kernel
theorem dX1_givenByAll_15 : decode cX1_givenByAll 15 = .ok (.invokevirtual 46, 3) := by decide +kernel
theorem dX1_givenByAll_18 : decode cX1_givenByAll 18 = .ok (.iadd, 1) := by decide +kernel
theorem dX1_givenByAll_19 : decode cX1_givenByAll 19 = .ok (.istore_n 1, 1) := by decide +kernel
theorem dX1_givenByAll_20 : decode cX1_givenByAll 20 = .ok (.iinc 2 1, 3) := by decide +kernel
theorem dX1_givenByAll_23 : decode cX1_givenByAll 23 = .ok (.goto (-19), 3) := by decide +kernel
theorem dX1_givenByAll_26 : decode cX1_givenByAll 26 = .ok (.iload_n 1, 1) := by decide +kernel
theorem dX1_givenByAll_27 : decode cX1_givenByAll 27 = .ok (.ireturn, 1) := by decide +kernel
theorem dX1_untiedOfAll_0 : decode cX1_untiedOfAll 0 = .ok (.iconst 0, 1) := by decide +kernel
theorem dX1_untiedOfAll_1 : decode cX1_untiedOfAll 1 = .ok (.istore_n 1, 1) := by decide +kernel
theorem dX1_untiedOfAll_2 : decode cX1_untiedOfAll 2 = .ok (.iconst 0, 1) := by decide +kernel
theorem dX1_untiedOfAll_3 : decode cX1_untiedOfAll 3 = .ok (.istore_n 2, 1) := by decide +kernel
theorem dX1_untiedOfAll_4 : decode cX1_untiedOfAll 4 = .ok (.iload_n 2, 1) := by decide +kernel
theorem dX1_untiedOfAll_5 : decode cX1_untiedOfAll 5 = .ok (.aload_n 0, 1) := by decide +kernel
theorem dX1_untiedOfAll_6 : decode cX1_untiedOfAll 6 = .ok (.getfield 39, 3) := by decide +kernel
theorem dX1_untiedOfAll_9 : decode cX1_untiedOfAll 9 = .ok (.if_icmp .ge 25, 3) := by decide +kernel
theorem dX1_untiedOfAll_12 : decode cX1_untiedOfAll 12 = .ok (.iload_n 1, 1) := by decide +kernel
theorem dX1_untiedOfAll_13 : decode cX1_untiedOfAll 13 = .ok (.aload_n 0, 1) := by decide +kernel
theorem dX1_untiedOfAll_14 : decode cX1_untiedOfAll 14 = .ok (.getfield 24, 3) := by decide +kernel
theorem dX1_untiedOfAll_17 : decode cX1_untiedOfAll 17 = .ok (.iload_n 2, 1) := by decide +kernel
theorem dX1_untiedOfAll_18 : decode cX1_untiedOfAll 18 = .ok (.iaload, 1) := by decide +kernel
theorem dX1_untiedOfAll_19 : decode cX1_untiedOfAll 19 = .ok (.aload_n 0, 1) := by decide +kernel
theorem dX1_untiedOfAll_20 : decode cX1_untiedOfAll 20 = .ok (.getfield 27, 3) := by decide +kernel
theorem dX1_untiedOfAll_23 : decode cX1_untiedOfAll 23 = .ok (.iload_n 2, 1) := by decide +kernel
theorem dX1_untiedOfAll_24 : decode cX1_untiedOfAll 24 = .ok (.iaload, 1) := by decide +kernel
theorem dX1_untiedOfAll_25 : decode cX1_untiedOfAll 25 = .ok (.iadd, 1) := by decide +kernel
theorem dX1_untiedOfAll_26 : decode cX1_untiedOfAll 26 = .ok (.iadd, 1) := by decide +kernel
theorem dX1_untiedOfAll_27 : decode cX1_untiedOfAll 27 = .ok (.istore_n 1, 1) := by decide +kernel
theorem dX1_untiedOfAll_28 : decode cX1_untiedOfAll 28 = .ok (.iinc 2 1, 3) := by decide +kernel
theorem dX1_untiedOfAll_31 : decode cX1_untiedOfAll 31 = .ok (.goto (-27), 3) := by decide +kernel
theorem dX1_untiedOfAll_34 : decode cX1_untiedOfAll 34 = .ok (.iload_n 1, 1) := by decide +kernel
theorem dX1_untiedOfAll_35 : decode cX1_untiedOfAll 35 = .ok (.ireturn, 1) := by decide +kernel
theorem dX1_tiedOfAll_0 : decode cX1_tiedOfAll 0 = .ok (.iconst 0, 1) := by decide +kernel
theorem dX1_tiedOfAll_1 : decode cX1_tiedOfAll 1 = .ok (.istore_n 1, 1) := by decide +kernel
theorem dX1_tiedOfAll_2 : decode cX1_tiedOfAll 2 = .ok (.iconst 0, 1) := by decide +kernel
theorem dX1_tiedOfAll_3 : decode cX1_tiedOfAll 3 = .ok (.istore_n 2, 1) := by decide +kernel
theorem dX1_tiedOfAll_4 : decode cX1_tiedOfAll 4 = .ok (.iload_n 2, 1) := by decide +kernel
theorem dX1_tiedOfAll_5 : decode cX1_tiedOfAll 5 = .ok (.aload_n 0, 1) := by decide +kernel
theorem dX1_tiedOfAll_6 : decode cX1_tiedOfAll 6 = .ok (.getfield 39, 3) := by decide +kernel
theorem dX1_tiedOfAll_9 : decode cX1_tiedOfAll 9 = .ok (.if_icmp .ge 25, 3) := by decide +kernel
theorem dX1_tiedOfAll_12 : decode cX1_tiedOfAll 12 = .ok (.iload_n 1, 1) := by decide +kernel
theorem dX1_tiedOfAll_13 : decode cX1_tiedOfAll 13 = .ok (.aload_n 0, 1) := by decide +kernel
theorem dX1_tiedOfAll_14 : decode cX1_tiedOfAll 14 = .ok (.getfield 30, 3) := by decide +kernel
theorem dX1_tiedOfAll_17 : decode cX1_tiedOfAll 17 = .ok (.iload_n 2, 1) := by decide +kernel
theorem dX1_tiedOfAll_18 : decode cX1_tiedOfAll 18 = .ok (.iaload, 1) := by decide +kernel
theorem dX1_tiedOfAll_19 : decode cX1_tiedOfAll 19 = .ok (.aload_n 0, 1) := by decide +kernel
theorem dX1_tiedOfAll_20 : decode cX1_tiedOfAll 20 = .ok (.getfield 33, 3) := by decide +kernel
theorem dX1_tiedOfAll_23 : decode cX1_tiedOfAll 23 = .ok (.iload_n 2, 1) := by decide +kernel
theorem dX1_tiedOfAll_24 : decode cX1_tiedOfAll 24 = .ok (.iaload, 1) := by decide +kernel
theorem dX1_tiedOfAll_25 : decode cX1_tiedOfAll 25 = .ok (.iadd, 1) := by decide +kernel
theorem dX1_tiedOfAll_26 : decode cX1_tiedOfAll 26 = .ok (.iadd, 1) := by decide +kernel
theorem dX1_tiedOfAll_27 : decode cX1_tiedOfAll 27 = .ok (.istore_n 1, 1) := by decide +kernel
theorem dX1_tiedOfAll_28 : decode cX1_tiedOfAll 28 = .ok (.iinc 2 1, 3) := by decide +kernel
theorem dX1_tiedOfAll_31 : decode cX1_tiedOfAll 31 = .ok (.goto (-27), 3) := by decide +kernel
theorem dX1_tiedOfAll_34 : decode cX1_tiedOfAll 34 = .ok (.iload_n 1, 1) := by decide +kernel
theorem dX1_tiedOfAll_35 : decode cX1_tiedOfAll 35 = .ok (.ireturn, 1) := by decide +kernel
theorem dX2_init_0 : decode cX2_init 0 = .ok (.aload_n 0, 1) := by decide +kernel
theorem dX2_init_1 : decode cX2_init 1 = .ok (.invokespecial 3, 3) := by decide +kernel
theorem dX2_init_4 : decode cX2_init 4 = .ok (.aload_n 0, 1) := by decide +kernel
theorem dX2_init_5 : decode cX2_init 5 = .ok (.iconst 3, 1) := by decide +kernel
theorem dX2_init_6 : decode cX2_init 6 = .ok (.newarray .int, 2) := by decide +kernel
theorem dX2_init_8 : decode cX2_init 8 = .ok (.putfield 9, 3) := by decide +kernel
theorem dX2_init_11 : decode cX2_init 11 = .ok (.return_, 1) := by decide +kernel
theorem dX2_copyFrom_0 : decode cX2_copyFrom 0 = .ok (.iconst 0, 1) := by decide +kernel
theorem dX2_copyFrom_1 : decode cX2_copyFrom 1 = .ok (.istore_n 2, 1) := by decide +kernel
theorem dX2_copyFrom_2 : decode cX2_copyFrom 2 = .ok (.iload_n 2, 1) := by decide +kernel
theorem dX2_copyFrom_3 : decode cX2_copyFrom 3 = .ok (.iconst 3, 1) := by decide +kernel
theorem dX2_copyFrom_4 : decode cX2_copyFrom 4 = .ok (.if_icmp .ge 21, 3) := by decide +kernel
theorem dX2_copyFrom_7 : decode cX2_copyFrom 7 = .ok (.aload_n 0, 1) := by decide +kernel
theorem dX2_copyFrom_8 : decode cX2_copyFrom 8 = .ok (.getfield 9, 3) := by decide +kernel
theorem dX2_copyFrom_11 : decode cX2_copyFrom 11 = .ok (.iload_n 2, 1) := by decide +kernel
theorem dX2_copyFrom_12 : decode cX2_copyFrom 12 = .ok (.aload_n 1, 1) := by decide +kernel
theorem dX2_copyFrom_13 : decode cX2_copyFrom 13 = .ok (.getfield 9, 3) := by decide +kernel
theorem dX2_copyFrom_16 : decode cX2_copyFrom 16 = .ok (.iload_n 2, 1) := by decide +kernel
theorem dX2_copyFrom_17 : decode cX2_copyFrom 17 = .ok (.iaload, 1) := by decide +kernel
theorem dX2_copyFrom_18 : decode cX2_copyFrom 18 = .ok (.iastore, 1) := by decide +kernel
theorem dX2_copyFrom_19 : decode cX2_copyFrom 19 = .ok (.iinc 2 1, 3) := by decide +kernel
theorem dX2_copyFrom_22 : decode cX2_copyFrom 22 = .ok (.goto (-20), 3) := by decide +kernel
theorem dX2_copyFrom_25 : decode cX2_copyFrom 25 = .ok (.return_, 1) := by decide +kernel
theorem dX2_sedgePrice_0 : decode cX2_sedgePrice 0 = .ok (.iconst 1, 1) := by decide +kernel
theorem dX2_sedgePrice_1 : decode cX2_sedgePrice 1 = .ok (.getstatic 15, 3) := by decide +kernel
theorem dX2_sedgePrice_4 : decode cX2_sedgePrice 4 = .ok (.iload_n 1, 1) := by decide +kernel
theorem dX2_sedgePrice_5 : decode cX2_sedgePrice 5 = .ok (.iaload, 1) := by decide +kernel
theorem dX2_sedgePrice_6 : decode cX2_sedgePrice 6 = .ok (.aload_n 0, 1) := by decide +kernel
theorem dX2_sedgePrice_7 : decode cX2_sedgePrice 7 = .ok (.getfield 9, 3) := by decide +kernel
theorem dX2_sedgePrice_10 : decode cX2_sedgePrice 10 = .ok (.iload_n 1, 1) := by decide +kernel
theorem dX2_sedgePrice_11 : decode cX2_sedgePrice 11 = .ok (.iaload, 1) := by decide +kernel
theorem dX2_sedgePrice_12 : decode cX2_sedgePrice 12 = .ok (.bipush 25, 2) := by decide +kernel
theorem dX2_sedgePrice_14 : decode cX2_sedgePrice 14 = .ok (.idiv, 1) := by decide +kernel
theorem dX2_sedgePrice_15 : decode cX2_sedgePrice 15 = .ok (.isub, 1) := by decide +kernel
theorem dX2_sedgePrice_16 : decode cX2_sedgePrice 16 = .ok (.invokestatic 18, 3) := by decide +kernel
theorem dX2_sedgePrice_19 : decode cX2_sedgePrice 19 = .ok (.ireturn, 1) := by decide +kernel
set_option maxRecDepth 20000 in
theorem ggX2_reedPrice_X2_sedgePrice : GoodIn wsX2_reedPrice wsX2_sedgePrice := goodIn_r _ [9, 10, 1, 2, 3, 4, 11] (by decide +kernel) (by decide +kernel)
set_option maxRecDepth 20000 in
theorem gX2_reedPrice_X2_sedgePrice : GoodIn wsX2_reedPrice (wsV RX2 24 RX2 yX2_sedgePrice wsX2_sedgePrice) := goodIn_app (goodIn_of _ (by decide +kernel)) ggX2_reedPrice_X2_sedgePrice
theorem dX2_reedPrice_0 : decode cX2_reedPrice 0 = .ok (.iconst 1, 1) := by decide +kernel
theorem dX2_reedPrice_1 : decode cX2_reedPrice 1 = .ok (.aload_n 0, 1) := by decide +kernel
theorem dX2_reedPrice_2 : decode cX2_reedPrice 2 = .ok (.iload_n 1, 1) := by decide +kernel
theorem dX2_reedPrice_3 : decode cX2_reedPrice 3 = .ok (.invokevirtual 24, 3) := by decide +kernel
theorem dX2_reedPrice_6 : decode cX2_reedPrice 6 = .ok (.iconst 2, 1) := by decide +kernel
theorem dX2_reedPrice_7 : decode cX2_reedPrice 7 = .ok (.idiv, 1) := by decide +kernel
theorem dX2_reedPrice_8 : decode cX2_reedPrice 8 = .ok (.invokestatic 18, 3) := by decide +kernel
theorem dX2_reedPrice_11 : decode cX2_reedPrice 11 = .ok (.ireturn, 1) := by decide +kernel
set_option maxRecDepth 20000 in
theorem ggX2_thatch_X4_twentiethRoundedUp : GoodIn wsX2_thatch wsX4_twentiethRoundedUp := goodIn_r _ [4] (by decide +kernel) (by decide +kernel)
set_option maxRecDepth 20000 in
theorem gX2_thatch_X4_twentiethRoundedUp_n28 : GoodIn wsX2_thatch (wsX4_twentiethRoundedUp) := ggX2_thatch_X4_twentiethRoundedUp
theorem dX2_thatch_0 : decode cX2_thatch 0 = .ok (.iconst 0, 1) := by decide +kernel
theorem dX2_thatch_1 : decode cX2_thatch 1 = .ok (.istore_n 1, 1) := by decide +kernel
theorem dX2_thatch_2 : decode cX2_thatch 2 = .ok (.iload_n 1, 1) := by decide +kernel
theorem dX2_thatch_3 : decode cX2_thatch 3 = .ok (.iconst 3, 1) := by decide +kernel
theorem dX2_thatch_4 : decode cX2_thatch 4 = .ok (.if_icmp .ge 27, 3) := by decide +kernel
theorem dX2_thatch_7 : decode cX2_thatch 7 = .ok (.aload_n 0, 1) := by decide +kernel
theorem dX2_thatch_8 : decode cX2_thatch 8 = .ok (.getfield 9, 3) := by decide +kernel
theorem dX2_thatch_11 : decode cX2_thatch 11 = .ok (.iload_n 1, 1) := by decide +kernel
theorem dX2_thatch_12 : decode cX2_thatch 12 = .ok (.dup2, 1) := by decide +kernel
theorem dX2_thatch_13 : decode cX2_thatch 13 = .ok (.iaload, 1) := by decide +kernel
theorem dX2_thatch_14 : decode cX2_thatch 14 = .ok (.aload_n 0, 1) := by decide +kernel
theorem dX2_thatch_15 : decode cX2_thatch 15 = .ok (.getfield 9, 3) := by decide +kernel
theorem dX2_thatch_18 : decode cX2_thatch 18 = .ok (.iload_n 1, 1) := by decide +kernel
theorem dX2_thatch_19 : decode cX2_thatch 19 = .ok (.iaload, 1) := by decide +kernel
theorem dX2_thatch_20 : decode cX2_thatch 20 = .ok (.invokestatic 28, 3) := by decide +kernel
theorem dX2_thatch_23 : decode cX2_thatch 23 = .ok (.isub, 1) := by decide +kernel
theorem dX2_thatch_24 : decode cX2_thatch 24 = .ok (.iastore, 1) := by decide +kernel
theorem dX2_thatch_25 : decode cX2_thatch 25 = .ok (.iinc 1 1, 3) := by decide +kernel
theorem dX2_thatch_28 : decode cX2_thatch 28 = .ok (.goto (-26), 3) := by decide +kernel
theorem dX2_thatch_31 : decode cX2_thatch 31 = .ok (.return_, 1) := by decide +kernel
set_option maxRecDepth 20000 in
theorem ggX2_tell_X2_sedgePrice : GoodIn wsX2_tell wsX2_sedgePrice := goodIn_r _ [6, 1, 7, 8, 9, 10, 15] (by decide +kernel) (by decide +kernel)
set_option maxRecDepth 20000 in
theorem gX2_tell_X2_sedgePrice : GoodIn wsX2_tell (wsV RX2 24 RX2 yX2_sedgePrice wsX2_sedgePrice) := goodIn_app (goodIn_of _ (by decide +kernel)) ggX2_tell_X2_sedgePrice
set_option maxRecDepth 20000 in
theorem ggX2_tell_X2_reedPrice : GoodIn wsX2_tell wsX2_reedPrice := goodIn_r _ [14, 7, 8, 9, 10, 2, 3, 4, 5, 6, 1, 15] (by decide +kernel) (by decide +kernel)
set_option maxRecDepth 20000 in
theorem gX2_tell_X2_reedPrice : GoodIn wsX2_tell (wsV RX2 34 RX2 yX2_reedPrice wsX2_reedPrice) := goodIn_app (goodIn_of _ (by decide +kernel)) ggX2_tell_X2_reedPrice
theorem dX2_tell_0 : decode cX2_tell 0 = .ok (.iload_n 2, 1) := by decide +kernel
theorem dX2_tell_1 : decode cX2_tell 1 = .ok (.tableswitch 46 0 2 #[27, 33, 40], 27) := by decide +kernel
theorem dX2_tell_28 : decode cX2_tell 28 = .ok (.getstatic 31, 3) := by decide +kernel
theorem dX2_tell_31 : decode cX2_tell 31 = .ok (.iload_n 1, 1) := by decide +kernel
theorem dX2_tell_32 : decode cX2_tell 32 = .ok (.iaload, 1) := by decide +kernel
theorem dX2_tell_33 : decode cX2_tell 33 = .ok (.ireturn, 1) := by decide +kernel
theorem dX2_tell_34 : decode cX2_tell 34 = .ok (.aload_n 0, 1) := by decide +kernel
theorem dX2_tell_35 : decode cX2_tell 35 = .ok (.getfield 9, 3) := by decide +kernel
theorem dX2_tell_38 : decode cX2_tell 38 = .ok (.iload_n 1, 1) := by decide +kernel
theorem dX2_tell_39 : decode cX2_tell 39 = .ok (.iaload, 1) := by decide +kernel
theorem dX2_tell_40 : decode cX2_tell 40 = .ok (.ireturn, 1) := by decide +kernel
theorem dX2_tell_41 : decode cX2_tell 41 = .ok (.aload_n 0, 1) := by decide +kernel
theorem dX2_tell_42 : decode cX2_tell 42 = .ok (.iload_n 1, 1) := by decide +kernel
theorem dX2_tell_43 : decode cX2_tell 43 = .ok (.invokevirtual 24, 3) := by decide +kernel
theorem dX2_tell_46 : decode cX2_tell 46 = .ok (.ireturn, 1) := by decide +kernel
theorem dX2_tell_47 : decode cX2_tell 47 = .ok (.aload_n 0, 1) := by decide +kernel
theorem dX2_tell_48 : decode cX2_tell 48 = .ok (.iload_n 1, 1) := by decide +kernel
theorem dX2_tell_49 : decode cX2_tell 49 = .ok (.invokevirtual 34, 3) := by decide +kernel
theorem dX2_tell_52 : decode cX2_tell 52 = .ok (.ireturn, 1) := by decide +kernel
theorem dX2_storeOfAll_0 : decode cX2_storeOfAll 0 = .ok (.iconst 0, 1) := by decide +kernel
theorem dX2_storeOfAll_1 : decode cX2_storeOfAll 1 = .ok (.istore_n 1, 1) := by decide +kernel
theorem dX2_storeOfAll_2 : decode cX2_storeOfAll 2 = .ok (.iconst 0, 1) := by decide +kernel
theorem dX2_storeOfAll_3 : decode cX2_storeOfAll 3 = .ok (.istore_n 2, 1) := by decide +kernel
theorem dX2_storeOfAll_4 : decode cX2_storeOfAll 4 = .ok (.iload_n 2, 1) := by decide +kernel
theorem dX2_storeOfAll_5 : decode cX2_storeOfAll 5 = .ok (.iconst 3, 1) := by decide +kernel
theorem dX2_storeOfAll_6 : decode cX2_storeOfAll 6 = .ok (.if_icmp .ge 18, 3) := by decide +kernel
theorem dX2_storeOfAll_9 : decode cX2_storeOfAll 9 = .ok (.iload_n 1, 1) := by decide +kernel
theorem dX2_storeOfAll_10 : decode cX2_storeOfAll 10 = .ok (.aload_n 0, 1) := by decide +kernel
theorem dX2_storeOfAll_11 : decode cX2_storeOfAll 11 = .ok (.getfield 9, 3) := by decide +kernel
theorem dX2_storeOfAll_14 : decode cX2_storeOfAll 14 = .ok (.iload_n 2, 1) := by decide +kernel
theorem dX2_storeOfAll_15 : decode cX2_storeOfAll 15 = .ok (.iaload, 1) := by decide +kernel
theorem dX2_storeOfAll_16 : decode cX2_storeOfAll 16 = .ok (.iadd, 1) := by decide +kernel
theorem dX2_storeOfAll_17 : decode cX2_storeOfAll 17 = .ok (.istore_n 1, 1) := by decide +kernel
theorem dX2_storeOfAll_18 : decode cX2_storeOfAll 18 = .ok (.iinc 2 1, 3) := by decide +kernel
theorem dX2_storeOfAll_21 : decode cX2_storeOfAll 21 = .ok (.goto (-17), 3) := by decide +kernel
theorem dX2_storeOfAll_24 : decode cX2_storeOfAll 24 = .ok (.iload_n 1, 1) := by decide +kernel
theorem dX2_storeOfAll_25 : decode cX2_storeOfAll 25 = .ok (.ireturn, 1) := by decide +kernel
set_option maxRecDepth 20000 in
theorem ggX3_init_X1_init : GoodIn wsX3_init wsX1_init := goodIn_r _ [19, 20, 2, 3, 21, 22, 23, 24, 25, 26, 27, 28, 29, 30, 50, 51, 52, 53, 54, 55, 56, 57, 58, 59] (by decide +kernel) (by decide +kernel)
set_option maxRecDepth 20000 in
theorem gX3_init_X1_init_n20 : GoodIn wsX3_init (wsX1_init) := ggX3_init_X1_init
set_option maxRecDepth 20000 in
theorem ggX3_init_X0_init : GoodIn wsX3_init wsX0_init := goodIn_r _ [32, 33, 2, 3, 21, 34, 35, 36, 37, 38, 60, 61, 62, 63, 64, 65] (by decide +kernel) (by decide +kernel)
set_option maxRecDepth 20000 in
theorem gX3_init_X0_init_n27 : GoodIn wsX3_init (wsX0_init) := ggX3_init_X0_init
set_option maxRecDepth 20000 in
theorem ggX3_init_X2_init : GoodIn wsX3_init wsX2_init := goodIn_r _ [40, 41, 2, 3, 21, 42, 66] (by decide +kernel) (by decide +kernel)
set_option maxRecDepth 20000 in
theorem gX3_init_X2_init_n34 : GoodIn wsX3_init (wsX2_init) := ggX3_init_X2_init
theorem dX3_init_0 : decode cX3_init 0 = .ok (.aload_n 0, 1) := by decide +kernel
theorem dX3_init_1 : decode cX3_init 1 = .ok (.invokespecial 3, 3) := by decide +kernel
theorem dX3_init_4 : decode cX3_init 4 = .ok (.aload_n 0, 1) := by decide +kernel
theorem dX3_init_5 : decode cX3_init 5 = .ok (.bipush 20, 2) := by decide +kernel
theorem dX3_init_7 : decode cX3_init 7 = .ok (.putfield 9, 3) := by decide +kernel
theorem dX3_init_10 : decode cX3_init 10 = .ok (.aload_n 0, 1) := by decide +kernel
theorem dX3_init_11 : decode cX3_init 11 = .ok (.bipush 100, 2) := by decide +kernel
theorem dX3_init_13 : decode cX3_init 13 = .ok (.putfield 15, 3) := by decide +kernel
theorem dX3_init_16 : decode cX3_init 16 = .ok (.aload_n 0, 1) := by decide +kernel
theorem dX3_init_17 : decode cX3_init 17 = .ok (.new 18, 3) := by decide +kernel
theorem dX3_init_20 : decode cX3_init 20 = .ok (.dup, 1) := by decide +kernel
theorem dX3_init_21 : decode cX3_init 21 = .ok (.invokespecial 20, 3) := by decide +kernel
theorem dX3_init_24 : decode cX3_init 24 = .ok (.putfield 21, 3) := by decide +kernel
theorem dX3_init_27 : decode cX3_init 27 = .ok (.aload_n 0, 1) := by decide +kernel
theorem dX3_init_28 : decode cX3_init 28 = .ok (.new 25, 3) := by decide +kernel
theorem dX3_init_31 : decode cX3_init 31 = .ok (.dup, 1) := by decide +kernel
theorem dX3_init_32 : decode cX3_init 32 = .ok (.invokespecial 27, 3) := by decide +kernel
theorem dX3_init_35 : decode cX3_init 35 = .ok (.putfield 28, 3) := by decide +kernel
theorem dX3_init_38 : decode cX3_init 38 = .ok (.aload_n 0, 1) := by decide +kernel
theorem dX3_init_39 : decode cX3_init 39 = .ok (.new 32, 3) := by decide +kernel
theorem dX3_init_42 : decode cX3_init 42 = .ok (.dup, 1) := by decide +kernel
theorem dX3_init_43 : decode cX3_init 43 = .ok (.invokespecial 34, 3) := by decide +kernel
theorem dX3_init_46 : decode cX3_init 46 = .ok (.putfield 35, 3) := by decide +kernel
theorem dX3_init_49 : decode cX3_init 49 = .ok (.return_, 1) := by decide +kernel
set_option maxRecDepth 20000 in
theorem ggX3_copyFrom_X1_copyFrom : GoodIn wsX3_copyFrom wsX1_copyFrom := goodIn_r _ [12, 13, 14, 15, 16, 17, 18, 19, 20, 21, 46, 47, 48, 49, 50, 51, 52, 53, 54, 55] (by decide +kernel) (by decide +kernel)
set_option maxRecDepth 20000 in
theorem gX3_copyFrom_X1_copyFrom : GoodIn wsX3_copyFrom (wsV RX3 45 RX1 yX1_copyFrom wsX1_copyFrom) := goodIn_app (goodIn_of _ (by decide +kernel)) ggX3_copyFrom_X1_copyFrom
set_option maxRecDepth 20000 in
theorem ggX3_copyFrom_X0_copyFrom : GoodIn wsX3_copyFrom wsX0_copyFrom := goodIn_r _ [26, 27, 28, 29, 30, 31, 32, 56, 57, 58, 59, 60, 61] (by decide +kernel) (by decide +kernel)
set_option maxRecDepth 20000 in
theorem gX3_copyFrom_X0_copyFrom : GoodIn wsX3_copyFrom (wsV RX3 49 RX0 yX0_copyFrom wsX0_copyFrom) := goodIn_app (goodIn_of _ (by decide +kernel)) ggX3_copyFrom_X0_copyFrom
set_option maxRecDepth 20000 in
theorem ggX3_copyFrom_X2_copyFrom : GoodIn wsX3_copyFrom wsX2_copyFrom := goodIn_r _ [37, 38, 62] (by decide +kernel) (by decide +kernel)
set_option maxRecDepth 20000 in
theorem gX3_copyFrom_X2_copyFrom : GoodIn wsX3_copyFrom (wsV RX3 52 RX2 yX2_copyFrom wsX2_copyFrom) := goodIn_app (goodIn_of _ (by decide +kernel)) ggX3_copyFrom_X2_copyFrom
theorem dX3_copyFrom_0 : decode cX3_copyFrom 0 = .ok (.aload_n 0, 1) := by decide +kernel
theorem dX3_copyFrom_1 : decode cX3_copyFrom 1 = .ok (.aload_n 1, 1) := by decide +kernel
theorem dX3_copyFrom_2 : decode cX3_copyFrom 2 = .ok (.getfield 39, 3) := by decide +kernel
theorem dX3_copyFrom_5 : decode cX3_copyFrom 5 = .ok (.putfield 39, 3) := by decide +kernel
theorem dX3_copyFrom_8 : decode cX3_copyFrom 8 = .ok (.aload_n 0, 1) := by decide +kernel
theorem dX3_copyFrom_9 : decode cX3_copyFrom 9 = .ok (.aload_n 1, 1) := by decide +kernel
theorem dX3_copyFrom_10 : decode cX3_copyFrom 10 = .ok (.getfield 9, 3) := by decide +kernel
theorem dX3_copyFrom_13 : decode cX3_copyFrom 13 = .ok (.putfield 9, 3) := by decide +kernel
theorem dX3_copyFrom_16 : decode cX3_copyFrom 16 = .ok (.aload_n 0, 1) := by decide +kernel
theorem dX3_copyFrom_17 : decode cX3_copyFrom 17 = .ok (.aload_n 1, 1) := by decide +kernel
theorem dX3_copyFrom_18 : decode cX3_copyFrom 18 = .ok (.getfield 15, 3) := by decide +kernel
theorem dX3_copyFrom_21 : decode cX3_copyFrom 21 = .ok (.putfield 15, 3) := by decide +kernel
theorem dX3_copyFrom_24 : decode cX3_copyFrom 24 = .ok (.aload_n 0, 1) := by decide +kernel
theorem dX3_copyFrom_25 : decode cX3_copyFrom 25 = .ok (.aload_n 1, 1) := by decide +kernel
theorem dX3_copyFrom_26 : decode cX3_copyFrom 26 = .ok (.getfield 42, 3) := by decide +kernel
theorem dX3_copyFrom_29 : decode cX3_copyFrom 29 = .ok (.putfield 42, 3) := by decide +kernel
theorem dX3_copyFrom_32 : decode cX3_copyFrom 32 = .ok (.aload_n 0, 1) := by decide +kernel
theorem dX3_copyFrom_33 : decode cX3_copyFrom 33 = .ok (.getfield 21, 3) := by decide +kernel
theorem dX3_copyFrom_36 : decode cX3_copyFrom 36 = .ok (.aload_n 1, 1) := by decide +kernel
theorem dX3_copyFrom_37 : decode cX3_copyFrom 37 = .ok (.getfield 21, 3) := by decide +kernel
theorem dX3_copyFrom_40 : decode cX3_copyFrom 40 = .ok (.invokevirtual 45, 3) := by decide +kernel
theorem dX3_copyFrom_43 : decode cX3_copyFrom 43 = .ok (.aload_n 0, 1) := by decide +kernel
theorem dX3_copyFrom_44 : decode cX3_copyFrom 44 = .ok (.getfield 28, 3) := by decide +kernel
theorem dX3_copyFrom_47 : decode cX3_copyFrom 47 = .ok (.aload_n 1, 1) := by decide +kernel
theorem dX3_copyFrom_48 : decode cX3_copyFrom 48 = .ok (.getfield 28, 3) := by decide +kernel
theorem dX3_copyFrom_51 : decode cX3_copyFrom 51 = .ok (.invokevirtual 49, 3) := by decide +kernel
theorem dX3_copyFrom_54 : decode cX3_copyFrom 54 = .ok (.aload_n 0, 1) := by decide +kernel
theorem dX3_copyFrom_55 : decode cX3_copyFrom 55 = .ok (.getfield 35, 3) := by decide +kernel
theorem dX3_copyFrom_58 : decode cX3_copyFrom 58 = .ok (.aload_n 1, 1) := by decide +kernel
theorem dX3_copyFrom_59 : decode cX3_copyFrom 59 = .ok (.getfield 35, 3) := by decide +kernel
theorem dX3_copyFrom_62 : decode cX3_copyFrom 62 = .ok (.invokevirtual 52, 3) := by decide +kernel
theorem dX3_copyFrom_65 : decode cX3_copyFrom 65 = .ok (.return_, 1) := by decide +kernel
set_option maxRecDepth 20000 in
theorem ggX3_takeAboard_X0_aboard : GoodIn wsX3_takeAboard wsX0_aboard := goodIn_r _ [11, 12, 13, 31, 32, 33, 34, 35, 36] (by decide +kernel) (by decide +kernel)
set_option maxRecDepth 20000 in
theorem gX3_takeAboard_X0_aboard : GoodIn wsX3_takeAboard (wsV RX3 55 RX0 yX0_aboard wsX0_aboard) := goodIn_app (goodIn_of _ (by decide +kernel)) ggX3_takeAboard_X0_aboard
theorem dX3_takeAboard_0 : decode cX3_takeAboard 0 = .ok (.sipush 150, 3) := by decide +kernel
theorem dX3_takeAboard_3 : decode cX3_takeAboard 3 = .ok (.aload_n 0, 1) := by decide +kernel
theorem dX3_takeAboard_4 : decode cX3_takeAboard 4 = .ok (.getfield 28, 3) := by decide +kernel
theorem dX3_takeAboard_7 : decode cX3_takeAboard 7 = .ok (.iload_n 1, 1) := by decide +kernel
theorem dX3_takeAboard_8 : decode cX3_takeAboard 8 = .ok (.invokevirtual 55, 3) := by decide +kernel
theorem dX3_takeAboard_11 : decode cX3_takeAboard 11 = .ok (.isub, 1) := by decide +kernel
theorem dX3_takeAboard_12 : decode cX3_takeAboard 12 = .ok (.istore_n 3, 1) := by decide +kernel
theorem dX3_takeAboard_13 : decode cX3_takeAboard 13 = .ok (.aload_n 0, 1) := by decide +kernel
theorem dX3_takeAboard_14 : decode cX3_takeAboard 14 = .ok (.getfield 21, 3) := by decide +kernel
theorem dX3_takeAboard_17 : decode cX3_takeAboard 17 = .ok (.getfield 59, 3) := by decide +kernel
theorem dX3_takeAboard_20 : decode cX3_takeAboard 20 = .ok (.iload_n 2, 1) := by decide +kernel
theorem dX3_takeAboard_21 : decode cX3_takeAboard 21 = .ok (.iaload, 1) := by decide +kernel
theorem dX3_takeAboard_22 : decode cX3_takeAboard 22 = .ok (.iload_n 3, 1) := by decide +kernel
theorem dX3_takeAboard_23 : decode cX3_takeAboard 23 = .ok (.invokestatic 63, 3) := by decide +kernel
theorem dX3_takeAboard_26 : decode cX3_takeAboard 26 = .ok (.istore 4, 2) := by decide +kernel
theorem dX3_takeAboard_28 : decode cX3_takeAboard 28 = .ok (.aload_n 0, 1) := by decide +kernel
theorem dX3_takeAboard_29 : decode cX3_takeAboard 29 = .ok (.getfield 21, 3) := by decide +kernel
theorem dX3_takeAboard_32 : decode cX3_takeAboard 32 = .ok (.getfield 69, 3) := by decide +kernel
theorem dX3_takeAboard_35 : decode cX3_takeAboard 35 = .ok (.iload_n 2, 1) := by decide +kernel
theorem dX3_takeAboard_36 : decode cX3_takeAboard 36 = .ok (.iaload, 1) := by decide +kernel
theorem dX3_takeAboard_37 : decode cX3_takeAboard 37 = .ok (.iload_n 3, 1) := by decide +kernel
theorem dX3_takeAboard_38 : decode cX3_takeAboard 38 = .ok (.iload 4, 2) := by decide +kernel
theorem dX3_takeAboard_40 : decode cX3_takeAboard 40 = .ok (.isub, 1) := by decide +kernel
theorem dX3_takeAboard_41 : decode cX3_takeAboard 41 = .ok (.invokestatic 63, 3) := by decide +kernel
theorem dX3_takeAboard_44 : decode cX3_takeAboard 44 = .ok (.istore 5, 2) := by decide +kernel
theorem dX3_takeAboard_46 : decode cX3_takeAboard 46 = .ok (.aload_n 0, 1) := by decide +kernel
theorem dX3_takeAboard_47 : decode cX3_takeAboard 47 = .ok (.getfield 21, 3) := by decide +kernel
theorem dX3_takeAboard_50 : decode cX3_takeAboard 50 = .ok (.getfield 59, 3) := by decide +kernel
theorem dX3_takeAboard_53 : decode cX3_takeAboard 53 = .ok (.iload_n 2, 1) := by decide +kernel
theorem dX3_takeAboard_54 : decode cX3_takeAboard 54 = .ok (.dup2, 1) := by decide +kernel
theorem dX3_takeAboard_55 : decode cX3_takeAboard 55 = .ok (.iaload, 1) := by decide +kernel
theorem dX3_takeAboard_56 : decode cX3_takeAboard 56 = .ok (.iload 4, 2) := by decide +kernel
theorem dX3_takeAboard_58 : decode cX3_takeAboard 58 = .ok (.isub, 1) := by decide +kernel
theorem dX3_takeAboard_59 : decode cX3_takeAboard 59 = .ok (.iastore, 1) := by decide +kernel
theorem dX3_takeAboard_60 : decode cX3_takeAboard 60 = .ok (.aload_n 0, 1) := by decide +kernel
theorem dX3_takeAboard_61 : decode cX3_takeAboard 61 = .ok (.getfield 21, 3) := by decide +kernel
theorem dX3_takeAboard_64 : decode cX3_takeAboard 64 = .ok (.getfield 69, 3) := by decide +kernel
theorem dX3_takeAboard_67 : decode cX3_takeAboard 67 = .ok (.iload_n 2, 1) := by decide +kernel
theorem dX3_takeAboard_68 : decode cX3_takeAboard 68 = .ok (.dup2, 1) := by decide +kernel
theorem dX3_takeAboard_69 : decode cX3_takeAboard 69 = .ok (.iaload, 1) := by decide +kernel
theorem dX3_takeAboard_70 : decode cX3_takeAboard 70 = .ok (.iload 5, 2) := by decide +kernel
theorem dX3_takeAboard_72 : decode cX3_takeAboard 72 = .ok (.isub, 1) := by decide +kernel
theorem dX3_takeAboard_73 : decode cX3_takeAboard 73 = .ok (.iastore, 1) := by decide +kernel
theorem dX3_takeAboard_74 : decode cX3_takeAboard 74 = .ok (.aload_n 0, 1) := by decide +kernel
theorem dX3_takeAboard_75 : decode cX3_takeAboard 75 = .ok (.getfield 28, 3) := by decide +kernel
theorem dX3_takeAboard_78 : decode cX3_takeAboard 78 = .ok (.getfield 72, 3) := by decide +kernel
theorem dX3_takeAboard_81 : decode cX3_takeAboard 81 = .ok (.iload_n 1, 1) := by decide +kernel
theorem dX3_takeAboard_82 : decode cX3_takeAboard 82 = .ok (.dup2, 1) := by decide +kernel
theorem dX3_takeAboard_83 : decode cX3_takeAboard 83 = .ok (.iaload, 1) := by decide +kernel
theorem dX3_takeAboard_84 : decode cX3_takeAboard 84 = .ok (.iload 4, 2) := by decide +kernel
theorem dX3_takeAboard_86 : decode cX3_takeAboard 86 = .ok (.iadd, 1) := by decide +kernel
theorem dX3_takeAboard_87 : decode cX3_takeAboard 87 = .ok (.iastore, 1) := by decide +kernel
theorem dX3_takeAboard_88 : decode cX3_takeAboard 88 = .ok (.aload_n 0, 1) := by decide +kernel
theorem dX3_takeAboard_89 : decode cX3_takeAboard 89 = .ok (.getfield 28, 3) := by decide +kernel
theorem dX3_takeAboard_92 : decode cX3_takeAboard 92 = .ok (.getfield 75, 3) := by decide +kernel
theorem dX3_takeAboard_95 : decode cX3_takeAboard 95 = .ok (.iload_n 1, 1) := by decide +kernel
theorem dX3_takeAboard_96 : decode cX3_takeAboard 96 = .ok (.dup2, 1) := by decide +kernel
theorem dX3_takeAboard_97 : decode cX3_takeAboard 97 = .ok (.iaload, 1) := by decide +kernel
theorem dX3_takeAboard_98 : decode cX3_takeAboard 98 = .ok (.iload 5, 2) := by decide +kernel
theorem dX3_takeAboard_100 : decode cX3_takeAboard 100 = .ok (.iadd, 1) := by decide +kernel
theorem dX3_takeAboard_101 : decode cX3_takeAboard 101 = .ok (.iastore, 1) := by decide +kernel
theorem dX3_takeAboard_102 : decode cX3_takeAboard 102 = .ok (.iload 4, 2) := by decide +kernel
theorem dX3_takeAboard_104 : decode cX3_takeAboard 104 = .ok (.iload 5, 2) := by decide +kernel
theorem dX3_takeAboard_106 : decode cX3_takeAboard 106 = .ok (.iadd, 1) := by decide +kernel
theorem dX3_takeAboard_107 : decode cX3_takeAboard 107 = .ok (.ireturn, 1) := by decide +kernel
set_option maxRecDepth 20000 in
theorem ggX3_sellAll_X0_aboard : GoodIn wsX3_sellAll wsX0_aboard := goodIn_r _ [8, 9, 10, 33, 34, 35, 36, 37, 38] (by decide +kernel) (by decide +kernel)
set_option maxRecDepth 20000 in
theorem gX3_sellAll_X0_aboard : GoodIn wsX3_sellAll (wsV RX3 55 RX0 yX0_aboard wsX0_aboard) := goodIn_app (goodIn_of _ (by decide +kernel)) ggX3_sellAll_X0_aboard
set_option maxRecDepth 20000 in
theorem ggX3_sellAll_X2_sedgePrice : GoodIn wsX3_sellAll wsX2_sedgePrice := goodIn_r _ [15, 16, 17, 18, 19, 20, 39] (by decide +kernel) (by decide +kernel)
set_option maxRecDepth 20000 in
theorem gX3_sellAll_X2_sedgePrice : GoodIn wsX3_sellAll (wsV RX3 78 RX2 yX2_sedgePrice wsX2_sedgePrice) := goodIn_app (goodIn_of _ (by decide +kernel)) ggX3_sellAll_X2_sedgePrice
set_option maxRecDepth 20000 in
theorem ggX3_sellAll_X2_reedPrice : GoodIn wsX3_sellAll wsX2_reedPrice := goodIn_r _ [24, 17, 18, 19, 20, 25, 12, 13, 14, 15, 16, 39] (by decide +kernel) (by decide +kernel)
set_option maxRecDepth 20000 in
theorem gX3_sellAll_X2_reedPrice : GoodIn wsX3_sellAll (wsV RX3 81 RX2 yX2_reedPrice wsX2_reedPrice) := goodIn_app (goodIn_of _ (by decide +kernel)) ggX3_sellAll_X2_reedPrice
theorem dX3_sellAll_0 : decode cX3_sellAll 0 = .ok (.aload_n 0, 1) := by decide +kernel
theorem dX3_sellAll_1 : decode cX3_sellAll 1 = .ok (.getfield 28, 3) := by decide +kernel
theorem dX3_sellAll_4 : decode cX3_sellAll 4 = .ok (.iload_n 1, 1) := by decide +kernel
theorem dX3_sellAll_5 : decode cX3_sellAll 5 = .ok (.invokevirtual 55, 3) := by decide +kernel
theorem dX3_sellAll_8 : decode cX3_sellAll 8 = .ok (.istore_n 3, 1) := by decide +kernel
theorem dX3_sellAll_9 : decode cX3_sellAll 9 = .ok (.aload_n 0, 1) := by decide +kernel
theorem dX3_sellAll_10 : decode cX3_sellAll 10 = .ok (.getfield 28, 3) := by decide +kernel
theorem dX3_sellAll_13 : decode cX3_sellAll 13 = .ok (.getfield 72, 3) := by decide +kernel
theorem dX3_sellAll_16 : decode cX3_sellAll 16 = .ok (.iload_n 1, 1) := by decide +kernel
theorem dX3_sellAll_17 : decode cX3_sellAll 17 = .ok (.iaload, 1) := by decide +kernel
theorem dX3_sellAll_18 : decode cX3_sellAll 18 = .ok (.aload_n 0, 1) := by decide +kernel
theorem dX3_sellAll_19 : decode cX3_sellAll 19 = .ok (.getfield 35, 3) := by decide +kernel
theorem dX3_sellAll_22 : decode cX3_sellAll 22 = .ok (.iload_n 2, 1) := by decide +kernel
theorem dX3_sellAll_23 : decode cX3_sellAll 23 = .ok (.invokevirtual 78, 3) := by decide +kernel
theorem dX3_sellAll_26 : decode cX3_sellAll 26 = .ok (.imul, 1) := by decide +kernel
theorem dX3_sellAll_27 : decode cX3_sellAll 27 = .ok (.aload_n 0, 1) := by decide +kernel
theorem dX3_sellAll_28 : decode cX3_sellAll 28 = .ok (.getfield 28, 3) := by decide +kernel
theorem dX3_sellAll_31 : decode cX3_sellAll 31 = .ok (.getfield 75, 3) := by decide +kernel
theorem dX3_sellAll_34 : decode cX3_sellAll 34 = .ok (.iload_n 1, 1) := by decide +kernel
theorem dX3_sellAll_35 : decode cX3_sellAll 35 = .ok (.iaload, 1) := by decide +kernel
theorem dX3_sellAll_36 : decode cX3_sellAll 36 = .ok (.aload_n 0, 1) := by decide +kernel
theorem dX3_sellAll_37 : decode cX3_sellAll 37 = .ok (.getfield 35, 3) := by decide +kernel
theorem dX3_sellAll_40 : decode cX3_sellAll 40 = .ok (.iload_n 2, 1) := by decide +kernel
theorem dX3_sellAll_41 : decode cX3_sellAll 41 = .ok (.invokevirtual 81, 3) := by decide +kernel
theorem dX3_sellAll_44 : decode cX3_sellAll 44 = .ok (.imul, 1) := by decide +kernel
theorem dX3_sellAll_45 : decode cX3_sellAll 45 = .ok (.iadd, 1) := by decide +kernel
theorem dX3_sellAll_46 : decode cX3_sellAll 46 = .ok (.istore 4, 2) := by decide +kernel
theorem dX3_sellAll_48 : decode cX3_sellAll 48 = .ok (.aload_n 0, 1) := by decide +kernel
theorem dX3_sellAll_49 : decode cX3_sellAll 49 = .ok (.getfield 28, 3) := by decide +kernel
theorem dX3_sellAll_52 : decode cX3_sellAll 52 = .ok (.getfield 72, 3) := by decide +kernel
theorem dX3_sellAll_55 : decode cX3_sellAll 55 = .ok (.iload_n 1, 1) := by decide +kernel
theorem dX3_sellAll_56 : decode cX3_sellAll 56 = .ok (.iconst 0, 1) := by decide +kernel
theorem dX3_sellAll_57 : decode cX3_sellAll 57 = .ok (.iastore, 1) := by decide +kernel
theorem dX3_sellAll_58 : decode cX3_sellAll 58 = .ok (.aload_n 0, 1) := by decide +kernel
theorem dX3_sellAll_59 : decode cX3_sellAll 59 = .ok (.getfield 28, 3) := by decide +kernel
theorem dX3_sellAll_62 : decode cX3_sellAll 62 = .ok (.getfield 75, 3) := by decide +kernel
theorem dX3_sellAll_65 : decode cX3_sellAll 65 = .ok (.iload_n 1, 1) := by decide +kernel
theorem dX3_sellAll_66 : decode cX3_sellAll 66 = .ok (.iconst 0, 1) := by decide +kernel
theorem dX3_sellAll_67 : decode cX3_sellAll 67 = .ok (.iastore, 1) := by decide +kernel
theorem dX3_sellAll_68 : decode cX3_sellAll 68 = .ok (.aload_n 0, 1) := by decide +kernel
theorem dX3_sellAll_69 : decode cX3_sellAll 69 = .ok (.getfield 28, 3) := by decide +kernel
theorem dX3_sellAll_72 : decode cX3_sellAll 72 = .ok (.getfield 84, 3) := by decide +kernel
theorem dX3_sellAll_75 : decode cX3_sellAll 75 = .ok (.iload_n 1, 1) := by decide +kernel
theorem dX3_sellAll_76 : decode cX3_sellAll 76 = .ok (.dup2, 1) := by decide +kernel
theorem dX3_sellAll_77 : decode cX3_sellAll 77 = .ok (.iaload, 1) := by decide +kernel
theorem dX3_sellAll_78 : decode cX3_sellAll 78 = .ok (.iload 4, 2) := by decide +kernel
theorem dX3_sellAll_80 : decode cX3_sellAll 80 = .ok (.iadd, 1) := by decide +kernel
theorem dX3_sellAll_81 : decode cX3_sellAll 81 = .ok (.iastore, 1) := by decide +kernel
theorem dX3_sellAll_82 : decode cX3_sellAll 82 = .ok (.aload_n 0, 1) := by decide +kernel
theorem dX3_sellAll_83 : decode cX3_sellAll 83 = .ok (.getfield 35, 3) := by decide +kernel
theorem dX3_sellAll_86 : decode cX3_sellAll 86 = .ok (.getfield 87, 3) := by decide +kernel
theorem dX3_sellAll_89 : decode cX3_sellAll 89 = .ok (.iload_n 2, 1) := by decide +kernel
theorem dX3_sellAll_90 : decode cX3_sellAll 90 = .ok (.dup2, 1) := by decide +kernel
theorem dX3_sellAll_91 : decode cX3_sellAll 91 = .ok (.iaload, 1) := by decide +kernel
theorem dX3_sellAll_92 : decode cX3_sellAll 92 = .ok (.iload_n 3, 1) := by decide +kernel
theorem dX3_sellAll_93 : decode cX3_sellAll 93 = .ok (.iadd, 1) := by decide +kernel
theorem dX3_sellAll_94 : decode cX3_sellAll 94 = .ok (.iastore, 1) := by decide +kernel
theorem dX3_sellAll_95 : decode cX3_sellAll 95 = .ok (.aload_n 0, 1) := by decide +kernel
theorem dX3_sellAll_96 : decode cX3_sellAll 96 = .ok (.dup, 1) := by decide +kernel
theorem dX3_sellAll_97 : decode cX3_sellAll 97 = .ok (.getfield 9, 3) := by decide +kernel
theorem dX3_sellAll_100 : decode cX3_sellAll 100 = .ok (.iload 4, 2) := by decide +kernel
theorem dX3_sellAll_102 : decode cX3_sellAll 102 = .ok (.iadd, 1) := by decide +kernel
theorem dX3_sellAll_103 : decode cX3_sellAll 103 = .ok (.putfield 9, 3) := by decide +kernel
theorem dX3_sellAll_106 : decode cX3_sellAll 106 = .ok (.iload 4, 2) := by decide +kernel
theorem dX3_sellAll_108 : decode cX3_sellAll 108 = .ok (.ireturn, 1) := by decide +kernel
set_option maxRecDepth 20000 in
theorem ggX3_passDays_X3_passDay : GoodIn wsX3_passDays wsX3_passDay := goodIn_r _ [6, 7, 1, 8, 9, 10, 11, 12, 13, 14, 15, 16, 17, 18, 19, 20, 21, 22, 23, 24, 25, 26, 27, 28, 29, 30, 31, 32, 33, 34, 35, 36, 37, 38, 39, 40, 41, 42, 43, 44, 45, 46, 47, 48, 49, 50, 51, 52, 53, 54, 55, 56, 57, 58, 59, 60, 61, 62, 63, 64, 65, 66, 67, 68, 69, 70, 71, 72, 73, 74, 75, 76, 77, 78, 79, 80, 81, 82, 83, 84, 85, 86, 87, 88] (by decide +kernel) (by decide +kernel)
set_option maxRecDepth 20000 in
theorem gX3_passDays_X3_passDay : GoodIn wsX3_passDays (wsV RX3 90 RX3 yX3_passDay wsX3_passDay) := goodIn_app (goodIn_of _ (by decide +kernel)) ggX3_passDays_X3_passDay
theorem dX3_passDays_0 : decode cX3_passDays 0 = .ok (.aload_n 0, 1) := by decide +kernel
theorem dX3_passDays_1 : decode cX3_passDays 1 = .ok (.getfield 42, 3) := by decide +kernel
theorem dX3_passDays_4 : decode cX3_passDays 4 = .ok (.istore_n 2, 1) := by decide +kernel
theorem dX3_passDays_5 : decode cX3_passDays 5 = .ok (.iconst 0, 1) := by decide +kernel
theorem dX3_passDays_6 : decode cX3_passDays 6 = .ok (.istore_n 3, 1) := by decide +kernel
theorem dX3_passDays_7 : decode cX3_passDays 7 = .ok (.iload_n 3, 1) := by decide +kernel
theorem dX3_passDays_8 : decode cX3_passDays 8 = .ok (.iload_n 1, 1) := by decide +kernel
theorem dX3_passDays_9 : decode cX3_passDays 9 = .ok (.if_icmp .ge 13, 3) := by decide +kernel
theorem dX3_passDays_12 : decode cX3_passDays 12 = .ok (.aload_n 0, 1) := by decide +kernel
theorem dX3_passDays_13 : decode cX3_passDays 13 = .ok (.invokevirtual 90, 3) := by decide +kernel
theorem dX3_passDays_16 : decode cX3_passDays 16 = .ok (.iinc 3 1, 3) := by decide +kernel
theorem dX3_passDays_19 : decode cX3_passDays 19 = .ok (.goto (-12), 3) := by decide +kernel
theorem dX3_passDays_22 : decode cX3_passDays 22 = .ok (.aload_n 0, 1) := by decide +kernel
theorem dX3_passDays_23 : decode cX3_passDays 23 = .ok (.getfield 42, 3) := by decide +kernel
theorem dX3_passDays_26 : decode cX3_passDays 26 = .ok (.iload_n 2, 1) := by decide +kernel
theorem dX3_passDays_27 : decode cX3_passDays 27 = .ok (.isub, 1) := by decide +kernel
theorem dX3_passDays_28 : decode cX3_passDays 28 = .ok (.ireturn, 1) := by decide +kernel
set_option maxRecDepth 20000 in
theorem ggX3_passDay_X0_sailOn : GoodIn wsX3_passDay wsX0_sailOn := goodIn_r _ [10, 11, 12, 13, 14, 15, 16, 17, 18, 19, 20, 67, 68, 69, 70, 71, 72] (by decide +kernel) (by decide +kernel)
set_option maxRecDepth 20000 in
theorem gX3_passDay_X0_sailOn : GoodIn wsX3_passDay (wsV RX3 93 RX0 yX0_sailOn wsX0_sailOn) := goodIn_app (goodIn_of _ (by decide +kernel)) ggX3_passDay_X0_sailOn
set_option maxRecDepth 20000 in
theorem ggX3_passDay_X1_rot : GoodIn wsX3_passDay wsX1_rot := goodIn_r _ [25, 26, 27, 28, 29, 30, 31, 73, 74, 75, 76, 77, 78, 79, 80, 81, 82] (by decide +kernel) (by decide +kernel)
set_option maxRecDepth 20000 in
theorem gX3_passDay_X1_rot : GoodIn wsX3_passDay (wsV RX3 96 RX1 yX1_rot wsX1_rot) := goodIn_app (goodIn_of _ (by decide +kernel)) ggX3_passDay_X1_rot
set_option maxRecDepth 20000 in
theorem ggX3_passDay_X2_thatch : GoodIn wsX3_passDay wsX2_thatch := goodIn_r _ [36, 37, 38, 30, 39, 83] (by decide +kernel) (by decide +kernel)
set_option maxRecDepth 20000 in
theorem gX3_passDay_X2_thatch : GoodIn wsX3_passDay (wsV RX3 100 RX2 yX2_thatch wsX2_thatch) := goodIn_app (goodIn_of _ (by decide +kernel)) ggX3_passDay_X2_thatch
set_option maxRecDepth 20000 in
theorem ggX3_passDay_X1_endYear : GoodIn wsX3_passDay wsX1_endYear := goodIn_r _ [43, 26, 44, 45, 46, 47, 15, 16, 17, 48, 19, 20, 49, 50, 24, 51, 52, 53, 54, 55, 56, 57, 58, 59, 73, 74, 75, 76, 77, 78, 79, 80, 81, 82] (by decide +kernel) (by decide +kernel)
set_option maxRecDepth 20000 in
theorem gX3_passDay_X1_endYear : GoodIn wsX3_passDay (wsV RX3 103 RX1 yX1_endYear wsX1_endYear) := goodIn_app (goodIn_of _ (by decide +kernel)) ggX3_passDay_X1_endYear
theorem dX3_passDay_0 : decode cX3_passDay 0 = .ok (.aload_n 0, 1) := by decide +kernel
theorem dX3_passDay_1 : decode cX3_passDay 1 = .ok (.getfield 28, 3) := by decide +kernel
theorem dX3_passDay_4 : decode cX3_passDay 4 = .ok (.invokevirtual 93, 3) := by decide +kernel
theorem dX3_passDay_7 : decode cX3_passDay 7 = .ok (.aload_n 0, 1) := by decide +kernel
theorem dX3_passDay_8 : decode cX3_passDay 8 = .ok (.dup, 1) := by decide +kernel
theorem dX3_passDay_9 : decode cX3_passDay 9 = .ok (.getfield 42, 3) := by decide +kernel
theorem dX3_passDay_12 : decode cX3_passDay 12 = .ok (.aload_n 0, 1) := by decide +kernel
theorem dX3_passDay_13 : decode cX3_passDay 13 = .ok (.getfield 21, 3) := by decide +kernel
theorem dX3_passDay_16 : decode cX3_passDay 16 = .ok (.invokevirtual 96, 3) := by decide +kernel
theorem dX3_passDay_19 : decode cX3_passDay 19 = .ok (.iadd, 1) := by decide +kernel
theorem dX3_passDay_20 : decode cX3_passDay 20 = .ok (.putfield 42, 3) := by decide +kernel
theorem dX3_passDay_23 : decode cX3_passDay 23 = .ok (.aload_n 0, 1) := by decide +kernel
theorem dX3_passDay_24 : decode cX3_passDay 24 = .ok (.getfield 35, 3) := by decide +kernel
theorem dX3_passDay_27 : decode cX3_passDay 27 = .ok (.invokevirtual 100, 3) := by decide +kernel
theorem dX3_passDay_30 : decode cX3_passDay 30 = .ok (.aload_n 0, 1) := by decide +kernel
theorem dX3_passDay_31 : decode cX3_passDay 31 = .ok (.getfield 39, 3) := by decide +kernel
theorem dX3_passDay_34 : decode cX3_passDay 34 = .ok (.bipush 100, 2) := by decide +kernel
theorem dX3_passDay_36 : decode cX3_passDay 36 = .ok (.irem, 1) := by decide +kernel
theorem dX3_passDay_37 : decode cX3_passDay 37 = .ok (.bipush 99, 2) := by decide +kernel
theorem dX3_passDay_39 : decode cX3_passDay 39 = .ok (.if_icmp .ne 10, 3) := by decide +kernel
theorem dX3_passDay_42 : decode cX3_passDay 42 = .ok (.aload_n 0, 1) := by decide +kernel
theorem dX3_passDay_43 : decode cX3_passDay 43 = .ok (.getfield 21, 3) := by decide +kernel
theorem dX3_passDay_46 : decode cX3_passDay 46 = .ok (.invokevirtual 103, 3) := by decide +kernel
theorem dX3_passDay_49 : decode cX3_passDay 49 = .ok (.aload_n 0, 1) := by decide +kernel
theorem dX3_passDay_50 : decode cX3_passDay 50 = .ok (.dup, 1) := by decide +kernel
theorem dX3_passDay_51 : decode cX3_passDay 51 = .ok (.getfield 39, 3) := by decide +kernel
theorem dX3_passDay_54 : decode cX3_passDay 54 = .ok (.iconst 1, 1) := by decide +kernel
theorem dX3_passDay_55 : decode cX3_passDay 55 = .ok (.iadd, 1) := by decide +kernel
theorem dX3_passDay_56 : decode cX3_passDay 56 = .ok (.putfield 39, 3) := by decide +kernel
theorem dX3_passDay_59 : decode cX3_passDay 59 = .ok (.return_, 1) := by decide +kernel
set_option maxRecDepth 20000 in
theorem ggX3_tell_X1_givenByAll : GoodIn wsX3_tell wsX1_givenByAll := goodIn_r _ [12, 13, 14, 15, 16, 11, 17, 18, 19, 57, 58, 59, 60, 61, 62, 63, 64, 65, 66] (by decide +kernel) (by decide +kernel)
set_option maxRecDepth 20000 in
theorem gX3_tell_X1_givenByAll : GoodIn wsX3_tell (wsV RX3 109 RX1 yX1_givenByAll wsX1_givenByAll) := goodIn_app (goodIn_of _ (by decide +kernel)) ggX3_tell_X1_givenByAll
set_option maxRecDepth 20000 in
theorem ggX3_tell_X1_untiedOfAll : GoodIn wsX3_tell wsX1_untiedOfAll := goodIn_r _ [23, 13, 24, 25, 57, 58, 59, 60, 61, 62, 63, 64, 65, 66] (by decide +kernel) (by decide +kernel)
set_option maxRecDepth 20000 in
theorem gX3_tell_X1_untiedOfAll : GoodIn wsX3_tell (wsV RX3 112 RX1 yX1_untiedOfAll wsX1_untiedOfAll) := goodIn_app (goodIn_of _ (by decide +kernel)) ggX3_tell_X1_untiedOfAll
set_option maxRecDepth 20000 in
theorem ggX3_tell_X1_tiedOfAll : GoodIn wsX3_tell wsX1_tiedOfAll := goodIn_r _ [29, 13, 30, 31, 57, 58, 59, 60, 61, 62, 63, 64, 65, 66] (by decide +kernel) (by decide +kernel)
set_option maxRecDepth 20000 in
theorem gX3_tell_X1_tiedOfAll : GoodIn wsX3_tell (wsV RX3 115 RX1 yX1_tiedOfAll wsX1_tiedOfAll) := goodIn_app (goodIn_of _ (by decide +kernel)) ggX3_tell_X1_tiedOfAll
set_option maxRecDepth 20000 in
theorem ggX3_tell_X0_aboardAll : GoodIn wsX3_tell wsX0_aboardAll := goodIn_r _ [36, 37, 38, 39, 40, 35, 41, 42, 43, 67, 68, 69, 70, 71, 72] (by decide +kernel) (by decide +kernel)
set_option maxRecDepth 20000 in
theorem gX3_tell_X0_aboardAll : GoodIn wsX3_tell (wsV RX3 119 RX0 yX0_aboardAll wsX0_aboardAll) := goodIn_app (goodIn_of _ (by decide +kernel)) ggX3_tell_X0_aboardAll
set_option maxRecDepth 20000 in
theorem ggX3_tell_X2_storeOfAll : GoodIn wsX3_tell wsX2_storeOfAll := goodIn_r _ [48, 49, 73] (by decide +kernel) (by decide +kernel)
set_option maxRecDepth 20000 in
theorem gX3_tell_X2_storeOfAll : GoodIn wsX3_tell (wsV RX3 122 RX2 yX2_storeOfAll wsX2_storeOfAll) := goodIn_app (goodIn_of _ (by decide +kernel)) ggX3_tell_X2_storeOfAll
theorem dX3_tell_0 : decode cX3_tell 0 = .ok (.iload_n 1, 1) := by decide +kernel
theorem dX3_tell_1 : decode cX3_tell 1 = .ok (.tableswitch 126 0 9 #[55, 60, 65, 70, 78, 86, 94, 102, 110, 118], 55) := by decide +kernel
theorem dX3_tell_56 : decode cX3_tell 56 = .ok (.aload_n 0, 1) := by decide +kernel
theorem dX3_tell_57 : decode cX3_tell 57 = .ok (.getfield 39, 3) := by decide +kernel
theorem dX3_tell_60 : decode cX3_tell 60 = .ok (.ireturn, 1) := by decide +kernel
theorem dX3_tell_61 : decode cX3_tell 61 = .ok (.aload_n 0, 1) := by decide +kernel
theorem dX3_tell_62 : decode cX3_tell 62 = .ok (.getfield 9, 3) := by decide +kernel
theorem dX3_tell_65 : decode cX3_tell 65 = .ok (.ireturn, 1) := by decide +kernel
theorem dX3_tell_66 : decode cX3_tell 66 = .ok (.aload_n 0, 1) := by decide +kernel
theorem dX3_tell_67 : decode cX3_tell 67 = .ok (.getfield 15, 3) := by decide +kernel
theorem dX3_tell_70 : decode cX3_tell 70 = .ok (.ireturn, 1) := by decide +kernel
theorem dX3_tell_71 : decode cX3_tell 71 = .ok (.aload_n 0, 1) := by decide +kernel
theorem dX3_tell_72 : decode cX3_tell 72 = .ok (.getfield 21, 3) := by decide +kernel
theorem dX3_tell_75 : decode cX3_tell 75 = .ok (.getfield 106, 3) := by decide +kernel
theorem dX3_tell_78 : decode cX3_tell 78 = .ok (.ireturn, 1) := by decide +kernel
theorem dX3_tell_79 : decode cX3_tell 79 = .ok (.aload_n 0, 1) := by decide +kernel
theorem dX3_tell_80 : decode cX3_tell 80 = .ok (.getfield 21, 3) := by decide +kernel
theorem dX3_tell_83 : decode cX3_tell 83 = .ok (.invokevirtual 109, 3) := by decide +kernel
theorem dX3_tell_86 : decode cX3_tell 86 = .ok (.ireturn, 1) := by decide +kernel
theorem dX3_tell_87 : decode cX3_tell 87 = .ok (.aload_n 0, 1) := by decide +kernel
theorem dX3_tell_88 : decode cX3_tell 88 = .ok (.getfield 21, 3) := by decide +kernel
theorem dX3_tell_91 : decode cX3_tell 91 = .ok (.invokevirtual 112, 3) := by decide +kernel
theorem dX3_tell_94 : decode cX3_tell 94 = .ok (.ireturn, 1) := by decide +kernel
theorem dX3_tell_95 : decode cX3_tell 95 = .ok (.aload_n 0, 1) := by decide +kernel
theorem dX3_tell_96 : decode cX3_tell 96 = .ok (.getfield 21, 3) := by decide +kernel
theorem dX3_tell_99 : decode cX3_tell 99 = .ok (.invokevirtual 115, 3) := by decide +kernel
theorem dX3_tell_102 : decode cX3_tell 102 = .ok (.ireturn, 1) := by decide +kernel
theorem dX3_tell_103 : decode cX3_tell 103 = .ok (.aload_n 0, 1) := by decide +kernel
theorem dX3_tell_104 : decode cX3_tell 104 = .ok (.getfield 28, 3) := by decide +kernel
theorem dX3_tell_107 : decode cX3_tell 107 = .ok (.getfield 118, 3) := by decide +kernel
theorem dX3_tell_110 : decode cX3_tell 110 = .ok (.ireturn, 1) := by decide +kernel
theorem dX3_tell_111 : decode cX3_tell 111 = .ok (.aload_n 0, 1) := by decide +kernel
theorem dX3_tell_112 : decode cX3_tell 112 = .ok (.getfield 28, 3) := by decide +kernel
theorem dX3_tell_115 : decode cX3_tell 115 = .ok (.invokevirtual 119, 3) := by decide +kernel
theorem dX3_tell_118 : decode cX3_tell 118 = .ok (.ireturn, 1) := by decide +kernel
theorem dX3_tell_119 : decode cX3_tell 119 = .ok (.aload_n 0, 1) := by decide +kernel
theorem dX3_tell_120 : decode cX3_tell 120 = .ok (.getfield 35, 3) := by decide +kernel
theorem dX3_tell_123 : decode cX3_tell 123 = .ok (.invokevirtual 122, 3) := by decide +kernel
theorem dX3_tell_126 : decode cX3_tell 126 = .ok (.ireturn, 1) := by decide +kernel
theorem dX3_tell_127 : decode cX3_tell 127 = .ok (.aload_n 0, 1) := by decide +kernel
theorem dX3_tell_128 : decode cX3_tell 128 = .ok (.getfield 42, 3) := by decide +kernel
theorem dX3_tell_131 : decode cX3_tell 131 = .ok (.ireturn, 1) := by decide +kernel
end
section
set_option maxRecDepth 20000 in
theorem ggX4_init_X3_init : GoodIn wsX4_init wsX3_init := goodIn_r _ [10, 11, 2, 3, 12, 13, 14, 15, 16, 17, 18, 19, 20, 21, 22, 23, 24, 25, 26, 27, 28, 29, 30, 31, 32, 33, 34, 35, 36, 37, 38, 39, 40, 41, 42, 43, 44, 45, 46, 47, 48, 49, 50, 51, 52, 53, 54, 55, 56, 57, 60, 61, 62, 63, 64, 65, 66, 67, 68, 69, 70, 71, 72, 73, 74, 75, 76] (by decide +kernel) (by decide +kernel)
set_option maxRecDepth 20000 in
theorem gX4_init_X3_init_n9 : GoodIn wsX4_init (wsX3_init) := ggX4_init_X3_init
theorem dX4_init_0 : decode cX4_init 0 = .ok (.aload_n 0, 1) := by decide +kernel
theorem dX4_init_1 : decode cX4_init 1 = .ok (.invokespecial 1, 3) := by decide +kernel
theorem dX4_init_4 : decode cX4_init 4 = .ok (.aload_n 0, 1) := by decide +kernel
theorem dX4_init_5 : decode cX4_init 5 = .ok (.new 7, 3) := by decide +kernel
theorem dX4_init_8 : decode cX4_init 8 = .ok (.dup, 1) := by decide +kernel
theorem dX4_init_9 : decode cX4_init 9 = .ok (.invokespecial 9, 3) := by decide +kernel
theorem dX4_init_12 : decode cX4_init 12 = .ok (.putfield 10, 3) := by decide +kernel
theorem dX4_init_15 : decode cX4_init 15 = .ok (.aload_n 0, 1) := by decide +kernel
theorem dX4_init_16 : decode cX4_init 16 = .ok (.new 7, 3) := by decide +kernel
theorem dX4_init_19 : decode cX4_init 19 = .ok (.dup, 1) := by decide +kernel
theorem dX4_init_20 : decode cX4_init 20 = .ok (.invokespecial 9, 3) := by decide +kernel
theorem dX4_init_23 : decode cX4_init 23 = .ok (.putfield 16, 3) := by decide +kernel
theorem dX4_init_26 : decode cX4_init 26 = .ok (.return_, 1) := by decide +kernel
set_option maxRecDepth 20000 in
theorem ggX4_bed_X4_needPlace : GoodIn wsX4_bed wsX4_needPlace := goodIn_ca (goodIn_r _ [9, 10, 11] (by decide +kernel) (by decide +kernel)) (goodIn_sub (fun _ h => List.mem_cons_of_mem _ (List.mem_append_right _ h)) (by decide +kernel))
set_option maxRecDepth 20000 in
theorem gX4_bed_X4_needPlace : GoodIn wsX4_bed (va_wsS RX4 19 yX4_needPlace wsX4_needPlace) := goodIn_app (goodIn_of _ (by decide +kernel)) ggX4_bed_X4_needPlace
set_option maxRecDepth 20000 in
theorem ggX4_bed_X1_areFull : GoodIn wsX4_bed wsX1_areFull := goodIn_r _ [16, 17, 35, 36, 37, 38, 39, 40, 41, 42, 43, 44] (by decide +kernel) (by decide +kernel)
set_option maxRecDepth 20000 in
theorem gX4_bed_X1_areFull : GoodIn wsX4_bed (wsV RX4 36 RX1 yX1_areFull wsX1_areFull) := goodIn_app (goodIn_of _ (by decide +kernel)) ggX4_bed_X1_areFull
set_option maxRecDepth 20000 in
theorem ggX4_bed_X1_add : GoodIn wsX4_bed wsX1_add := goodIn_r _ [21, 17, 22, 23, 24, 25, 35, 36, 37, 38, 39, 40, 41, 42, 43, 44] (by decide +kernel) (by decide +kernel)
set_option maxRecDepth 20000 in
theorem gX4_bed_X1_add : GoodIn wsX4_bed (wsV RX4 47 RX1 yX1_add wsX1_add) := goodIn_app (goodIn_of _ (by decide +kernel)) ggX4_bed_X1_add
theorem dX4_bed_0 : decode cX4_bed 0 = .ok (.iload_n 1, 1) := by decide +kernel
theorem dX4_bed_1 : decode cX4_bed 1 = .ok (.invokestatic 19, 3) := by decide +kernel
theorem dX4_bed_4 : decode cX4_bed 4 = .ok (.iload_n 2, 1) := by decide +kernel
theorem dX4_bed_5 : decode cX4_bed 5 = .ok (.iconst 1, 1) := by decide +kernel
theorem dX4_bed_6 : decode cX4_bed 6 = .ok (.if_icmp .lt 9, 3) := by decide +kernel
theorem dX4_bed_9 : decode cX4_bed 9 = .ok (.iload_n 2, 1) := by decide +kernel
theorem dX4_bed_10 : decode cX4_bed 10 = .ok (.bipush 9, 2) := by decide +kernel
theorem dX4_bed_12 : decode cX4_bed 12 = .ok (.if_icmp .le 13, 3) := by decide +kernel
theorem dX4_bed_15 : decode cX4_bed 15 = .ok (.new 23, 3) := by decide +kernel
theorem dX4_bed_18 : decode cX4_bed 18 = .ok (.dup, 1) := by decide +kernel
theorem dX4_bed_19 : decode cX4_bed 19 = .ok (.ldc 25, 2) := by decide +kernel
theorem dX4_bed_21 : decode cX4_bed 21 = .ok (.invokespecial 27, 3) := by decide +kernel
theorem dX4_bed_24 : decode cX4_bed 24 = .ok (.athrow, 1) := by decide +kernel
theorem dX4_bed_25 : decode cX4_bed 25 = .ok (.iload_n 3, 1) := by decide +kernel
theorem dX4_bed_26 : decode cX4_bed 26 = .ok (.ifCond .lt 9, 3) := by decide +kernel
theorem dX4_bed_29 : decode cX4_bed 29 = .ok (.iload_n 3, 1) := by decide +kernel
theorem dX4_bed_30 : decode cX4_bed 30 = .ok (.bipush 100, 2) := by decide +kernel
theorem dX4_bed_32 : decode cX4_bed 32 = .ok (.if_icmp .le 13, 3) := by decide +kernel
theorem dX4_bed_35 : decode cX4_bed 35 = .ok (.new 23, 3) := by decide +kernel
theorem dX4_bed_38 : decode cX4_bed 38 = .ok (.dup, 1) := by decide +kernel
theorem dX4_bed_39 : decode cX4_bed 39 = .ok (.ldc 30, 2) := by decide +kernel
theorem dX4_bed_41 : decode cX4_bed 41 = .ok (.invokespecial 27, 3) := by decide +kernel
theorem dX4_bed_44 : decode cX4_bed 44 = .ok (.athrow, 1) := by decide +kernel
theorem dX4_bed_45 : decode cX4_bed 45 = .ok (.aload_n 0, 1) := by decide +kernel
theorem dX4_bed_46 : decode cX4_bed 46 = .ok (.getfield 10, 3) := by decide +kernel
theorem dX4_bed_49 : decode cX4_bed 49 = .ok (.getfield 32, 3) := by decide +kernel
theorem dX4_bed_52 : decode cX4_bed 52 = .ok (.invokevirtual 36, 3) := by decide +kernel
theorem dX4_bed_55 : decode cX4_bed 55 = .ok (.ifCond .eq 13, 3) := by decide +kernel
theorem dX4_bed_58 : decode cX4_bed 58 = .ok (.new 42, 3) := by decide +kernel
theorem dX4_bed_61 : decode cX4_bed 61 = .ok (.dup, 1) := by decide +kernel
theorem dX4_bed_62 : decode cX4_bed 62 = .ok (.ldc 44, 2) := by decide +kernel
theorem dX4_bed_64 : decode cX4_bed 64 = .ok (.invokespecial 46, 3) := by decide +kernel
theorem dX4_bed_67 : decode cX4_bed 67 = .ok (.athrow, 1) := by decide +kernel
theorem dX4_bed_68 : decode cX4_bed 68 = .ok (.aload_n 0, 1) := by decide +kernel
theorem dX4_bed_69 : decode cX4_bed 69 = .ok (.getfield 10, 3) := by decide +kernel
theorem dX4_bed_72 : decode cX4_bed 72 = .ok (.getfield 32, 3) := by decide +kernel
theorem dX4_bed_75 : decode cX4_bed 75 = .ok (.iload_n 1, 1) := by decide +kernel
theorem dX4_bed_76 : decode cX4_bed 76 = .ok (.iload_n 2, 1) := by decide +kernel
theorem dX4_bed_77 : decode cX4_bed 77 = .ok (.iload_n 3, 1) := by decide +kernel
theorem dX4_bed_78 : decode cX4_bed 78 = .ok (.invokevirtual 47, 3) := by decide +kernel
theorem dX4_bed_81 : decode cX4_bed 81 = .ok (.ireturn, 1) := by decide +kernel
set_option maxRecDepth 20000 in
theorem ggX4_cut_X4_needBed : GoodIn wsX4_cut wsX4_needBed := goodIn_ca (goodIn_r _ [8, 9, 10, 3, 29, 30, 31, 32, 33, 34, 35, 36, 37, 38, 39, 40, 41, 42, 43, 44, 45, 46, 47] (by decide +kernel) (by decide +kernel)) (goodIn_sub (fun _ h => List.mem_cons_of_mem _ (List.mem_append_right _ h)) (by decide +kernel))
set_option maxRecDepth 20000 in
theorem gX4_cut_X4_needBed : GoodIn wsX4_cut (wsV RX4 51 RX4 yX4_needBed wsX4_needBed) := goodIn_app (goodIn_of _ (by decide +kernel)) ggX4_cut_X4_needBed
set_option maxRecDepth 20000 in
theorem ggX4_cut_X1_cutDown : GoodIn wsX4_cut wsX1_cutDown := goodIn_r _ [15, 16, 17, 18, 19, 20, 21, 14, 22, 23, 24, 25, 26, 27, 28, 38, 39, 40, 41, 42, 43, 44, 45, 46, 47] (by decide +kernel) (by decide +kernel)
set_option maxRecDepth 20000 in
theorem gX4_cut_X1_cutDown : GoodIn wsX4_cut (wsV RX4 60 RX1 yX1_cutDown wsX1_cutDown) := goodIn_app (goodIn_of _ (by decide +kernel)) ggX4_cut_X1_cutDown
theorem dX4_cut_0 : decode cX4_cut 0 = .ok (.aload_n 0, 1) := by decide +kernel
theorem dX4_cut_1 : decode cX4_cut 1 = .ok (.iload_n 1, 1) := by decide +kernel
theorem dX4_cut_2 : decode cX4_cut 2 = .ok (.invokevirtual 51, 3) := by decide +kernel
theorem dX4_cut_5 : decode cX4_cut 5 = .ok (.aload_n 0, 1) := by decide +kernel
theorem dX4_cut_6 : decode cX4_cut 6 = .ok (.getfield 10, 3) := by decide +kernel
theorem dX4_cut_9 : decode cX4_cut 9 = .ok (.getfield 32, 3) := by decide +kernel
theorem dX4_cut_12 : decode cX4_cut 12 = .ok (.getfield 54, 3) := by decide +kernel
theorem dX4_cut_15 : decode cX4_cut 15 = .ok (.iload_n 1, 1) := by decide +kernel
theorem dX4_cut_16 : decode cX4_cut 16 = .ok (.iaload, 1) := by decide +kernel
theorem dX4_cut_17 : decode cX4_cut 17 = .ok (.ifCond .ne 13, 3) := by decide +kernel
theorem dX4_cut_20 : decode cX4_cut 20 = .ok (.new 42, 3) := by decide +kernel
theorem dX4_cut_23 : decode cX4_cut 23 = .ok (.dup, 1) := by decide +kernel
theorem dX4_cut_24 : decode cX4_cut 24 = .ok (.ldc 58, 2) := by decide +kernel
theorem dX4_cut_26 : decode cX4_cut 26 = .ok (.invokespecial 46, 3) := by decide +kernel
theorem dX4_cut_29 : decode cX4_cut 29 = .ok (.athrow, 1) := by decide +kernel
theorem dX4_cut_30 : decode cX4_cut 30 = .ok (.aload_n 0, 1) := by decide +kernel
theorem dX4_cut_31 : decode cX4_cut 31 = .ok (.getfield 10, 3) := by decide +kernel
theorem dX4_cut_34 : decode cX4_cut 34 = .ok (.getfield 32, 3) := by decide +kernel
theorem dX4_cut_37 : decode cX4_cut 37 = .ok (.iload_n 1, 1) := by decide +kernel
theorem dX4_cut_38 : decode cX4_cut 38 = .ok (.invokevirtual 60, 3) := by decide +kernel
theorem dX4_cut_41 : decode cX4_cut 41 = .ok (.ireturn, 1) := by decide +kernel
set_option maxRecDepth 20000 in
theorem ggX4_tie_X4_needBed : GoodIn wsX4_tie wsX4_needBed := goodIn_ca (goodIn_r _ [6, 7, 8, 1, 22, 23, 24, 25, 26, 27, 28, 29, 30, 31, 32, 33, 34, 35, 36, 37, 38, 39, 40] (by decide +kernel) (by decide +kernel)) (goodIn_sub (fun _ h => List.mem_cons_of_mem _ (List.mem_append_right _ h)) (by decide +kernel))
set_option maxRecDepth 20000 in
theorem gX4_tie_X4_needBed : GoodIn wsX4_tie (wsV RX4 51 RX4 yX4_needBed wsX4_needBed) := goodIn_app (goodIn_of _ (by decide +kernel)) ggX4_tie_X4_needBed
set_option maxRecDepth 20000 in
theorem ggX4_tie_X1_tieUp : GoodIn wsX4_tie wsX1_tieUp := goodIn_r _ [13, 14, 15, 16, 17, 18, 19, 20, 21, 31, 32, 33, 34, 35, 36, 37, 38, 39, 40] (by decide +kernel) (by decide +kernel)
set_option maxRecDepth 20000 in
theorem gX4_tie_X1_tieUp : GoodIn wsX4_tie (wsV RX4 68 RX1 yX1_tieUp wsX1_tieUp) := goodIn_app (goodIn_of _ (by decide +kernel)) ggX4_tie_X1_tieUp
theorem dX4_tie_0 : decode cX4_tie 0 = .ok (.aload_n 0, 1) := by decide +kernel
theorem dX4_tie_1 : decode cX4_tie 1 = .ok (.iload_n 1, 1) := by decide +kernel
theorem dX4_tie_2 : decode cX4_tie 2 = .ok (.invokevirtual 51, 3) := by decide +kernel
theorem dX4_tie_5 : decode cX4_tie 5 = .ok (.aload_n 0, 1) := by decide +kernel
theorem dX4_tie_6 : decode cX4_tie 6 = .ok (.getfield 10, 3) := by decide +kernel
theorem dX4_tie_9 : decode cX4_tie 9 = .ok (.getfield 32, 3) := by decide +kernel
theorem dX4_tie_12 : decode cX4_tie 12 = .ok (.iload_n 1, 1) := by decide +kernel
theorem dX4_tie_13 : decode cX4_tie 13 = .ok (.aload_n 0, 1) := by decide +kernel
theorem dX4_tie_14 : decode cX4_tie 14 = .ok (.getfield 10, 3) := by decide +kernel
theorem dX4_tie_17 : decode cX4_tie 17 = .ok (.getfield 64, 3) := by decide +kernel
theorem dX4_tie_20 : decode cX4_tie 20 = .ok (.invokevirtual 68, 3) := by decide +kernel
theorem dX4_tie_23 : decode cX4_tie 23 = .ok (.istore_n 2, 1) := by decide +kernel
theorem dX4_tie_24 : decode cX4_tie 24 = .ok (.aload_n 0, 1) := by decide +kernel
theorem dX4_tie_25 : decode cX4_tie 25 = .ok (.getfield 10, 3) := by decide +kernel
theorem dX4_tie_28 : decode cX4_tie 28 = .ok (.dup, 1) := by decide +kernel
theorem dX4_tie_29 : decode cX4_tie 29 = .ok (.getfield 64, 3) := by decide +kernel
theorem dX4_tie_32 : decode cX4_tie 32 = .ok (.iload_n 2, 1) := by decide +kernel
theorem dX4_tie_33 : decode cX4_tie 33 = .ok (.isub, 1) := by decide +kernel
theorem dX4_tie_34 : decode cX4_tie 34 = .ok (.putfield 64, 3) := by decide +kernel
theorem dX4_tie_37 : decode cX4_tie 37 = .ok (.iload_n 2, 1) := by decide +kernel
theorem dX4_tie_38 : decode cX4_tie 38 = .ok (.ireturn, 1) := by decide +kernel
set_option maxRecDepth 20000 in
theorem ggX4_buy_X4_tenthRoundedUp : GoodIn wsX4_buy wsX4_tenthRoundedUp := goodIn_r _ [9] (by decide +kernel) (by decide +kernel)
set_option maxRecDepth 20000 in
theorem gX4_buy_X4_tenthRoundedUp : GoodIn wsX4_buy (va_wsS RX4 74 yX4_tenthRoundedUp wsX4_tenthRoundedUp) := goodIn_app (goodIn_of _ (by decide +kernel)) ggX4_buy_X4_tenthRoundedUp
theorem dX4_buy_0 : decode cX4_buy 0 = .ok (.iload_n 1, 1) := by decide +kernel
theorem dX4_buy_1 : decode cX4_buy 1 = .ok (.iconst 1, 1) := by decide +kernel
theorem dX4_buy_2 : decode cX4_buy 2 = .ok (.if_icmp .lt 10, 3) := by decide +kernel
theorem dX4_buy_5 : decode cX4_buy 5 = .ok (.iload_n 1, 1) := by decide +kernel
theorem dX4_buy_6 : decode cX4_buy 6 = .ok (.sipush 500, 3) := by decide +kernel
theorem dX4_buy_9 : decode cX4_buy 9 = .ok (.if_icmp .le 13, 3) := by decide +kernel
theorem dX4_buy_12 : decode cX4_buy 12 = .ok (.new 23, 3) := by decide +kernel
theorem dX4_buy_15 : decode cX4_buy 15 = .ok (.dup, 1) := by decide +kernel
theorem dX4_buy_16 : decode cX4_buy 16 = .ok (.ldc 72, 2) := by decide +kernel
theorem dX4_buy_18 : decode cX4_buy 18 = .ok (.invokespecial 27, 3) := by decide +kernel
theorem dX4_buy_21 : decode cX4_buy 21 = .ok (.athrow, 1) := by decide +kernel
theorem dX4_buy_22 : decode cX4_buy 22 = .ok (.iload_n 1, 1) := by decide +kernel
theorem dX4_buy_23 : decode cX4_buy 23 = .ok (.invokestatic 74, 3) := by decide +kernel
theorem dX4_buy_26 : decode cX4_buy 26 = .ok (.istore_n 2, 1) := by decide +kernel
theorem dX4_buy_27 : decode cX4_buy 27 = .ok (.iload_n 2, 1) := by decide +kernel
theorem dX4_buy_28 : decode cX4_buy 28 = .ok (.aload_n 0, 1) := by decide +kernel
theorem dX4_buy_29 : decode cX4_buy 29 = .ok (.getfield 10, 3) := by decide +kernel
theorem dX4_buy_32 : decode cX4_buy 32 = .ok (.getfield 77, 3) := by decide +kernel
theorem dX4_buy_35 : decode cX4_buy 35 = .ok (.if_icmp .le 13, 3) := by decide +kernel
theorem dX4_buy_38 : decode cX4_buy 38 = .ok (.new 42, 3) := by decide +kernel
theorem dX4_buy_41 : decode cX4_buy 41 = .ok (.dup, 1) := by decide +kernel
theorem dX4_buy_42 : decode cX4_buy 42 = .ok (.ldc 80, 2) := by decide +kernel
theorem dX4_buy_44 : decode cX4_buy 44 = .ok (.invokespecial 46, 3) := by decide +kernel
theorem dX4_buy_47 : decode cX4_buy 47 = .ok (.athrow, 1) := by decide +kernel
theorem dX4_buy_48 : decode cX4_buy 48 = .ok (.aload_n 0, 1) := by decide +kernel
theorem dX4_buy_49 : decode cX4_buy 49 = .ok (.getfield 10, 3) := by decide +kernel
theorem dX4_buy_52 : decode cX4_buy 52 = .ok (.dup, 1) := by decide +kernel
theorem dX4_buy_53 : decode cX4_buy 53 = .ok (.getfield 77, 3) := by decide +kernel
theorem dX4_buy_56 : decode cX4_buy 56 = .ok (.iload_n 2, 1) := by decide +kernel
theorem dX4_buy_57 : decode cX4_buy 57 = .ok (.isub, 1) := by decide +kernel
theorem dX4_buy_58 : decode cX4_buy 58 = .ok (.putfield 77, 3) := by decide +kernel
theorem dX4_buy_61 : decode cX4_buy 61 = .ok (.aload_n 0, 1) := by decide +kernel
theorem dX4_buy_62 : decode cX4_buy 62 = .ok (.getfield 10, 3) := by decide +kernel
theorem dX4_buy_65 : decode cX4_buy 65 = .ok (.dup, 1) := by decide +kernel
theorem dX4_buy_66 : decode cX4_buy 66 = .ok (.getfield 64, 3) := by decide +kernel
theorem dX4_buy_69 : decode cX4_buy 69 = .ok (.iload_n 1, 1) := by decide +kernel
theorem dX4_buy_70 : decode cX4_buy 70 = .ok (.iadd, 1) := by decide +kernel
theorem dX4_buy_71 : decode cX4_buy 71 = .ok (.putfield 64, 3) := by decide +kernel
theorem dX4_buy_74 : decode cX4_buy 74 = .ok (.aload_n 0, 1) := by decide +kernel
theorem dX4_buy_75 : decode cX4_buy 75 = .ok (.getfield 10, 3) := by decide +kernel
theorem dX4_buy_78 : decode cX4_buy 78 = .ok (.getfield 64, 3) := by decide +kernel
theorem dX4_buy_81 : decode cX4_buy 81 = .ok (.ireturn, 1) := by decide +kernel
set_option maxRecDepth 20000 in
theorem ggX4_about_X4_needBed : GoodIn wsX4_about wsX4_needBed := goodIn_ca (goodIn_r _ [6, 7, 8, 1, 33, 34, 35, 36, 37, 38, 39, 40, 41, 42, 43, 44, 45, 46, 47, 48, 49, 50, 51] (by decide +kernel) (by decide +kernel)) (goodIn_sub (fun _ h => List.mem_cons_of_mem _ (List.mem_append_right _ h)) (by decide +kernel))
set_option maxRecDepth 20000 in
theorem gX4_about_X4_needBed : GoodIn wsX4_about (wsV RX4 51 RX4 yX4_needBed wsX4_needBed) := goodIn_app (goodIn_of _ (by decide +kernel)) ggX4_about_X4_needBed
set_option maxRecDepth 20000 in
theorem ggX4_about_X4_needFigure : GoodIn wsX4_about wsX4_needFigure := goodIn_ca (goodIn_r _ [11, 7, 8] (by decide +kernel) (by decide +kernel)) (goodIn_sub (fun _ h => List.mem_cons_of_mem _ (List.mem_append_right _ h)) (by decide +kernel))
set_option maxRecDepth 20000 in
theorem gX4_about_X4_needFigure : GoodIn wsX4_about (va_wsS RX4 82 yX4_needFigure wsX4_needFigure) := goodIn_app (goodIn_of _ (by decide +kernel)) ggX4_about_X4_needFigure
set_option maxRecDepth 20000 in
theorem ggX4_about_X1_tell : GoodIn wsX4_about wsX1_tell := goodIn_r _ [16, 17, 18, 19, 20, 21, 22, 23, 24, 25, 26, 27, 15, 28, 29, 30, 31, 32, 42, 43, 44, 45, 46, 47, 48, 49, 50, 51] (by decide +kernel) (by decide +kernel)
set_option maxRecDepth 20000 in
theorem gX4_about_X1_tell : GoodIn wsX4_about (wsV RX4 86 RX1 yX1_tell wsX1_tell) := goodIn_app (goodIn_of _ (by decide +kernel)) ggX4_about_X1_tell
theorem dX4_about_0 : decode cX4_about 0 = .ok (.aload_n 0, 1) := by decide +kernel
theorem dX4_about_1 : decode cX4_about 1 = .ok (.iload_n 1, 1) := by decide +kernel
theorem dX4_about_2 : decode cX4_about 2 = .ok (.invokevirtual 51, 3) := by decide +kernel
theorem dX4_about_5 : decode cX4_about 5 = .ok (.iload_n 2, 1) := by decide +kernel
theorem dX4_about_6 : decode cX4_about 6 = .ok (.bipush 10, 2) := by decide +kernel
theorem dX4_about_8 : decode cX4_about 8 = .ok (.invokestatic 82, 3) := by decide +kernel
theorem dX4_about_11 : decode cX4_about 11 = .ok (.aload_n 0, 1) := by decide +kernel
theorem dX4_about_12 : decode cX4_about 12 = .ok (.getfield 10, 3) := by decide +kernel
theorem dX4_about_15 : decode cX4_about 15 = .ok (.getfield 32, 3) := by decide +kernel
theorem dX4_about_18 : decode cX4_about 18 = .ok (.iload_n 1, 1) := by decide +kernel
theorem dX4_about_19 : decode cX4_about 19 = .ok (.iload_n 2, 1) := by decide +kernel
theorem dX4_about_20 : decode cX4_about 20 = .ok (.invokevirtual 86, 3) := by decide +kernel
theorem dX4_about_23 : decode cX4_about 23 = .ok (.ireturn, 1) := by decide +kernel
set_option maxRecDepth 20000 in
theorem ggX4_best_X4_needBed : GoodIn wsX4_best wsX4_needBed := goodIn_ca (goodIn_r _ [7, 8, 9, 2, 54, 55, 56, 57, 58, 59, 60, 61, 62, 63, 64, 65, 66, 67, 68, 69, 70, 71, 72] (by decide +kernel) (by decide +kernel)) (goodIn_sub (fun _ h => List.mem_cons_of_mem _ (List.mem_append_right _ h)) (by decide +kernel))
set_option maxRecDepth 20000 in
theorem gX4_best_X4_needBed : GoodIn wsX4_best (wsV RX4 51 RX4 yX4_needBed wsX4_needBed) := goodIn_app (goodIn_of _ (by decide +kernel)) ggX4_best_X4_needBed
set_option maxRecDepth 20000 in
theorem ggX4_best_X1_copyFrom : GoodIn wsX4_best wsX1_copyFrom := goodIn_r _ [14, 15, 16, 17, 18, 19, 20, 21, 22, 23, 63, 64, 65, 66, 67, 68, 69, 70, 71, 72] (by decide +kernel) (by decide +kernel)
set_option maxRecDepth 20000 in
theorem gX4_best_X1_copyFrom : GoodIn wsX4_best (wsV RX4 89 RX1 yX1_copyFrom wsX1_copyFrom) := goodIn_app (goodIn_of _ (by decide +kernel)) ggX4_best_X1_copyFrom
set_option maxRecDepth 20000 in
theorem ggX4_best_X1_sedgeGiven : GoodIn wsX4_best wsX1_sedgeGiven := goodIn_r _ [27, 19, 28, 29, 30, 13, 31, 18, 17, 63, 64, 65, 66, 67, 68, 69, 70, 71, 72] (by decide +kernel) (by decide +kernel)
set_option maxRecDepth 20000 in
theorem gX4_best_X1_sedgeGiven : GoodIn wsX4_best (wsV RX4 93 RX1 yX1_sedgeGiven wsX1_sedgeGiven) := goodIn_app (goodIn_of _ (by decide +kernel)) ggX4_best_X1_sedgeGiven
set_option maxRecDepth 20000 in
theorem ggX4_best_X1_endYear : GoodIn wsX4_best wsX1_endYear := goodIn_r _ [35, 15, 36, 18, 19, 37, 38, 39, 40, 41, 42, 43, 44, 45, 13, 46, 47, 48, 49, 50, 16, 51, 52, 53, 63, 64, 65, 66, 67, 68, 69, 70, 71, 72] (by decide +kernel) (by decide +kernel)
set_option maxRecDepth 20000 in
theorem gX4_best_X1_endYear : GoodIn wsX4_best (wsV RX4 96 RX1 yX1_endYear wsX1_endYear) := goodIn_app (goodIn_of _ (by decide +kernel)) ggX4_best_X1_endYear
theorem dX4_best_0 : decode cX4_best 0 = .ok (.aload_n 0, 1) := by decide +kernel
theorem dX4_best_1 : decode cX4_best 1 = .ok (.iload_n 1, 1) := by decide +kernel
theorem dX4_best_2 : decode cX4_best 2 = .ok (.invokevirtual 51, 3) := by decide +kernel
theorem dX4_best_5 : decode cX4_best 5 = .ok (.aload_n 0, 1) := by decide +kernel
theorem dX4_best_6 : decode cX4_best 6 = .ok (.getfield 16, 3) := by decide +kernel
theorem dX4_best_9 : decode cX4_best 9 = .ok (.getfield 32, 3) := by decide +kernel
theorem dX4_best_12 : decode cX4_best 12 = .ok (.aload_n 0, 1) := by decide +kernel
theorem dX4_best_13 : decode cX4_best 13 = .ok (.getfield 10, 3) := by decide +kernel
theorem dX4_best_16 : decode cX4_best 16 = .ok (.getfield 32, 3) := by decide +kernel
theorem dX4_best_19 : decode cX4_best 19 = .ok (.invokevirtual 89, 3) := by decide +kernel
theorem dX4_best_22 : decode cX4_best 22 = .ok (.iconst 0, 1) := by decide +kernel
theorem dX4_best_23 : decode cX4_best 23 = .ok (.istore_n 2, 1) := by decide +kernel
theorem dX4_best_24 : decode cX4_best 24 = .ok (.aload_n 0, 1) := by decide +kernel
theorem dX4_best_25 : decode cX4_best 25 = .ok (.getfield 16, 3) := by decide +kernel
theorem dX4_best_28 : decode cX4_best 28 = .ok (.getfield 32, 3) := by decide +kernel
theorem dX4_best_31 : decode cX4_best 31 = .ok (.iload_n 1, 1) := by decide +kernel
theorem dX4_best_32 : decode cX4_best 32 = .ok (.invokevirtual 93, 3) := by decide +kernel
theorem dX4_best_35 : decode cX4_best 35 = .ok (.istore_n 3, 1) := by decide +kernel
theorem dX4_best_36 : decode cX4_best 36 = .ok (.iconst 1, 1) := by decide +kernel
theorem dX4_best_37 : decode cX4_best 37 = .ok (.istore 4, 2) := by decide +kernel
theorem dX4_best_39 : decode cX4_best 39 = .ok (.iload 4, 2) := by decide +kernel
theorem dX4_best_41 : decode cX4_best 41 = .ok (.bipush 9, 2) := by decide +kernel
theorem dX4_best_43 : decode cX4_best 43 = .ok (.if_icmp .gt 44, 3) := by decide +kernel
theorem dX4_best_46 : decode cX4_best 46 = .ok (.aload_n 0, 1) := by decide +kernel
theorem dX4_best_47 : decode cX4_best 47 = .ok (.getfield 16, 3) := by decide +kernel
theorem dX4_best_50 : decode cX4_best 50 = .ok (.getfield 32, 3) := by decide +kernel
theorem dX4_best_53 : decode cX4_best 53 = .ok (.invokevirtual 96, 3) := by decide +kernel
theorem dX4_best_56 : decode cX4_best 56 = .ok (.aload_n 0, 1) := by decide +kernel
theorem dX4_best_57 : decode cX4_best 57 = .ok (.getfield 16, 3) := by decide +kernel
theorem dX4_best_60 : decode cX4_best 60 = .ok (.getfield 32, 3) := by decide +kernel
theorem dX4_best_63 : decode cX4_best 63 = .ok (.iload_n 1, 1) := by decide +kernel
theorem dX4_best_64 : decode cX4_best 64 = .ok (.invokevirtual 93, 3) := by decide +kernel
theorem dX4_best_67 : decode cX4_best 67 = .ok (.istore 5, 2) := by decide +kernel
theorem dX4_best_69 : decode cX4_best 69 = .ok (.iload 5, 2) := by decide +kernel
theorem dX4_best_71 : decode cX4_best 71 = .ok (.iload_n 3, 1) := by decide +kernel
theorem dX4_best_72 : decode cX4_best 72 = .ok (.if_icmp .le 9, 3) := by decide +kernel
theorem dX4_best_75 : decode cX4_best 75 = .ok (.iload 5, 2) := by decide +kernel
theorem dX4_best_77 : decode cX4_best 77 = .ok (.istore_n 3, 1) := by decide +kernel
theorem dX4_best_78 : decode cX4_best 78 = .ok (.iload 4, 2) := by decide +kernel
theorem dX4_best_80 : decode cX4_best 80 = .ok (.istore_n 2, 1) := by decide +kernel
theorem dX4_best_81 : decode cX4_best 81 = .ok (.iinc 4 1, 3) := by decide +kernel
theorem dX4_best_84 : decode cX4_best 84 = .ok (.goto (-45), 3) := by decide +kernel
theorem dX4_best_87 : decode cX4_best 87 = .ok (.iload_n 2, 1) := by decide +kernel
theorem dX4_best_88 : decode cX4_best 88 = .ok (.ireturn, 1) := by decide +kernel
set_option maxRecDepth 20000 in
theorem ggX4_barge_X4_needPlace : GoodIn wsX4_barge wsX4_needPlace := goodIn_ca (goodIn_r _ [7, 8, 9] (by decide +kernel) (by decide +kernel)) (goodIn_sub (fun _ h => List.mem_cons_of_mem _ (List.mem_append_right _ h)) (by decide +kernel))
set_option maxRecDepth 20000 in
theorem gX4_barge_X4_needPlace : GoodIn wsX4_barge (va_wsS RX4 19 yX4_needPlace wsX4_needPlace) := goodIn_app (goodIn_of _ (by decide +kernel)) ggX4_barge_X4_needPlace
set_option maxRecDepth 20000 in
theorem ggX4_barge_X0_areFull : GoodIn wsX4_barge wsX0_areFull := goodIn_r _ [14, 15, 31, 32, 33, 34, 35, 36] (by decide +kernel) (by decide +kernel)
set_option maxRecDepth 20000 in
theorem gX4_barge_X0_areFull : GoodIn wsX4_barge (wsV RX4 103 RX0 yX0_areFull wsX0_areFull) := goodIn_app (goodIn_of _ (by decide +kernel)) ggX4_barge_X0_areFull
set_option maxRecDepth 20000 in
theorem ggX4_barge_X0_add : GoodIn wsX4_barge wsX0_add := goodIn_r _ [19, 15, 20, 21, 31, 32, 33, 34, 35, 36] (by decide +kernel) (by decide +kernel)
set_option maxRecDepth 20000 in
theorem gX4_barge_X0_add : GoodIn wsX4_barge (wsV RX4 108 RX0 yX0_add wsX0_add) := goodIn_app (goodIn_of _ (by decide +kernel)) ggX4_barge_X0_add
theorem dX4_barge_0 : decode cX4_barge 0 = .ok (.iload_n 1, 1) := by decide +kernel
theorem dX4_barge_1 : decode cX4_barge 1 = .ok (.invokestatic 19, 3) := by decide +kernel
theorem dX4_barge_4 : decode cX4_barge 4 = .ok (.aload_n 0, 1) := by decide +kernel
theorem dX4_barge_5 : decode cX4_barge 5 = .ok (.getfield 10, 3) := by decide +kernel
theorem dX4_barge_8 : decode cX4_barge 8 = .ok (.getfield 99, 3) := by decide +kernel
theorem dX4_barge_11 : decode cX4_barge 11 = .ok (.invokevirtual 103, 3) := by decide +kernel
theorem dX4_barge_14 : decode cX4_barge 14 = .ok (.ifCond .eq 13, 3) := by decide +kernel
theorem dX4_barge_17 : decode cX4_barge 17 = .ok (.new 42, 3) := by decide +kernel
theorem dX4_barge_20 : decode cX4_barge 20 = .ok (.dup, 1) := by decide +kernel
theorem dX4_barge_21 : decode cX4_barge 21 = .ok (.ldc 106, 2) := by decide +kernel
theorem dX4_barge_23 : decode cX4_barge 23 = .ok (.invokespecial 46, 3) := by decide +kernel
theorem dX4_barge_26 : decode cX4_barge 26 = .ok (.athrow, 1) := by decide +kernel
theorem dX4_barge_27 : decode cX4_barge 27 = .ok (.aload_n 0, 1) := by decide +kernel
theorem dX4_barge_28 : decode cX4_barge 28 = .ok (.getfield 10, 3) := by decide +kernel
theorem dX4_barge_31 : decode cX4_barge 31 = .ok (.getfield 99, 3) := by decide +kernel
theorem dX4_barge_34 : decode cX4_barge 34 = .ok (.iload_n 1, 1) := by decide +kernel
theorem dX4_barge_35 : decode cX4_barge 35 = .ok (.invokevirtual 108, 3) := by decide +kernel
theorem dX4_barge_38 : decode cX4_barge 38 = .ok (.ireturn, 1) := by decide +kernel
set_option maxRecDepth 20000 in
theorem ggX4_sail_X4_needBarge : GoodIn wsX4_sail wsX4_needBarge := goodIn_ca (goodIn_r _ [6, 7, 8, 1, 23, 24, 25, 26, 27, 28, 29, 30, 31, 32, 33, 34, 35, 36, 37] (by decide +kernel) (by decide +kernel)) (goodIn_sub (fun _ h => List.mem_cons_of_mem _ (List.mem_append_right _ h)) (by decide +kernel))
set_option maxRecDepth 20000 in
theorem gX4_sail_X4_needBarge : GoodIn wsX4_sail (wsV RX4 110 RX4 yX4_needBarge wsX4_needBarge) := goodIn_app (goodIn_of _ (by decide +kernel)) ggX4_sail_X4_needBarge
set_option maxRecDepth 20000 in
theorem ggX4_sail_X4_needPlace : GoodIn wsX4_sail wsX4_needPlace := goodIn_ca (goodIn_r _ [11, 7, 8] (by decide +kernel) (by decide +kernel)) (goodIn_sub (fun _ h => List.mem_cons_of_mem _ (List.mem_append_right _ h)) (by decide +kernel))
set_option maxRecDepth 20000 in
theorem gX4_sail_X4_needPlace : GoodIn wsX4_sail (va_wsS RX4 19 yX4_needPlace wsX4_needPlace) := goodIn_app (goodIn_of _ (by decide +kernel)) ggX4_sail_X4_needPlace
set_option maxRecDepth 20000 in
theorem ggX4_sail_X0_send : GoodIn wsX4_sail wsX0_send := goodIn_r _ [16, 17, 18, 19, 20, 21, 22, 32, 33, 34, 35, 36, 37] (by decide +kernel) (by decide +kernel)
set_option maxRecDepth 20000 in
theorem gX4_sail_X0_send : GoodIn wsX4_sail (wsV RX4 113 RX0 yX0_send wsX0_send) := goodIn_app (goodIn_of _ (by decide +kernel)) ggX4_sail_X0_send
theorem dX4_sail_0 : decode cX4_sail 0 = .ok (.aload_n 0, 1) := by decide +kernel
theorem dX4_sail_1 : decode cX4_sail 1 = .ok (.iload_n 1, 1) := by decide +kernel
theorem dX4_sail_2 : decode cX4_sail 2 = .ok (.invokevirtual 110, 3) := by decide +kernel
theorem dX4_sail_5 : decode cX4_sail 5 = .ok (.iload_n 2, 1) := by decide +kernel
theorem dX4_sail_6 : decode cX4_sail 6 = .ok (.invokestatic 19, 3) := by decide +kernel
theorem dX4_sail_9 : decode cX4_sail 9 = .ok (.aload_n 0, 1) := by decide +kernel
theorem dX4_sail_10 : decode cX4_sail 10 = .ok (.getfield 10, 3) := by decide +kernel
theorem dX4_sail_13 : decode cX4_sail 13 = .ok (.getfield 99, 3) := by decide +kernel
theorem dX4_sail_16 : decode cX4_sail 16 = .ok (.iload_n 1, 1) := by decide +kernel
theorem dX4_sail_17 : decode cX4_sail 17 = .ok (.iload_n 2, 1) := by decide +kernel
theorem dX4_sail_18 : decode cX4_sail 18 = .ok (.invokevirtual 113, 3) := by decide +kernel
theorem dX4_sail_21 : decode cX4_sail 21 = .ok (.ireturn, 1) := by decide +kernel
set_option maxRecDepth 20000 in
theorem ggX4_load_X4_needBarge : GoodIn wsX4_load wsX4_needBarge := goodIn_ca (goodIn_r _ [8, 9, 10, 3, 33, 34, 35, 36, 37, 38, 39, 40, 41, 42, 43, 44, 45, 46, 47] (by decide +kernel) (by decide +kernel)) (goodIn_sub (fun _ h => List.mem_cons_of_mem _ (List.mem_append_right _ h)) (by decide +kernel))
set_option maxRecDepth 20000 in
theorem gX4_load_X4_needBarge : GoodIn wsX4_load (wsV RX4 110 RX4 yX4_needBarge wsX4_needBarge) := goodIn_app (goodIn_of _ (by decide +kernel)) ggX4_load_X4_needBarge
set_option maxRecDepth 20000 in
theorem ggX4_load_X4_needBed : GoodIn wsX4_load wsX4_needBed := goodIn_ca (goodIn_r _ [14, 9, 10, 3, 33, 34, 35, 36, 37, 38, 39, 40, 41, 48, 49, 50, 51, 52, 53, 54, 55, 56, 57] (by decide +kernel) (by decide +kernel)) (goodIn_sub (fun _ h => List.mem_cons_of_mem _ (List.mem_append_right _ h)) (by decide +kernel))
set_option maxRecDepth 20000 in
theorem gX4_load_X4_needBed : GoodIn wsX4_load (wsV RX4 51 RX4 yX4_needBed wsX4_needBed) := goodIn_app (goodIn_of _ (by decide +kernel)) ggX4_load_X4_needBed
set_option maxRecDepth 20000 in
theorem ggX4_load_X3_takeAboard : GoodIn wsX4_load wsX3_takeAboard := goodIn_r _ [19, 20, 21, 22, 23, 24, 25, 26, 27, 28, 29, 30, 31, 32, 35, 36, 37, 38, 39, 40, 41, 48, 49, 50, 51, 52, 53, 54, 55, 56, 57, 42, 43, 44, 45, 46, 47] (by decide +kernel) (by decide +kernel)
set_option maxRecDepth 20000 in
theorem gX4_load_X3_takeAboard : GoodIn wsX4_load (wsV RX4 122 RX3 yX3_takeAboard wsX3_takeAboard) := goodIn_app (goodIn_of _ (by decide +kernel)) ggX4_load_X3_takeAboard
theorem dX4_load_0 : decode cX4_load 0 = .ok (.aload_n 0, 1) := by decide +kernel
theorem dX4_load_1 : decode cX4_load 1 = .ok (.iload_n 1, 1) := by decide +kernel
theorem dX4_load_2 : decode cX4_load 2 = .ok (.invokevirtual 110, 3) := by decide +kernel
theorem dX4_load_5 : decode cX4_load 5 = .ok (.aload_n 0, 1) := by decide +kernel
theorem dX4_load_6 : decode cX4_load 6 = .ok (.iload_n 2, 1) := by decide +kernel
theorem dX4_load_7 : decode cX4_load 7 = .ok (.invokevirtual 51, 3) := by decide +kernel
theorem dX4_load_10 : decode cX4_load 10 = .ok (.aload_n 0, 1) := by decide +kernel
theorem dX4_load_11 : decode cX4_load 11 = .ok (.getfield 10, 3) := by decide +kernel
theorem dX4_load_14 : decode cX4_load 14 = .ok (.getfield 99, 3) := by decide +kernel
theorem dX4_load_17 : decode cX4_load 17 = .ok (.getfield 116, 3) := by decide +kernel
theorem dX4_load_20 : decode cX4_load 20 = .ok (.iload_n 1, 1) := by decide +kernel
theorem dX4_load_21 : decode cX4_load 21 = .ok (.iaload, 1) := by decide +kernel
theorem dX4_load_22 : decode cX4_load 22 = .ok (.aload_n 0, 1) := by decide +kernel
theorem dX4_load_23 : decode cX4_load 23 = .ok (.getfield 10, 3) := by decide +kernel
theorem dX4_load_26 : decode cX4_load 26 = .ok (.getfield 32, 3) := by decide +kernel
theorem dX4_load_29 : decode cX4_load 29 = .ok (.getfield 119, 3) := by decide +kernel
theorem dX4_load_32 : decode cX4_load 32 = .ok (.iload_n 2, 1) := by decide +kernel
theorem dX4_load_33 : decode cX4_load 33 = .ok (.iaload, 1) := by decide +kernel
theorem dX4_load_34 : decode cX4_load 34 = .ok (.if_icmp .eq 13, 3) := by decide +kernel
theorem dX4_load_37 : decode cX4_load 37 = .ok (.new 42, 3) := by decide +kernel
theorem dX4_load_40 : decode cX4_load 40 = .ok (.dup, 1) := by decide +kernel
theorem dX4_load_41 : decode cX4_load 41 = .ok (.ldc 120, 2) := by decide +kernel
theorem dX4_load_43 : decode cX4_load 43 = .ok (.invokespecial 46, 3) := by decide +kernel
theorem dX4_load_46 : decode cX4_load 46 = .ok (.athrow, 1) := by decide +kernel
theorem dX4_load_47 : decode cX4_load 47 = .ok (.aload_n 0, 1) := by decide +kernel
theorem dX4_load_48 : decode cX4_load 48 = .ok (.getfield 10, 3) := by decide +kernel
theorem dX4_load_51 : decode cX4_load 51 = .ok (.iload_n 1, 1) := by decide +kernel
theorem dX4_load_52 : decode cX4_load 52 = .ok (.iload_n 2, 1) := by decide +kernel
theorem dX4_load_53 : decode cX4_load 53 = .ok (.invokevirtual 122, 3) := by decide +kernel
theorem dX4_load_56 : decode cX4_load 56 = .ok (.ireturn, 1) := by decide +kernel
set_option maxRecDepth 20000 in
theorem ggX4_sell_X4_needBarge : GoodIn wsX4_sell wsX4_needBarge := goodIn_ca (goodIn_r _ [8, 9, 10, 3, 45, 46, 47, 48, 49, 50, 51, 52, 53, 54, 55, 56, 57, 58, 59] (by decide +kernel) (by decide +kernel)) (goodIn_sub (fun _ h => List.mem_cons_of_mem _ (List.mem_append_right _ h)) (by decide +kernel))
set_option maxRecDepth 20000 in
theorem gX4_sell_X4_needBarge : GoodIn wsX4_sell (wsV RX4 110 RX4 yX4_needBarge wsX4_needBarge) := goodIn_app (goodIn_of _ (by decide +kernel)) ggX4_sell_X4_needBarge
set_option maxRecDepth 20000 in
theorem ggX4_sell_X4_landingAt : GoodIn wsX4_sell wsX4_landingAt := goodIn_r _ [13, 14] (by decide +kernel) (by decide +kernel)
set_option maxRecDepth 20000 in
theorem gX4_sell_X4_landingAt : GoodIn wsX4_sell (va_wsS RX4 125 yX4_landingAt wsX4_landingAt) := goodIn_app (goodIn_of _ (by decide +kernel)) ggX4_sell_X4_landingAt
set_option maxRecDepth 20000 in
theorem ggX4_sell_X3_sellAll : GoodIn wsX4_sell wsX3_sellAll := goodIn_r _ [19, 20, 21, 22, 23, 24, 25, 26, 27, 28, 29, 30, 31, 32, 33, 34, 35, 36, 37, 38, 39, 40, 41, 42, 43, 44, 47, 48, 49, 50, 51, 52, 53, 54, 55, 56, 57, 58, 59, 60] (by decide +kernel) (by decide +kernel)
set_option maxRecDepth 20000 in
theorem gX4_sell_X3_sellAll : GoodIn wsX4_sell (wsV RX4 130 RX3 yX3_sellAll wsX3_sellAll) := goodIn_app (goodIn_of _ (by decide +kernel)) ggX4_sell_X3_sellAll
theorem dX4_sell_0 : decode cX4_sell 0 = .ok (.aload_n 0, 1) := by decide +kernel
theorem dX4_sell_1 : decode cX4_sell 1 = .ok (.iload_n 1, 1) := by decide +kernel
theorem dX4_sell_2 : decode cX4_sell 2 = .ok (.invokevirtual 110, 3) := by decide +kernel
theorem dX4_sell_5 : decode cX4_sell 5 = .ok (.aload_n 0, 1) := by decide +kernel
theorem dX4_sell_6 : decode cX4_sell 6 = .ok (.getfield 10, 3) := by decide +kernel
theorem dX4_sell_9 : decode cX4_sell 9 = .ok (.getfield 99, 3) := by decide +kernel
theorem dX4_sell_12 : decode cX4_sell 12 = .ok (.getfield 116, 3) := by decide +kernel
theorem dX4_sell_15 : decode cX4_sell 15 = .ok (.iload_n 1, 1) := by decide +kernel
theorem dX4_sell_16 : decode cX4_sell 16 = .ok (.iaload, 1) := by decide +kernel
theorem dX4_sell_17 : decode cX4_sell 17 = .ok (.invokestatic 125, 3) := by decide +kernel
theorem dX4_sell_20 : decode cX4_sell 20 = .ok (.istore_n 2, 1) := by decide +kernel
theorem dX4_sell_21 : decode cX4_sell 21 = .ok (.iload_n 2, 1) := by decide +kernel
theorem dX4_sell_22 : decode cX4_sell 22 = .ok (.iconst (-1), 1) := by decide +kernel
theorem dX4_sell_23 : decode cX4_sell 23 = .ok (.if_icmp .ne 13, 3) := by decide +kernel
theorem dX4_sell_26 : decode cX4_sell 26 = .ok (.new 42, 3) := by decide +kernel
theorem dX4_sell_29 : decode cX4_sell 29 = .ok (.dup, 1) := by decide +kernel
theorem dX4_sell_30 : decode cX4_sell 30 = .ok (.ldc 128, 2) := by decide +kernel
theorem dX4_sell_32 : decode cX4_sell 32 = .ok (.invokespecial 46, 3) := by decide +kernel
theorem dX4_sell_35 : decode cX4_sell 35 = .ok (.athrow, 1) := by decide +kernel
theorem dX4_sell_36 : decode cX4_sell 36 = .ok (.aload_n 0, 1) := by decide +kernel
theorem dX4_sell_37 : decode cX4_sell 37 = .ok (.getfield 10, 3) := by decide +kernel
theorem dX4_sell_40 : decode cX4_sell 40 = .ok (.iload_n 1, 1) := by decide +kernel
theorem dX4_sell_41 : decode cX4_sell 41 = .ok (.iload_n 2, 1) := by decide +kernel
theorem dX4_sell_42 : decode cX4_sell 42 = .ok (.invokevirtual 130, 3) := by decide +kernel
theorem dX4_sell_45 : decode cX4_sell 45 = .ok (.ireturn, 1) := by decide +kernel
set_option maxRecDepth 20000 in
theorem ggX4_told_X4_needBarge : GoodIn wsX4_told wsX4_needBarge := goodIn_ca (goodIn_r _ [6, 7, 8, 1, 25, 26, 27, 28, 29, 30, 31, 32, 33, 34, 35, 36, 37, 38, 39] (by decide +kernel) (by decide +kernel)) (goodIn_sub (fun _ h => List.mem_cons_of_mem _ (List.mem_append_right _ h)) (by decide +kernel))
set_option maxRecDepth 20000 in
theorem gX4_told_X4_needBarge : GoodIn wsX4_told (wsV RX4 110 RX4 yX4_needBarge wsX4_needBarge) := goodIn_app (goodIn_of _ (by decide +kernel)) ggX4_told_X4_needBarge
set_option maxRecDepth 20000 in
theorem ggX4_told_X4_needFigure : GoodIn wsX4_told wsX4_needFigure := goodIn_ca (goodIn_r _ [11, 7, 8] (by decide +kernel) (by decide +kernel)) (goodIn_sub (fun _ h => List.mem_cons_of_mem _ (List.mem_append_right _ h)) (by decide +kernel))
set_option maxRecDepth 20000 in
theorem gX4_told_X4_needFigure : GoodIn wsX4_told (va_wsS RX4 82 yX4_needFigure wsX4_needFigure) := goodIn_app (goodIn_of _ (by decide +kernel)) ggX4_told_X4_needFigure
set_option maxRecDepth 20000 in
theorem ggX4_told_X0_tell : GoodIn wsX4_told wsX0_tell := goodIn_r _ [16, 17, 18, 19, 20, 21, 22, 5, 23, 24, 34, 35, 36, 37, 38, 39] (by decide +kernel) (by decide +kernel)
set_option maxRecDepth 20000 in
theorem gX4_told_X0_tell : GoodIn wsX4_told (wsV RX4 133 RX0 yX0_tell wsX0_tell) := goodIn_app (goodIn_of _ (by decide +kernel)) ggX4_told_X0_tell
theorem dX4_told_0 : decode cX4_told 0 = .ok (.aload_n 0, 1) := by decide +kernel
theorem dX4_told_1 : decode cX4_told 1 = .ok (.iload_n 1, 1) := by decide +kernel
theorem dX4_told_2 : decode cX4_told 2 = .ok (.invokevirtual 110, 3) := by decide +kernel
theorem dX4_told_5 : decode cX4_told 5 = .ok (.iload_n 2, 1) := by decide +kernel
theorem dX4_told_6 : decode cX4_told 6 = .ok (.bipush 6, 2) := by decide +kernel
theorem dX4_told_8 : decode cX4_told 8 = .ok (.invokestatic 82, 3) := by decide +kernel
theorem dX4_told_11 : decode cX4_told 11 = .ok (.aload_n 0, 1) := by decide +kernel
theorem dX4_told_12 : decode cX4_told 12 = .ok (.getfield 10, 3) := by decide +kernel
theorem dX4_told_15 : decode cX4_told 15 = .ok (.getfield 99, 3) := by decide +kernel
theorem dX4_told_18 : decode cX4_told 18 = .ok (.iload_n 1, 1) := by decide +kernel
theorem dX4_told_19 : decode cX4_told 19 = .ok (.iload_n 2, 1) := by decide +kernel
theorem dX4_told_20 : decode cX4_told 20 = .ok (.invokevirtual 133, 3) := by decide +kernel
theorem dX4_told_23 : decode cX4_told 23 = .ok (.ireturn, 1) := by decide +kernel
set_option maxRecDepth 20000 in
theorem ggX4_landing_X4_needLanding : GoodIn wsX4_landing wsX4_needLanding := goodIn_ca (goodIn_r _ [5, 6, 7] (by decide +kernel) (by decide +kernel)) (goodIn_sub (fun _ h => List.mem_cons_of_mem _ (List.mem_append_right _ h)) (by decide +kernel))
set_option maxRecDepth 20000 in
theorem gX4_landing_X4_needLanding : GoodIn wsX4_landing (va_wsS RX4 134 yX4_needLanding wsX4_needLanding) := goodIn_app (goodIn_of _ (by decide +kernel)) ggX4_landing_X4_needLanding
set_option maxRecDepth 20000 in
theorem ggX4_landing_X4_needFigure : GoodIn wsX4_landing wsX4_needFigure := goodIn_ca (goodIn_r _ [10, 6, 7] (by decide +kernel) (by decide +kernel)) (goodIn_sub (fun _ h => List.mem_cons_of_mem _ (List.mem_append_right _ h)) (by decide +kernel))
set_option maxRecDepth 20000 in
theorem gX4_landing_X4_needFigure : GoodIn wsX4_landing (va_wsS RX4 82 yX4_needFigure wsX4_needFigure) := goodIn_app (goodIn_of _ (by decide +kernel)) ggX4_landing_X4_needFigure
set_option maxRecDepth 20000 in
theorem ggX4_landing_X2_tell : GoodIn wsX4_landing wsX2_tell := goodIn_r _ [15, 16, 17, 18, 19, 14, 20, 21, 22, 23, 24, 25, 26, 27, 28, 38] (by decide +kernel) (by decide +kernel)
set_option maxRecDepth 20000 in
theorem gX4_landing_X2_tell : GoodIn wsX4_landing (wsV RX4 141 RX2 yX2_tell wsX2_tell) := goodIn_app (goodIn_of _ (by decide +kernel)) ggX4_landing_X2_tell
theorem dX4_landing_0 : decode cX4_landing 0 = .ok (.iload_n 1, 1) := by decide +kernel
theorem dX4_landing_1 : decode cX4_landing 1 = .ok (.invokestatic 134, 3) := by decide +kernel
theorem dX4_landing_4 : decode cX4_landing 4 = .ok (.iload_n 2, 1) := by decide +kernel
theorem dX4_landing_5 : decode cX4_landing 5 = .ok (.iconst 4, 1) := by decide +kernel
theorem dX4_landing_6 : decode cX4_landing 6 = .ok (.invokestatic 82, 3) := by decide +kernel
theorem dX4_landing_9 : decode cX4_landing 9 = .ok (.aload_n 0, 1) := by decide +kernel
theorem dX4_landing_10 : decode cX4_landing 10 = .ok (.getfield 10, 3) := by decide +kernel
theorem dX4_landing_13 : decode cX4_landing 13 = .ok (.getfield 137, 3) := by decide +kernel
theorem dX4_landing_16 : decode cX4_landing 16 = .ok (.iload_n 1, 1) := by decide +kernel
theorem dX4_landing_17 : decode cX4_landing 17 = .ok (.iload_n 2, 1) := by decide +kernel
theorem dX4_landing_18 : decode cX4_landing 18 = .ok (.invokevirtual 141, 3) := by decide +kernel
theorem dX4_landing_21 : decode cX4_landing 21 = .ok (.ireturn, 1) := by decide +kernel
set_option maxRecDepth 20000 in
theorem ggX4_would_X4_needBarge : GoodIn wsX4_would wsX4_needBarge := goodIn_ca (goodIn_r _ [8, 9, 10, 2, 128, 129, 130, 131, 132, 133, 134, 135, 136, 137, 138, 139, 140, 141, 142] (by decide +kernel) (by decide +kernel)) (goodIn_sub (fun _ h => List.mem_cons_of_mem _ (List.mem_append_right _ h)) (by decide +kernel))
set_option maxRecDepth 20000 in
theorem gX4_would_X4_needBarge : GoodIn wsX4_would (wsV RX4 110 RX4 yX4_needBarge wsX4_needBarge) := goodIn_app (goodIn_of _ (by decide +kernel)) ggX4_would_X4_needBarge
set_option maxRecDepth 20000 in
theorem ggX4_would_X4_needLanding : GoodIn wsX4_would wsX4_needLanding := goodIn_ca (goodIn_r _ [13, 9, 10] (by decide +kernel) (by decide +kernel)) (goodIn_sub (fun _ h => List.mem_cons_of_mem _ (List.mem_append_right _ h)) (by decide +kernel))
set_option maxRecDepth 20000 in
theorem gX4_would_X4_needLanding : GoodIn wsX4_would (va_wsS RX4 134 yX4_needLanding wsX4_needLanding) := goodIn_app (goodIn_of _ (by decide +kernel)) ggX4_would_X4_needLanding
set_option maxRecDepth 20000 in
theorem ggX4_would_X3_copyFrom : GoodIn wsX4_would wsX3_copyFrom := goodIn_r _ [18, 19, 20, 21, 22, 23, 24, 25, 26, 27, 28, 29, 30, 31, 32, 33, 34, 35, 36, 37, 38, 39, 40, 41, 42, 43, 44, 45, 46, 47, 48, 49, 50, 51, 52, 53, 54, 55, 56, 130, 131, 132, 133, 134, 135, 136, 143, 144, 145, 146, 147, 148, 149, 150, 151, 152, 137, 138, 139, 140, 141, 142, 153] (by decide +kernel) (by decide +kernel)
set_option maxRecDepth 20000 in
theorem gX4_would_X3_copyFrom : GoodIn wsX4_would (wsV RX4 144 RX3 yX3_copyFrom wsX3_copyFrom) := goodIn_app (goodIn_of _ (by decide +kernel)) ggX4_would_X3_copyFrom
set_option maxRecDepth 20000 in
theorem ggX4_would_X0_send : GoodIn wsX4_would wsX0_send := goodIn_r _ [60, 46, 61, 62, 63, 64, 47, 137, 138, 139, 140, 141, 142] (by decide +kernel) (by decide +kernel)
set_option maxRecDepth 20000 in
theorem gX4_would_X0_send : GoodIn wsX4_would (wsV RX4 113 RX0 yX0_send wsX0_send) := goodIn_app (goodIn_of _ (by decide +kernel)) ggX4_would_X0_send
set_option maxRecDepth 20000 in
theorem ggX4_would_X3_passDays : GoodIn wsX4_would wsX3_passDays := goodIn_r _ [68, 22, 69, 70, 71, 17, 72, 24, 23, 25, 19, 73, 74, 75, 43, 76, 45, 47, 46, 77, 78, 63, 79, 80, 81, 82, 83, 84, 85, 29, 86, 31, 36, 37, 87, 7, 88, 89, 90, 91, 54, 92, 56, 93, 94, 95, 96, 97, 98, 99, 34, 35, 100, 101, 102, 103, 104, 105, 106, 107, 108, 32, 109, 62, 64, 130, 131, 132, 133, 134, 135, 136, 137, 138, 139, 140, 141, 142, 143, 144, 145, 146, 147, 148, 149, 150, 151, 152, 153] (by decide +kernel) (by decide +kernel)
set_option maxRecDepth 20000 in
theorem gX4_would_X3_passDays : GoodIn wsX4_would (wsV RX4 150 RX3 yX3_passDays wsX3_passDays) := goodIn_app (goodIn_of _ (by decide +kernel)) ggX4_would_X3_passDays
set_option maxRecDepth 20000 in
theorem ggX4_would_X3_sellAll : GoodIn wsX4_would wsX3_sellAll := goodIn_r _ [113, 24, 25, 20, 114, 115, 116, 43, 117, 48, 49, 118, 119, 120, 54, 121, 56, 122, 81, 63, 82, 123, 124, 125, 126, 127, 130, 131, 132, 133, 134, 135, 136, 137, 138, 139, 140, 141, 142, 153] (by decide +kernel) (by decide +kernel)
set_option maxRecDepth 20000 in
theorem gX4_would_X3_sellAll : GoodIn wsX4_would (wsV RX4 130 RX3 yX3_sellAll wsX3_sellAll) := goodIn_app (goodIn_of _ (by decide +kernel)) ggX4_would_X3_sellAll
theorem dX4_would_0 : decode cX4_would 0 = .ok (.aload_n 0, 1) := by decide +kernel
theorem dX4_would_1 : decode cX4_would 1 = .ok (.iload_n 1, 1) := by decide +kernel
theorem dX4_would_2 : decode cX4_would 2 = .ok (.invokevirtual 110, 3) := by decide +kernel
theorem dX4_would_5 : decode cX4_would 5 = .ok (.iload_n 2, 1) := by decide +kernel
theorem dX4_would_6 : decode cX4_would 6 = .ok (.invokestatic 134, 3) := by decide +kernel
theorem dX4_would_9 : decode cX4_would 9 = .ok (.aload_n 0, 1) := by decide +kernel
theorem dX4_would_10 : decode cX4_would 10 = .ok (.getfield 16, 3) := by decide +kernel
theorem dX4_would_13 : decode cX4_would 13 = .ok (.aload_n 0, 1) := by decide +kernel
theorem dX4_would_14 : decode cX4_would 14 = .ok (.getfield 10, 3) := by decide +kernel
theorem dX4_would_17 : decode cX4_would 17 = .ok (.invokevirtual 144, 3) := by decide +kernel
theorem dX4_would_20 : decode cX4_would 20 = .ok (.aload_n 0, 1) := by decide +kernel
theorem dX4_would_21 : decode cX4_would 21 = .ok (.getfield 16, 3) := by decide +kernel
theorem dX4_would_24 : decode cX4_would 24 = .ok (.getfield 99, 3) := by decide +kernel
theorem dX4_would_27 : decode cX4_would 27 = .ok (.iload_n 1, 1) := by decide +kernel
theorem dX4_would_28 : decode cX4_would 28 = .ok (.getstatic 147, 3) := by decide +kernel
theorem dX4_would_31 : decode cX4_would 31 = .ok (.iload_n 2, 1) := by decide +kernel
theorem dX4_would_32 : decode cX4_would 32 = .ok (.iaload, 1) := by decide +kernel
theorem dX4_would_33 : decode cX4_would 33 = .ok (.invokevirtual 113, 3) := by decide +kernel
theorem dX4_would_36 : decode cX4_would 36 = .ok (.istore_n 3, 1) := by decide +kernel
theorem dX4_would_37 : decode cX4_would 37 = .ok (.aload_n 0, 1) := by decide +kernel
theorem dX4_would_38 : decode cX4_would 38 = .ok (.getfield 16, 3) := by decide +kernel
theorem dX4_would_41 : decode cX4_would 41 = .ok (.iload_n 3, 1) := by decide +kernel
theorem dX4_would_42 : decode cX4_would 42 = .ok (.invokevirtual 150, 3) := by decide +kernel
theorem dX4_would_45 : decode cX4_would 45 = .ok (.pop, 1) := by decide +kernel
theorem dX4_would_46 : decode cX4_would 46 = .ok (.aload_n 0, 1) := by decide +kernel
theorem dX4_would_47 : decode cX4_would 47 = .ok (.getfield 16, 3) := by decide +kernel
theorem dX4_would_50 : decode cX4_would 50 = .ok (.iload_n 1, 1) := by decide +kernel
theorem dX4_would_51 : decode cX4_would 51 = .ok (.iload_n 2, 1) := by decide +kernel
theorem dX4_would_52 : decode cX4_would 52 = .ok (.invokevirtual 130, 3) := by decide +kernel
theorem dX4_would_55 : decode cX4_would 55 = .ok (.ireturn, 1) := by decide +kernel
set_option maxRecDepth 20000 in
theorem ggX4_advise_X4_needBarge : GoodIn wsX4_advise wsX4_needBarge := goodIn_ca (goodIn_r _ [5, 6, 7, 8, 132, 133, 134, 135, 136, 137, 138, 139, 140, 141, 142, 143, 144, 145, 146] (by decide +kernel) (by decide +kernel)) (goodIn_sub (fun _ h => List.mem_cons_of_mem _ (List.mem_append_right _ h)) (by decide +kernel))
set_option maxRecDepth 20000 in
theorem gX4_advise_X4_needBarge : GoodIn wsX4_advise (wsV RX4 110 RX4 yX4_needBarge wsX4_needBarge) := goodIn_app (goodIn_of _ (by decide +kernel)) ggX4_advise_X4_needBarge
set_option maxRecDepth 20000 in
theorem ggX4_advise_X4_would : GoodIn wsX4_advise wsX4_would := goodIn_ca (goodIn_r _ [12, 13, 8, 14, 1, 2, 3, 4, 5, 6, 7, 15, 16, 17, 18, 19, 20, 21, 22, 23, 24, 25, 26, 27, 28, 29, 30, 31, 32, 33, 34, 35, 36, 37, 38, 39, 40, 41, 42, 43, 44, 45, 46, 47, 48, 49, 50, 51, 52, 53, 54, 55, 56, 57, 58, 59, 60, 61, 62, 63, 64, 65, 66, 67, 68, 69, 70, 71, 72, 73, 74, 75, 76, 77, 78, 79, 80, 81, 82, 83, 84, 85, 86, 87, 88, 89, 90, 91, 92, 93, 94, 95, 96, 97, 98, 99, 100, 101, 102, 103, 104, 105, 106, 107, 108, 109, 110, 111, 112, 113, 114, 115, 116, 117, 118, 119, 120, 121, 122, 123, 124, 125, 126, 127, 128, 129, 130, 131, 132, 133, 134, 135, 136, 137, 138, 139, 140, 141, 142, 143, 144, 145, 146, 147, 148, 149, 150, 151, 152, 153, 154, 155, 156, 157] (by decide +kernel) (by decide +kernel)) (goodIn_sub (fun _ h => List.mem_cons_of_mem _ (List.mem_append_right _ h)) (by decide +kernel))
set_option maxRecDepth 20000 in
theorem gX4_advise_X4_would : GoodIn wsX4_advise (wsV RX4 153 RX4 yX4_would wsX4_would) := goodIn_app (goodIn_of _ (by decide +kernel)) ggX4_advise_X4_would
theorem dX4_advise_0 : decode cX4_advise 0 = .ok (.aload_n 0, 1) := by decide +kernel
theorem dX4_advise_1 : decode cX4_advise 1 = .ok (.iload_n 1, 1) := by decide +kernel
theorem dX4_advise_2 : decode cX4_advise 2 = .ok (.invokevirtual 110, 3) := by decide +kernel
theorem dX4_advise_5 : decode cX4_advise 5 = .ok (.iconst 0, 1) := by decide +kernel
theorem dX4_advise_6 : decode cX4_advise 6 = .ok (.istore_n 2, 1) := by decide +kernel
theorem dX4_advise_7 : decode cX4_advise 7 = .ok (.aload_n 0, 1) := by decide +kernel
theorem dX4_advise_8 : decode cX4_advise 8 = .ok (.iload_n 1, 1) := by decide +kernel
theorem dX4_advise_9 : decode cX4_advise 9 = .ok (.iconst 0, 1) := by decide +kernel
theorem dX4_advise_10 : decode cX4_advise 10 = .ok (.invokevirtual 153, 3) := by decide +kernel
theorem dX4_advise_13 : decode cX4_advise 13 = .ok (.istore_n 3, 1) := by decide +kernel
theorem dX4_advise_14 : decode cX4_advise 14 = .ok (.iconst 1, 1) := by decide +kernel
theorem dX4_advise_15 : decode cX4_advise 15 = .ok (.istore 4, 2) := by decide +kernel
theorem dX4_advise_17 : decode cX4_advise 17 = .ok (.iload 4, 2) := by decide +kernel
theorem dX4_advise_19 : decode cX4_advise 19 = .ok (.iconst 3, 1) := by decide +kernel
theorem dX4_advise_20 : decode cX4_advise 20 = .ok (.if_icmp .ge 30, 3) := by decide +kernel
theorem dX4_advise_23 : decode cX4_advise 23 = .ok (.aload_n 0, 1) := by decide +kernel
theorem dX4_advise_24 : decode cX4_advise 24 = .ok (.iload_n 1, 1) := by decide +kernel
theorem dX4_advise_25 : decode cX4_advise 25 = .ok (.iload 4, 2) := by decide +kernel
theorem dX4_advise_27 : decode cX4_advise 27 = .ok (.invokevirtual 153, 3) := by decide +kernel
theorem dX4_advise_30 : decode cX4_advise 30 = .ok (.istore 5, 2) := by decide +kernel
theorem dX4_advise_32 : decode cX4_advise 32 = .ok (.iload 5, 2) := by decide +kernel
theorem dX4_advise_34 : decode cX4_advise 34 = .ok (.iload_n 3, 1) := by decide +kernel
theorem dX4_advise_35 : decode cX4_advise 35 = .ok (.if_icmp .le 9, 3) := by decide +kernel
theorem dX4_advise_38 : decode cX4_advise 38 = .ok (.iload 5, 2) := by decide +kernel
theorem dX4_advise_40 : decode cX4_advise 40 = .ok (.istore_n 3, 1) := by decide +kernel
theorem dX4_advise_41 : decode cX4_advise 41 = .ok (.iload 4, 2) := by decide +kernel
theorem dX4_advise_43 : decode cX4_advise 43 = .ok (.istore_n 2, 1) := by decide +kernel
theorem dX4_advise_44 : decode cX4_advise 44 = .ok (.iinc 4 1, 3) := by decide +kernel
theorem dX4_advise_47 : decode cX4_advise 47 = .ok (.goto (-30), 3) := by decide +kernel
theorem dX4_advise_50 : decode cX4_advise 50 = .ok (.iload_n 2, 1) := by decide +kernel
theorem dX4_advise_51 : decode cX4_advise 51 = .ok (.ireturn, 1) := by decide +kernel
set_option maxRecDepth 20000 in
theorem ggX4_count_X4_needFigure : GoodIn wsX4_count wsX4_needFigure := goodIn_ca (goodIn_r _ [5, 6, 7] (by decide +kernel) (by decide +kernel)) (goodIn_sub (fun _ h => List.mem_cons_of_mem _ (List.mem_append_right _ h)) (by decide +kernel))
set_option maxRecDepth 20000 in
theorem gX4_count_X4_needFigure : GoodIn wsX4_count (va_wsS RX4 82 yX4_needFigure wsX4_needFigure) := goodIn_app (goodIn_of _ (by decide +kernel)) ggX4_count_X4_needFigure
set_option maxRecDepth 20000 in
theorem ggX4_count_X3_tell : GoodIn wsX4_count wsX3_tell := goodIn_r _ [12, 13, 14, 15, 16, 17, 18, 19, 20, 21, 22, 23, 24, 25, 26, 27, 28, 29, 30, 31, 32, 33, 34, 35, 36, 37, 38, 39, 40, 41, 42, 43, 44, 45, 46, 47, 48, 49, 50, 51, 52, 53, 54, 55, 56, 57, 58, 59, 60, 61, 64, 65, 66, 67, 68, 69, 70, 71, 72, 73, 74, 75, 76, 77, 78, 79, 80, 81, 82, 83, 84, 85, 86, 87] (by decide +kernel) (by decide +kernel)
set_option maxRecDepth 20000 in
theorem gX4_count_X3_tell : GoodIn wsX4_count (wsV RX4 156 RX3 yX3_tell wsX3_tell) := goodIn_app (goodIn_of _ (by decide +kernel)) ggX4_count_X3_tell
theorem dX4_count_0 : decode cX4_count 0 = .ok (.iload_n 1, 1) := by decide +kernel
theorem dX4_count_1 : decode cX4_count 1 = .ok (.bipush 11, 2) := by decide +kernel
theorem dX4_count_3 : decode cX4_count 3 = .ok (.invokestatic 82, 3) := by decide +kernel
theorem dX4_count_6 : decode cX4_count 6 = .ok (.aload_n 0, 1) := by decide +kernel
theorem dX4_count_7 : decode cX4_count 7 = .ok (.getfield 10, 3) := by decide +kernel
theorem dX4_count_10 : decode cX4_count 10 = .ok (.iload_n 1, 1) := by decide +kernel
theorem dX4_count_11 : decode cX4_count 11 = .ok (.invokevirtual 156, 3) := by decide +kernel
theorem dX4_count_14 : decode cX4_count 14 = .ok (.ireturn, 1) := by decide +kernel
set_option maxRecDepth 20000 in
theorem ggX4_pass_X4_needDays : GoodIn wsX4_pass wsX4_needDays := goodIn_ca (goodIn_r _ [5, 6, 7] (by decide +kernel) (by decide +kernel)) (goodIn_sub (fun _ h => List.mem_cons_of_mem _ (List.mem_append_right _ h)) (by decide +kernel))
set_option maxRecDepth 20000 in
theorem gX4_pass_X4_needDays : GoodIn wsX4_pass (va_wsS RX4 158 yX4_needDays wsX4_needDays) := goodIn_app (goodIn_of _ (by decide +kernel)) ggX4_pass_X4_needDays
set_option maxRecDepth 20000 in
theorem ggX4_pass_X3_passDays : GoodIn wsX4_pass wsX3_passDays := goodIn_r _ [12, 13, 14, 15, 16, 11, 17, 18, 19, 20, 21, 22, 23, 24, 25, 26, 27, 28, 29, 30, 31, 32, 33, 34, 35, 36, 37, 38, 39, 40, 41, 42, 43, 44, 45, 4, 46, 47, 48, 49, 50, 51, 52, 53, 54, 55, 56, 57, 58, 59, 60, 61, 62, 63, 64, 65, 66, 67, 68, 69, 70, 71, 72, 73, 74, 77, 78, 79, 80, 81, 82, 83, 84, 85, 86, 87, 88, 89, 90, 91, 92, 93, 94, 95, 96, 97, 98, 99, 100] (by decide +kernel) (by decide +kernel)
set_option maxRecDepth 20000 in
theorem gX4_pass_X3_passDays : GoodIn wsX4_pass (wsV RX4 150 RX3 yX3_passDays wsX3_passDays) := goodIn_app (goodIn_of _ (by decide +kernel)) ggX4_pass_X3_passDays
theorem dX4_pass_0 : decode cX4_pass 0 = .ok (.iload_n 1, 1) := by decide +kernel
theorem dX4_pass_1 : decode cX4_pass 1 = .ok (.invokestatic 158, 3) := by decide +kernel
theorem dX4_pass_4 : decode cX4_pass 4 = .ok (.aload_n 0, 1) := by decide +kernel
theorem dX4_pass_5 : decode cX4_pass 5 = .ok (.getfield 10, 3) := by decide +kernel
theorem dX4_pass_8 : decode cX4_pass 8 = .ok (.iload_n 1, 1) := by decide +kernel
theorem dX4_pass_9 : decode cX4_pass 9 = .ok (.invokevirtual 150, 3) := by decide +kernel
theorem dX4_pass_12 : decode cX4_pass 12 = .ok (.ireturn, 1) := by decide +kernel
set_option maxRecDepth 20000 in
theorem ggX4_foresee_X4_needDays : GoodIn wsX4_foresee wsX4_needDays := goodIn_ca (goodIn_r _ [8, 9, 10] (by decide +kernel) (by decide +kernel)) (goodIn_sub (fun _ h => List.mem_cons_of_mem _ (List.mem_append_right _ h)) (by decide +kernel))
set_option maxRecDepth 20000 in
theorem gX4_foresee_X4_needDays : GoodIn wsX4_foresee (va_wsS RX4 158 yX4_needDays wsX4_needDays) := goodIn_app (goodIn_of _ (by decide +kernel)) ggX4_foresee_X4_needDays
set_option maxRecDepth 20000 in
theorem ggX4_foresee_X3_copyFrom : GoodIn wsX4_foresee wsX3_copyFrom := goodIn_r _ [15, 16, 17, 18, 19, 20, 21, 22, 23, 24, 25, 26, 27, 28, 29, 30, 31, 32, 33, 34, 35, 36, 37, 38, 39, 40, 41, 42, 43, 44, 45, 46, 47, 48, 49, 50, 51, 52, 53, 136, 137, 138, 139, 140, 141, 142, 143, 144, 145, 146, 147, 148, 149, 150, 151, 152, 153, 154, 155, 156, 157, 158, 159] (by decide +kernel) (by decide +kernel)
set_option maxRecDepth 20000 in
theorem gX4_foresee_X3_copyFrom : GoodIn wsX4_foresee (wsV RX4 144 RX3 yX3_copyFrom wsX3_copyFrom) := goodIn_app (goodIn_of _ (by decide +kernel)) ggX4_foresee_X3_copyFrom
set_option maxRecDepth 20000 in
theorem ggX4_foresee_X3_passDays : GoodIn wsX4_foresee wsX3_passDays := goodIn_r _ [57, 19, 58, 59, 60, 14, 61, 21, 20, 22, 16, 62, 63, 64, 40, 65, 42, 44, 43, 66, 67, 68, 69, 70, 71, 72, 73, 74, 75, 26, 76, 28, 33, 34, 77, 7, 78, 79, 80, 81, 51, 82, 53, 83, 84, 85, 86, 87, 88, 89, 31, 32, 90, 91, 92, 93, 94, 95, 96, 97, 98, 29, 99, 100, 101, 136, 137, 138, 139, 140, 141, 142, 153, 154, 155, 156, 157, 158, 143, 144, 145, 146, 147, 148, 149, 150, 151, 152, 159] (by decide +kernel) (by decide +kernel)
set_option maxRecDepth 20000 in
theorem gX4_foresee_X3_passDays : GoodIn wsX4_foresee (wsV RX4 150 RX3 yX3_passDays wsX3_passDays) := goodIn_app (goodIn_of _ (by decide +kernel)) ggX4_foresee_X3_passDays
set_option maxRecDepth 20000 in
theorem ggX4_foresee_X3_tell : GoodIn wsX4_foresee wsX3_tell := goodIn_r _ [105, 16, 17, 18, 20, 21, 22, 19, 106, 107, 108, 26, 109, 28, 110, 111, 112, 113, 31, 30, 114, 115, 116, 117, 33, 34, 118, 119, 120, 121, 35, 36, 122, 123, 124, 40, 125, 42, 126, 127, 128, 129, 45, 46, 130, 131, 132, 51, 133, 53, 136, 137, 138, 139, 140, 141, 142, 143, 144, 145, 146, 147, 148, 149, 150, 151, 152, 153, 154, 155, 156, 157, 158, 159] (by decide +kernel) (by decide +kernel)
set_option maxRecDepth 20000 in
theorem gX4_foresee_X3_tell : GoodIn wsX4_foresee (wsV RX4 156 RX3 yX3_tell wsX3_tell) := goodIn_app (goodIn_of _ (by decide +kernel)) ggX4_foresee_X3_tell
theorem dX4_foresee_0 : decode cX4_foresee 0 = .ok (.iload_n 1, 1) := by decide +kernel
theorem dX4_foresee_1 : decode cX4_foresee 1 = .ok (.invokestatic 158, 3) := by decide +kernel
theorem dX4_foresee_4 : decode cX4_foresee 4 = .ok (.iload_n 2, 1) := by decide +kernel
theorem dX4_foresee_5 : decode cX4_foresee 5 = .ok (.iconst 4, 1) := by decide +kernel
theorem dX4_foresee_6 : decode cX4_foresee 6 = .ok (.if_icmp .eq 30, 3) := by decide +kernel
theorem dX4_foresee_9 : decode cX4_foresee 9 = .ok (.iload_n 2, 1) := by decide +kernel
theorem dX4_foresee_10 : decode cX4_foresee 10 = .ok (.iconst 5, 1) := by decide +kernel
theorem dX4_foresee_11 : decode cX4_foresee 11 = .ok (.if_icmp .eq 25, 3) := by decide +kernel
theorem dX4_foresee_14 : decode cX4_foresee 14 = .ok (.iload_n 2, 1) := by decide +kernel
theorem dX4_foresee_15 : decode cX4_foresee 15 = .ok (.bipush 9, 2) := by decide +kernel
theorem dX4_foresee_17 : decode cX4_foresee 17 = .ok (.if_icmp .eq 19, 3) := by decide +kernel
theorem dX4_foresee_20 : decode cX4_foresee 20 = .ok (.iload_n 2, 1) := by decide +kernel
theorem dX4_foresee_21 : decode cX4_foresee 21 = .ok (.bipush 10, 2) := by decide +kernel
theorem dX4_foresee_23 : decode cX4_foresee 23 = .ok (.if_icmp .eq 13, 3) := by decide +kernel
theorem dX4_foresee_26 : decode cX4_foresee 26 = .ok (.new 161, 3) := by decide +kernel
theorem dX4_foresee_29 : decode cX4_foresee 29 = .ok (.dup, 1) := by decide +kernel
theorem dX4_foresee_30 : decode cX4_foresee 30 = .ok (.ldc 163, 2) := by decide +kernel
theorem dX4_foresee_32 : decode cX4_foresee 32 = .ok (.invokespecial 165, 3) := by decide +kernel
theorem dX4_foresee_35 : decode cX4_foresee 35 = .ok (.athrow, 1) := by decide +kernel
theorem dX4_foresee_36 : decode cX4_foresee 36 = .ok (.aload_n 0, 1) := by decide +kernel
theorem dX4_foresee_37 : decode cX4_foresee 37 = .ok (.getfield 16, 3) := by decide +kernel
theorem dX4_foresee_40 : decode cX4_foresee 40 = .ok (.aload_n 0, 1) := by decide +kernel
theorem dX4_foresee_41 : decode cX4_foresee 41 = .ok (.getfield 10, 3) := by decide +kernel
theorem dX4_foresee_44 : decode cX4_foresee 44 = .ok (.invokevirtual 144, 3) := by decide +kernel
theorem dX4_foresee_47 : decode cX4_foresee 47 = .ok (.aload_n 0, 1) := by decide +kernel
theorem dX4_foresee_48 : decode cX4_foresee 48 = .ok (.getfield 16, 3) := by decide +kernel
theorem dX4_foresee_51 : decode cX4_foresee 51 = .ok (.iload_n 1, 1) := by decide +kernel
theorem dX4_foresee_52 : decode cX4_foresee 52 = .ok (.invokevirtual 150, 3) := by decide +kernel
theorem dX4_foresee_55 : decode cX4_foresee 55 = .ok (.pop, 1) := by decide +kernel
theorem dX4_foresee_56 : decode cX4_foresee 56 = .ok (.aload_n 0, 1) := by decide +kernel
theorem dX4_foresee_57 : decode cX4_foresee 57 = .ok (.getfield 16, 3) := by decide +kernel
theorem dX4_foresee_60 : decode cX4_foresee 60 = .ok (.iload_n 2, 1) := by decide +kernel
theorem dX4_foresee_61 : decode cX4_foresee 61 = .ok (.invokevirtual 156, 3) := by decide +kernel
theorem dX4_foresee_64 : decode cX4_foresee 64 = .ok (.ireturn, 1) := by decide +kernel
set_option maxRecDepth 20000 in
theorem ggX4_mean_X1_sedgeOfAll : GoodIn wsX4_mean wsX1_sedgeOfAll := goodIn_r _ [6, 7, 8, 18, 19, 20, 21, 22, 23, 24, 25, 26, 27] (by decide +kernel) (by decide +kernel)
set_option maxRecDepth 20000 in
theorem gX4_mean_X1_sedgeOfAll : GoodIn wsX4_mean (wsV RX4 169 RX1 yX1_sedgeOfAll wsX1_sedgeOfAll) := goodIn_app (goodIn_of _ (by decide +kernel)) ggX4_mean_X1_sedgeOfAll
theorem dX4_mean_0 : decode cX4_mean 0 = .ok (.aload_n 0, 1) := by decide +kernel
theorem dX4_mean_1 : decode cX4_mean 1 = .ok (.getfield 10, 3) := by decide +kernel
theorem dX4_mean_4 : decode cX4_mean 4 = .ok (.getfield 32, 3) := by decide +kernel
theorem dX4_mean_7 : decode cX4_mean 7 = .ok (.getfield 166, 3) := by decide +kernel
theorem dX4_mean_10 : decode cX4_mean 10 = .ok (.ifCond .ne 5, 3) := by decide +kernel
theorem dX4_mean_13 : decode cX4_mean 13 = .ok (.dconst 0, 1) := by decide +kernel
theorem dX4_mean_14 : decode cX4_mean 14 = .ok (.dreturn, 1) := by decide +kernel
theorem dX4_mean_15 : decode cX4_mean 15 = .ok (.aload_n 0, 1) := by decide +kernel
theorem dX4_mean_16 : decode cX4_mean 16 = .ok (.getfield 10, 3) := by decide +kernel
theorem dX4_mean_19 : decode cX4_mean 19 = .ok (.getfield 32, 3) := by decide +kernel
theorem dX4_mean_22 : decode cX4_mean 22 = .ok (.invokevirtual 169, 3) := by decide +kernel
theorem dX4_mean_25 : decode cX4_mean 25 = .ok (.i2d, 1) := by decide +kernel
theorem dX4_mean_26 : decode cX4_mean 26 = .ok (.aload_n 0, 1) := by decide +kernel
theorem dX4_mean_27 : decode cX4_mean 27 = .ok (.getfield 10, 3) := by decide +kernel
theorem dX4_mean_30 : decode cX4_mean 30 = .ok (.getfield 32, 3) := by decide +kernel
theorem dX4_mean_33 : decode cX4_mean 33 = .ok (.getfield 166, 3) := by decide +kernel
theorem dX4_mean_36 : decode cX4_mean 36 = .ok (.i2d, 1) := by decide +kernel
theorem dX4_mean_37 : decode cX4_mean 37 = .ok (.ddiv, 1) := by decide +kernel
theorem dX4_mean_38 : decode cX4_mean 38 = .ok (.dreturn, 1) := by decide +kernel
set_option maxRecDepth 20000 in
theorem ggX4_digest_X3_tell : GoodIn wsX4_digest wsX3_tell := goodIn_r _ [8, 9, 10, 11, 12, 13, 14, 15, 16, 17, 18, 19, 20, 21, 22, 23, 24, 25, 26, 27, 28, 29, 30, 31, 32, 33, 34, 35, 36, 37, 38, 39, 40, 41, 42, 43, 44, 45, 46, 47, 48, 49, 50, 51, 52, 53, 54, 55, 56, 57, 97, 98, 99, 100, 101, 102, 103, 104, 105, 106, 107, 108, 109, 110, 111, 112, 113, 114, 115, 116, 117, 118, 119, 120] (by decide +kernel) (by decide +kernel)
set_option maxRecDepth 20000 in
theorem gX4_digest_X3_tell : GoodIn wsX4_digest (wsV RX4 156 RX3 yX3_tell wsX3_tell) := goodIn_app (goodIn_of _ (by decide +kernel)) ggX4_digest_X3_tell
set_option maxRecDepth 20000 in
theorem ggX4_digest_X1_tell : GoodIn wsX4_digest wsX1_tell := goodIn_r _ [61, 62, 27, 26, 63, 32, 33, 38, 39, 22, 23, 24, 19, 25, 64, 65, 66, 67, 104, 105, 106, 107, 108, 109, 110, 111, 112, 113] (by decide +kernel) (by decide +kernel)
set_option maxRecDepth 20000 in
theorem gX4_digest_X1_tell : GoodIn wsX4_digest (wsV RX4 86 RX1 yX1_tell wsX1_tell) := goodIn_app (goodIn_of _ (by decide +kernel)) ggX4_digest_X1_tell
set_option maxRecDepth 20000 in
theorem ggX4_digest_X0_tell : GoodIn wsX4_digest wsX0_tell := goodIn_r _ [71, 72, 73, 50, 51, 74, 75, 76, 77, 78, 114, 115, 116, 117, 118, 119] (by decide +kernel) (by decide +kernel)
set_option maxRecDepth 20000 in
theorem gX4_digest_X0_tell : GoodIn wsX4_digest (wsV RX4 133 RX0 yX0_tell wsX0_tell) := goodIn_app (goodIn_of _ (by decide +kernel)) ggX4_digest_X0_tell
set_option maxRecDepth 20000 in
theorem ggX4_digest_X2_tell : GoodIn wsX4_digest wsX2_tell := goodIn_r _ [82, 57, 83, 84, 85, 55, 86, 87, 88, 89, 90, 91, 92, 93, 94, 120] (by decide +kernel) (by decide +kernel)
set_option maxRecDepth 20000 in
theorem gX4_digest_X2_tell : GoodIn wsX4_digest (wsV RX4 141 RX2 yX2_tell wsX2_tell) := goodIn_app (goodIn_of _ (by decide +kernel)) ggX4_digest_X2_tell
theorem dX4_digest_0 : decode cX4_digest 0 = .ok (.ldc2_w 173, 3) := by decide +kernel
theorem dX4_digest_3 : decode cX4_digest 3 = .ok (.lstore_n 1, 1) := by decide +kernel
theorem dX4_digest_4 : decode cX4_digest 4 = .ok (.iconst 0, 1) := by decide +kernel
theorem dX4_digest_5 : decode cX4_digest 5 = .ok (.istore_n 3, 1) := by decide +kernel
theorem dX4_digest_6 : decode cX4_digest 6 = .ok (.iload_n 3, 1) := by decide +kernel
theorem dX4_digest_7 : decode cX4_digest 7 = .ok (.bipush 11, 2) := by decide +kernel
theorem dX4_digest_9 : decode cX4_digest 9 = .ok (.if_icmp .ge 25, 3) := by decide +kernel
theorem dX4_digest_12 : decode cX4_digest 12 = .ok (.lload_n 1, 1) := by decide +kernel
theorem dX4_digest_13 : decode cX4_digest 13 = .ok (.ldc2_w 175, 3) := by decide +kernel
theorem dX4_digest_16 : decode cX4_digest 16 = .ok (.lmul, 1) := by decide +kernel
theorem dX4_digest_17 : decode cX4_digest 17 = .ok (.aload_n 0, 1) := by decide +kernel
theorem dX4_digest_18 : decode cX4_digest 18 = .ok (.getfield 10, 3) := by decide +kernel
theorem dX4_digest_21 : decode cX4_digest 21 = .ok (.iload_n 3, 1) := by decide +kernel
theorem dX4_digest_22 : decode cX4_digest 22 = .ok (.invokevirtual 156, 3) := by decide +kernel
theorem dX4_digest_25 : decode cX4_digest 25 = .ok (.i2l, 1) := by decide +kernel
theorem dX4_digest_26 : decode cX4_digest 26 = .ok (.ladd, 1) := by decide +kernel
theorem dX4_digest_27 : decode cX4_digest 27 = .ok (.lstore_n 1, 1) := by decide +kernel
theorem dX4_digest_28 : decode cX4_digest 28 = .ok (.iinc 3 1, 3) := by decide +kernel
theorem dX4_digest_31 : decode cX4_digest 31 = .ok (.goto (-25), 3) := by decide +kernel
theorem dX4_digest_34 : decode cX4_digest 34 = .ok (.iconst 0, 1) := by decide +kernel
theorem dX4_digest_35 : decode cX4_digest 35 = .ok (.istore_n 3, 1) := by decide +kernel
theorem dX4_digest_36 : decode cX4_digest 36 = .ok (.iload_n 3, 1) := by decide +kernel
theorem dX4_digest_37 : decode cX4_digest 37 = .ok (.aload_n 0, 1) := by decide +kernel
theorem dX4_digest_38 : decode cX4_digest 38 = .ok (.getfield 10, 3) := by decide +kernel
theorem dX4_digest_41 : decode cX4_digest 41 = .ok (.getfield 32, 3) := by decide +kernel
theorem dX4_digest_44 : decode cX4_digest 44 = .ok (.getfield 166, 3) := by decide +kernel
theorem dX4_digest_47 : decode cX4_digest 47 = .ok (.if_icmp .ge 46, 3) := by decide +kernel
theorem dX4_digest_50 : decode cX4_digest 50 = .ok (.iconst 0, 1) := by decide +kernel
theorem dX4_digest_51 : decode cX4_digest 51 = .ok (.istore 4, 2) := by decide +kernel
theorem dX4_digest_53 : decode cX4_digest 53 = .ok (.iload 4, 2) := by decide +kernel
theorem dX4_digest_55 : decode cX4_digest 55 = .ok (.bipush 10, 2) := by decide +kernel
theorem dX4_digest_57 : decode cX4_digest 57 = .ok (.if_icmp .ge 30, 3) := by decide +kernel
theorem dX4_digest_60 : decode cX4_digest 60 = .ok (.lload_n 1, 1) := by decide +kernel
theorem dX4_digest_61 : decode cX4_digest 61 = .ok (.ldc2_w 175, 3) := by decide +kernel
theorem dX4_digest_64 : decode cX4_digest 64 = .ok (.lmul, 1) := by decide +kernel
theorem dX4_digest_65 : decode cX4_digest 65 = .ok (.aload_n 0, 1) := by decide +kernel
theorem dX4_digest_66 : decode cX4_digest 66 = .ok (.getfield 10, 3) := by decide +kernel
theorem dX4_digest_69 : decode cX4_digest 69 = .ok (.getfield 32, 3) := by decide +kernel
theorem dX4_digest_72 : decode cX4_digest 72 = .ok (.iload_n 3, 1) := by decide +kernel
theorem dX4_digest_73 : decode cX4_digest 73 = .ok (.iload 4, 2) := by decide +kernel
theorem dX4_digest_75 : decode cX4_digest 75 = .ok (.invokevirtual 86, 3) := by decide +kernel
theorem dX4_digest_78 : decode cX4_digest 78 = .ok (.i2l, 1) := by decide +kernel
theorem dX4_digest_79 : decode cX4_digest 79 = .ok (.ladd, 1) := by decide +kernel
theorem dX4_digest_80 : decode cX4_digest 80 = .ok (.lstore_n 1, 1) := by decide +kernel
theorem dX4_digest_81 : decode cX4_digest 81 = .ok (.iinc 4 1, 3) := by decide +kernel
theorem dX4_digest_84 : decode cX4_digest 84 = .ok (.goto (-31), 3) := by decide +kernel
theorem dX4_digest_87 : decode cX4_digest 87 = .ok (.iinc 3 1, 3) := by decide +kernel
theorem dX4_digest_90 : decode cX4_digest 90 = .ok (.goto (-54), 3) := by decide +kernel
theorem dX4_digest_93 : decode cX4_digest 93 = .ok (.iconst 0, 1) := by decide +kernel
theorem dX4_digest_94 : decode cX4_digest 94 = .ok (.istore_n 3, 1) := by decide +kernel
theorem dX4_digest_95 : decode cX4_digest 95 = .ok (.iload_n 3, 1) := by decide +kernel
theorem dX4_digest_96 : decode cX4_digest 96 = .ok (.aload_n 0, 1) := by decide +kernel
theorem dX4_digest_97 : decode cX4_digest 97 = .ok (.getfield 10, 3) := by decide +kernel
theorem dX4_digest_100 : decode cX4_digest 100 = .ok (.getfield 99, 3) := by decide +kernel
theorem dX4_digest_103 : decode cX4_digest 103 = .ok (.getfield 177, 3) := by decide +kernel
theorem dX4_digest_106 : decode cX4_digest 106 = .ok (.if_icmp .ge 46, 3) := by decide +kernel
theorem dX4_digest_109 : decode cX4_digest 109 = .ok (.iconst 0, 1) := by decide +kernel
theorem dX4_digest_110 : decode cX4_digest 110 = .ok (.istore 4, 2) := by decide +kernel
theorem dX4_digest_112 : decode cX4_digest 112 = .ok (.iload 4, 2) := by decide +kernel
theorem dX4_digest_114 : decode cX4_digest 114 = .ok (.bipush 6, 2) := by decide +kernel
theorem dX4_digest_116 : decode cX4_digest 116 = .ok (.if_icmp .ge 30, 3) := by decide +kernel
theorem dX4_digest_119 : decode cX4_digest 119 = .ok (.lload_n 1, 1) := by decide +kernel
theorem dX4_digest_120 : decode cX4_digest 120 = .ok (.ldc2_w 175, 3) := by decide +kernel
theorem dX4_digest_123 : decode cX4_digest 123 = .ok (.lmul, 1) := by decide +kernel
theorem dX4_digest_124 : decode cX4_digest 124 = .ok (.aload_n 0, 1) := by decide +kernel
theorem dX4_digest_125 : decode cX4_digest 125 = .ok (.getfield 10, 3) := by decide +kernel
theorem dX4_digest_128 : decode cX4_digest 128 = .ok (.getfield 99, 3) := by decide +kernel
theorem dX4_digest_131 : decode cX4_digest 131 = .ok (.iload_n 3, 1) := by decide +kernel
theorem dX4_digest_132 : decode cX4_digest 132 = .ok (.iload 4, 2) := by decide +kernel
theorem dX4_digest_134 : decode cX4_digest 134 = .ok (.invokevirtual 133, 3) := by decide +kernel
theorem dX4_digest_137 : decode cX4_digest 137 = .ok (.i2l, 1) := by decide +kernel
theorem dX4_digest_138 : decode cX4_digest 138 = .ok (.ladd, 1) := by decide +kernel
theorem dX4_digest_139 : decode cX4_digest 139 = .ok (.lstore_n 1, 1) := by decide +kernel
theorem dX4_digest_140 : decode cX4_digest 140 = .ok (.iinc 4 1, 3) := by decide +kernel
theorem dX4_digest_143 : decode cX4_digest 143 = .ok (.goto (-31), 3) := by decide +kernel
theorem dX4_digest_146 : decode cX4_digest 146 = .ok (.iinc 3 1, 3) := by decide +kernel
theorem dX4_digest_149 : decode cX4_digest 149 = .ok (.goto (-54), 3) := by decide +kernel
theorem dX4_digest_152 : decode cX4_digest 152 = .ok (.iconst 0, 1) := by decide +kernel
theorem dX4_digest_153 : decode cX4_digest 153 = .ok (.istore_n 3, 1) := by decide +kernel
theorem dX4_digest_154 : decode cX4_digest 154 = .ok (.iload_n 3, 1) := by decide +kernel
theorem dX4_digest_155 : decode cX4_digest 155 = .ok (.iconst 3, 1) := by decide +kernel
theorem dX4_digest_156 : decode cX4_digest 156 = .ok (.if_icmp .ge 45, 3) := by decide +kernel
theorem dX4_digest_159 : decode cX4_digest 159 = .ok (.iconst 0, 1) := by decide +kernel
theorem dX4_digest_160 : decode cX4_digest 160 = .ok (.istore 4, 2) := by decide +kernel
theorem dX4_digest_162 : decode cX4_digest 162 = .ok (.iload 4, 2) := by decide +kernel
theorem dX4_digest_164 : decode cX4_digest 164 = .ok (.iconst 4, 1) := by decide +kernel
theorem dX4_digest_165 : decode cX4_digest 165 = .ok (.if_icmp .ge 30, 3) := by decide +kernel
theorem dX4_digest_168 : decode cX4_digest 168 = .ok (.lload_n 1, 1) := by decide +kernel
theorem dX4_digest_169 : decode cX4_digest 169 = .ok (.ldc2_w 175, 3) := by decide +kernel
theorem dX4_digest_172 : decode cX4_digest 172 = .ok (.lmul, 1) := by decide +kernel
theorem dX4_digest_173 : decode cX4_digest 173 = .ok (.aload_n 0, 1) := by decide +kernel
theorem dX4_digest_174 : decode cX4_digest 174 = .ok (.getfield 10, 3) := by decide +kernel
theorem dX4_digest_177 : decode cX4_digest 177 = .ok (.getfield 137, 3) := by decide +kernel
theorem dX4_digest_180 : decode cX4_digest 180 = .ok (.iload_n 3, 1) := by decide +kernel
theorem dX4_digest_181 : decode cX4_digest 181 = .ok (.iload 4, 2) := by decide +kernel
theorem dX4_digest_183 : decode cX4_digest 183 = .ok (.invokevirtual 141, 3) := by decide +kernel
theorem dX4_digest_186 : decode cX4_digest 186 = .ok (.i2l, 1) := by decide +kernel
theorem dX4_digest_187 : decode cX4_digest 187 = .ok (.ladd, 1) := by decide +kernel
theorem dX4_digest_188 : decode cX4_digest 188 = .ok (.lstore_n 1, 1) := by decide +kernel
theorem dX4_digest_189 : decode cX4_digest 189 = .ok (.iinc 4 1, 3) := by decide +kernel
theorem dX4_digest_192 : decode cX4_digest 192 = .ok (.goto (-30), 3) := by decide +kernel
theorem dX4_digest_195 : decode cX4_digest 195 = .ok (.iinc 3 1, 3) := by decide +kernel
theorem dX4_digest_198 : decode cX4_digest 198 = .ok (.goto (-44), 3) := by decide +kernel
theorem dX4_digest_201 : decode cX4_digest 201 = .ok (.lload_n 1, 1) := by decide +kernel
theorem dX4_digest_202 : decode cX4_digest 202 = .ok (.lreturn, 1) := by decide +kernel
theorem dX4_needBed_0 : decode cX4_needBed 0 = .ok (.iload_n 1, 1) := by decide +kernel
theorem dX4_needBed_1 : decode cX4_needBed 1 = .ok (.ifCond .lt 17, 3) := by decide +kernel
theorem dX4_needBed_4 : decode cX4_needBed 4 = .ok (.iload_n 1, 1) := by decide +kernel
theorem dX4_needBed_5 : decode cX4_needBed 5 = .ok (.aload_n 0, 1) := by decide +kernel
theorem dX4_needBed_6 : decode cX4_needBed 6 = .ok (.getfield 10, 3) := by decide +kernel
theorem dX4_needBed_9 : decode cX4_needBed 9 = .ok (.getfield 32, 3) := by decide +kernel
theorem dX4_needBed_12 : decode cX4_needBed 12 = .ok (.getfield 166, 3) := by decide +kernel
theorem dX4_needBed_15 : decode cX4_needBed 15 = .ok (.if_icmp .lt 13, 3) := by decide +kernel
theorem dX4_needBed_18 : decode cX4_needBed 18 = .ok (.new 161, 3) := by decide +kernel
theorem dX4_needBed_21 : decode cX4_needBed 21 = .ok (.dup, 1) := by decide +kernel
theorem dX4_needBed_22 : decode cX4_needBed 22 = .ok (.ldc 178, 2) := by decide +kernel
theorem dX4_needBed_24 : decode cX4_needBed 24 = .ok (.invokespecial 165, 3) := by decide +kernel
theorem dX4_needBed_27 : decode cX4_needBed 27 = .ok (.athrow, 1) := by decide +kernel
theorem dX4_needBed_28 : decode cX4_needBed 28 = .ok (.return_, 1) := by decide +kernel
theorem dX4_needBarge_0 : decode cX4_needBarge 0 = .ok (.iload_n 1, 1) := by decide +kernel
theorem dX4_needBarge_1 : decode cX4_needBarge 1 = .ok (.ifCond .lt 17, 3) := by decide +kernel
theorem dX4_needBarge_4 : decode cX4_needBarge 4 = .ok (.iload_n 1, 1) := by decide +kernel
theorem dX4_needBarge_5 : decode cX4_needBarge 5 = .ok (.aload_n 0, 1) := by decide +kernel
theorem dX4_needBarge_6 : decode cX4_needBarge 6 = .ok (.getfield 10, 3) := by decide +kernel
theorem dX4_needBarge_9 : decode cX4_needBarge 9 = .ok (.getfield 99, 3) := by decide +kernel
theorem dX4_needBarge_12 : decode cX4_needBarge 12 = .ok (.getfield 177, 3) := by decide +kernel
theorem dX4_needBarge_15 : decode cX4_needBarge 15 = .ok (.if_icmp .lt 13, 3) := by decide +kernel
theorem dX4_needBarge_18 : decode cX4_needBarge 18 = .ok (.new 161, 3) := by decide +kernel
theorem dX4_needBarge_21 : decode cX4_needBarge 21 = .ok (.dup, 1) := by decide +kernel
theorem dX4_needBarge_22 : decode cX4_needBarge 22 = .ok (.ldc 180, 2) := by decide +kernel
theorem dX4_needBarge_24 : decode cX4_needBarge 24 = .ok (.invokespecial 165, 3) := by decide +kernel
theorem dX4_needBarge_27 : decode cX4_needBarge 27 = .ok (.athrow, 1) := by decide +kernel
theorem dX4_needBarge_28 : decode cX4_needBarge 28 = .ok (.return_, 1) := by decide +kernel
theorem dX4_needLanding_0 : decode cX4_needLanding 0 = .ok (.iload_n 0, 1) := by decide +kernel
theorem dX4_needLanding_1 : decode cX4_needLanding 1 = .ok (.ifCond .lt 8, 3) := by decide +kernel
theorem dX4_needLanding_4 : decode cX4_needLanding 4 = .ok (.iload_n 0, 1) := by decide +kernel
theorem dX4_needLanding_5 : decode cX4_needLanding 5 = .ok (.iconst 3, 1) := by decide +kernel
theorem dX4_needLanding_6 : decode cX4_needLanding 6 = .ok (.if_icmp .lt 13, 3) := by decide +kernel
theorem dX4_needLanding_9 : decode cX4_needLanding 9 = .ok (.new 161, 3) := by decide +kernel
theorem dX4_needLanding_12 : decode cX4_needLanding 12 = .ok (.dup, 1) := by decide +kernel
theorem dX4_needLanding_13 : decode cX4_needLanding 13 = .ok (.ldc 182, 2) := by decide +kernel
theorem dX4_needLanding_15 : decode cX4_needLanding 15 = .ok (.invokespecial 165, 3) := by decide +kernel
theorem dX4_needLanding_18 : decode cX4_needLanding 18 = .ok (.athrow, 1) := by decide +kernel
theorem dX4_needLanding_19 : decode cX4_needLanding 19 = .ok (.return_, 1) := by decide +kernel
theorem dX4_needPlace_0 : decode cX4_needPlace 0 = .ok (.iload_n 0, 1) := by decide +kernel
theorem dX4_needPlace_1 : decode cX4_needPlace 1 = .ok (.ifCond .lt 9, 3) := by decide +kernel
theorem dX4_needPlace_4 : decode cX4_needPlace 4 = .ok (.iload_n 0, 1) := by decide +kernel
theorem dX4_needPlace_5 : decode cX4_needPlace 5 = .ok (.bipush 30, 2) := by decide +kernel
theorem dX4_needPlace_7 : decode cX4_needPlace 7 = .ok (.if_icmp .le 13, 3) := by decide +kernel
theorem dX4_needPlace_10 : decode cX4_needPlace 10 = .ok (.new 161, 3) := by decide +kernel
theorem dX4_needPlace_13 : decode cX4_needPlace 13 = .ok (.dup, 1) := by decide +kernel
theorem dX4_needPlace_14 : decode cX4_needPlace 14 = .ok (.ldc 184, 2) := by decide +kernel
theorem dX4_needPlace_16 : decode cX4_needPlace 16 = .ok (.invokespecial 165, 3) := by decide +kernel
theorem dX4_needPlace_19 : decode cX4_needPlace 19 = .ok (.athrow, 1) := by decide +kernel
theorem dX4_needPlace_20 : decode cX4_needPlace 20 = .ok (.return_, 1) := by decide +kernel
theorem dX4_needFigure_0 : decode cX4_needFigure 0 = .ok (.iload_n 0, 1) := by decide +kernel
theorem dX4_needFigure_1 : decode cX4_needFigure 1 = .ok (.ifCond .lt 8, 3) := by decide +kernel
theorem dX4_needFigure_4 : decode cX4_needFigure 4 = .ok (.iload_n 0, 1) := by decide +kernel
theorem dX4_needFigure_5 : decode cX4_needFigure 5 = .ok (.iload_n 1, 1) := by decide +kernel
theorem dX4_needFigure_6 : decode cX4_needFigure 6 = .ok (.if_icmp .lt 13, 3) := by decide +kernel
theorem dX4_needFigure_9 : decode cX4_needFigure 9 = .ok (.new 161, 3) := by decide +kernel
theorem dX4_needFigure_12 : decode cX4_needFigure 12 = .ok (.dup, 1) := by decide +kernel
theorem dX4_needFigure_13 : decode cX4_needFigure 13 = .ok (.ldc 186, 2) := by decide +kernel
theorem dX4_needFigure_15 : decode cX4_needFigure 15 = .ok (.invokespecial 165, 3) := by decide +kernel
theorem dX4_needFigure_18 : decode cX4_needFigure 18 = .ok (.athrow, 1) := by decide +kernel
theorem dX4_needFigure_19 : decode cX4_needFigure 19 = .ok (.return_, 1) := by decide +kernel
theorem dX4_needDays_0 : decode cX4_needDays 0 = .ok (.iload_n 0, 1) := by decide +kernel
theorem dX4_needDays_1 : decode cX4_needDays 1 = .ok (.iconst 1, 1) := by decide +kernel
theorem dX4_needDays_2 : decode cX4_needDays 2 = .ok (.if_icmp .lt 10, 3) := by decide +kernel
theorem dX4_needDays_5 : decode cX4_needDays 5 = .ok (.iload_n 0, 1) := by decide +kernel
theorem dX4_needDays_6 : decode cX4_needDays 6 = .ok (.sipush 200, 3) := by decide +kernel
theorem dX4_needDays_9 : decode cX4_needDays 9 = .ok (.if_icmp .le 13, 3) := by decide +kernel
theorem dX4_needDays_12 : decode cX4_needDays 12 = .ok (.new 23, 3) := by decide +kernel
theorem dX4_needDays_15 : decode cX4_needDays 15 = .ok (.dup, 1) := by decide +kernel
theorem dX4_needDays_16 : decode cX4_needDays 16 = .ok (.ldc 188, 2) := by decide +kernel
theorem dX4_needDays_18 : decode cX4_needDays 18 = .ok (.invokespecial 27, 3) := by decide +kernel
theorem dX4_needDays_21 : decode cX4_needDays 21 = .ok (.athrow, 1) := by decide +kernel
theorem dX4_needDays_22 : decode cX4_needDays 22 = .ok (.return_, 1) := by decide +kernel
theorem dX4_tenthRoundedUp_0 : decode cX4_tenthRoundedUp 0 = .ok (.iload_n 0, 1) := by decide +kernel
theorem dX4_tenthRoundedUp_1 : decode cX4_tenthRoundedUp 1 = .ok (.bipush 9, 2) := by decide +kernel
theorem dX4_tenthRoundedUp_3 : decode cX4_tenthRoundedUp 3 = .ok (.iadd, 1) := by decide +kernel
theorem dX4_tenthRoundedUp_4 : decode cX4_tenthRoundedUp 4 = .ok (.bipush 10, 2) := by decide +kernel
theorem dX4_tenthRoundedUp_6 : decode cX4_tenthRoundedUp 6 = .ok (.idiv, 1) := by decide +kernel
theorem dX4_tenthRoundedUp_7 : decode cX4_tenthRoundedUp 7 = .ok (.ireturn, 1) := by decide +kernel
theorem dX4_twentiethRoundedUp_0 : decode cX4_twentiethRoundedUp 0 = .ok (.iload_n 0, 1) := by decide +kernel
theorem dX4_twentiethRoundedUp_1 : decode cX4_twentiethRoundedUp 1 = .ok (.bipush 19, 2) := by decide +kernel
theorem dX4_twentiethRoundedUp_3 : decode cX4_twentiethRoundedUp 3 = .ok (.iadd, 1) := by decide +kernel
theorem dX4_twentiethRoundedUp_4 : decode cX4_twentiethRoundedUp 4 = .ok (.bipush 20, 2) := by decide +kernel
theorem dX4_twentiethRoundedUp_6 : decode cX4_twentiethRoundedUp 6 = .ok (.idiv, 1) := by decide +kernel
theorem dX4_twentiethRoundedUp_7 : decode cX4_twentiethRoundedUp 7 = .ok (.ireturn, 1) := by decide +kernel
theorem dX4_landingAt_0 : decode cX4_landingAt 0 = .ok (.iconst 0, 1) := by decide +kernel
theorem dX4_landingAt_1 : decode cX4_landingAt 1 = .ok (.istore_n 1, 1) := by decide +kernel
theorem dX4_landingAt_2 : decode cX4_landingAt 2 = .ok (.iload_n 1, 1) := by decide +kernel
theorem dX4_landingAt_3 : decode cX4_landingAt 3 = .ok (.iconst 3, 1) := by decide +kernel
theorem dX4_landingAt_4 : decode cX4_landingAt 4 = .ok (.if_icmp .ge 20, 3) := by decide +kernel
theorem dX4_landingAt_7 : decode cX4_landingAt 7 = .ok (.getstatic 147, 3) := by decide +kernel
theorem dX4_landingAt_10 : decode cX4_landingAt 10 = .ok (.iload_n 1, 1) := by decide +kernel
theorem dX4_landingAt_11 : decode cX4_landingAt 11 = .ok (.iaload, 1) := by decide +kernel
theorem dX4_landingAt_12 : decode cX4_landingAt 12 = .ok (.iload_n 0, 1) := by decide +kernel
theorem dX4_landingAt_13 : decode cX4_landingAt 13 = .ok (.if_icmp .ne 5, 3) := by decide +kernel
theorem dX4_landingAt_16 : decode cX4_landingAt 16 = .ok (.iload_n 1, 1) := by decide +kernel
theorem dX4_landingAt_17 : decode cX4_landingAt 17 = .ok (.ireturn, 1) := by decide +kernel
theorem dX4_landingAt_18 : decode cX4_landingAt 18 = .ok (.iinc 1 1, 3) := by decide +kernel
theorem dX4_landingAt_21 : decode cX4_landingAt 21 = .ok (.goto (-19), 3) := by decide +kernel
theorem dX4_landingAt_24 : decode cX4_landingAt 24 = .ok (.iconst (-1), 1) := by decide +kernel
theorem dX4_landingAt_25 : decode cX4_landingAt 25 = .ok (.ireturn, 1) := by decide +kernel
end
section
theorem dJ9_abs_0f7a4_0 : decode cJ9_abs_0f7a4 0 = .ok (.iload_n 0, 1) := by decide +kernel
theorem dJ9_abs_0f7a4_1 : decode cJ9_abs_0f7a4 1 = .ok (.ifCond .ge 8, 3) := by decide +kernel
theorem dJ9_abs_0f7a4_4 : decode cJ9_abs_0f7a4 4 = .ok (.iload_n 0, 1) := by decide +kernel
theorem dJ9_abs_0f7a4_5 : decode cJ9_abs_0f7a4 5 = .ok (.ineg, 1) := by decide +kernel
theorem dJ9_abs_0f7a4_6 : decode cJ9_abs_0f7a4 6 = .ok (.goto 4, 3) := by decide +kernel
theorem dJ9_abs_0f7a4_9 : decode cJ9_abs_0f7a4 9 = .ok (.iload_n 0, 1) := by decide +kernel
theorem dJ9_abs_0f7a4_10 : decode cJ9_abs_0f7a4 10 = .ok (.ireturn, 1) := by decide +kernel
theorem dJ9_max_7cf53_0 : decode cJ9_max_7cf53 0 = .ok (.iload_n 0, 1) := by decide +kernel
theorem dJ9_max_7cf53_1 : decode cJ9_max_7cf53 1 = .ok (.iload_n 1, 1) := by decide +kernel
theorem dJ9_max_7cf53_2 : decode cJ9_max_7cf53 2 = .ok (.if_icmp .lt 7, 3) := by decide +kernel
theorem dJ9_max_7cf53_5 : decode cJ9_max_7cf53 5 = .ok (.iload_n 0, 1) := by decide +kernel
theorem dJ9_max_7cf53_6 : decode cJ9_max_7cf53 6 = .ok (.goto 4, 3) := by decide +kernel
theorem dJ9_max_7cf53_9 : decode cJ9_max_7cf53 9 = .ok (.iload_n 1, 1) := by decide +kernel
theorem dJ9_max_7cf53_10 : decode cJ9_max_7cf53 10 = .ok (.ireturn, 1) := by decide +kernel
theorem dJ9_min_7cf53_0 : decode cJ9_min_7cf53 0 = .ok (.iload_n 0, 1) := by decide +kernel
theorem dJ9_min_7cf53_1 : decode cJ9_min_7cf53 1 = .ok (.iload_n 1, 1) := by decide +kernel
theorem dJ9_min_7cf53_2 : decode cJ9_min_7cf53 2 = .ok (.if_icmp .gt 7, 3) := by decide +kernel
theorem dJ9_min_7cf53_5 : decode cJ9_min_7cf53 5 = .ok (.iload_n 0, 1) := by decide +kernel
theorem dJ9_min_7cf53_6 : decode cJ9_min_7cf53 6 = .ok (.goto 4, 3) := by decide +kernel
theorem dJ9_min_7cf53_9 : decode cJ9_min_7cf53 9 = .ok (.iload_n 1, 1) := by decide +kernel
theorem dJ9_min_7cf53_10 : decode cJ9_min_7cf53 10 = .ok (.ireturn, 1) := by decide +kernel
end
section
/-! 02: the environment of every call, the contracts' forms, the call rules -/
abbrev I_ (cA : ClassId) (n : Nat) (f : Nat → Int32) : va_E := .inl (cA, (n, .inl f))
def growF (j : Nat) : Int32 := match j with
  | 1 => 1
  | 2 => 2
  | 3 => 4
  | 4 => 6
  | 5 => 6
  | 6 => 5
  | 7 => 4
  | 8 => 3
  | 9 => 2
  | _ => 0
def plF (j : Nat) : Int32 := match j with
  | 0 => 2
  | 1 => 15
  | _ => 28
def woF (j : Nat) : Int32 := match j with
  | 0 => 12
  | 1 => 9
  | _ => 14
/-- a table of whole numbers in a static field -/
def Tab (C n : String) (N : Nat) (f : Nat → Int32) (t : Nat) (A : Nat → Prop) (U : State) (H : Heap) : Prop := va_Z C n "[I" (.ref t) A U H ∧ va_T .int t N (fun j => .int (f j)) A U H
theorem Tab.go {C n : String} {N : Nat} {f : Nat → Int32} {t : Nat} {A A' : Nat → Prop} {s U : State} {H H' : Heap} (h : Tab C n N f t A s H) (hk : ∀ a : Nat, a < H.size → ¬ A a → H'[a]? = H[a]?) (hA : ∀ q, A' q → A q) (hvm : s.vm.Alike U.vm) : Tab C n N f t A' U H' := ⟨va_Z.moved hvm ((h.1.kept hk).narrow hA), va_T.moved hvm ((h.2.kept hk).narrow hA)⟩
def nF : List (String × Nat × String × String × String × String) := [
  ("SedgeBarges", 116, "SedgeBarges$Barges", "place", "[I", "SedgeBarges"),
  ("SedgeBarges", 119, "SedgeBarges$Beds", "place", "[I", "SedgeBarges"),
  ("SedgeBarges", 137, "SedgeBarges$Waterway", "landings", "LSedgeBarges$Landings;", "SedgeBarges"),
  ("SedgeBarges", 166, "SedgeBarges$Beds", "number", "I", "SedgeBarges"),
  ("SedgeBarges", 177, "SedgeBarges$Barges", "number", "I", "SedgeBarges"),
  ("SedgeBarges", 32, "SedgeBarges$Waterway", "beds", "LSedgeBarges$Beds;", "SedgeBarges"),
  ("SedgeBarges", 54, "SedgeBarges$Beds", "age", "[I", "SedgeBarges"),
  ("SedgeBarges", 64, "SedgeBarges$Waterway", "ties", "I", "SedgeBarges"),
  ("SedgeBarges", 77, "SedgeBarges$Waterway", "coins", "I", "SedgeBarges"),
  ("SedgeBarges", 99, "SedgeBarges$Waterway", "barges", "LSedgeBarges$Barges;", "SedgeBarges"),
  ("SedgeBarges$Beds", 43, "SedgeBarges", "GROWTH", "[I", "SedgeBarges"),
  ("SedgeBarges$Landings", 15, "SedgeBarges", "LANDING_WORTH", "[I", "SedgeBarges"),
  ("SedgeBarges$Landings", 31, "SedgeBarges", "LANDING_PLACE", "[I", "SedgeBarges"),
  ("SedgeBarges$Waterway", 106, "SedgeBarges$Beds", "number", "I", "SedgeBarges"),
  ("SedgeBarges$Waterway", 118, "SedgeBarges$Barges", "number", "I", "SedgeBarges"),
  ("SedgeBarges$Waterway", 59, "SedgeBarges$Beds", "tiedSedge", "[I", "SedgeBarges"),
  ("SedgeBarges$Waterway", 69, "SedgeBarges$Beds", "tiedReed", "[I", "SedgeBarges"),
  ("SedgeBarges$Waterway", 72, "SedgeBarges$Barges", "sedge", "[I", "SedgeBarges"),
  ("SedgeBarges$Waterway", 75, "SedgeBarges$Barges", "reed", "[I", "SedgeBarges"),
  ("SedgeBarges$Waterway", 84, "SedgeBarges$Barges", "brought", "[I", "SedgeBarges"),
  ("SedgeBarges$Waterway", 87, "SedgeBarges$Landings", "store", "[I", "SedgeBarges")]
def nM : List (String × Nat × MethodName × String) := [
  ("SedgeBarges", 9, ⟨"SedgeBarges$Waterway", "<init>", "()V"⟩, "SedgeBarges"),
  ("SedgeBarges$Barges", 44, ⟨"SedgeBarges", "landingAt", "(I)I"⟩, "SedgeBarges"),
  ("SedgeBarges$Beds", 59, ⟨"SedgeBarges", "tenthRoundedUp", "(I)I"⟩, "SedgeBarges"),
  ("SedgeBarges$Landings", 28, ⟨"SedgeBarges", "twentiethRoundedUp", "(I)I"⟩, "SedgeBarges"),
  ("SedgeBarges$Waterway", 20, ⟨"SedgeBarges$Beds", "<init>", "()V"⟩, "SedgeBarges"),
  ("SedgeBarges$Waterway", 27, ⟨"SedgeBarges$Barges", "<init>", "()V"⟩, "SedgeBarges"),
  ("SedgeBarges$Waterway", 34, ⟨"SedgeBarges$Landings", "<init>", "()V"⟩, "SedgeBarges")]
def sT : List (String × Nat × String) := [
  ("SedgeBarges", 25, "size is not 1 to 9"),
  ("SedgeBarges", 30, "sedge is not 0 to 100"),
  ("SedgeBarges", 44, "there are 8 beds"),
  ("SedgeBarges", 58, "the age of the bed is 0"),
  ("SedgeBarges", 72, "ties is not 1 to 500"),
  ("SedgeBarges", 80, "there are not so many coins"),
  ("SedgeBarges", 106, "there are 3 barges"),
  ("SedgeBarges", 120, "the barge is not at the place of the bed"),
  ("SedgeBarges", 128, "the barge is at no landing"),
  ("SedgeBarges", 163, "what is none of 4, 5, 9 and 10"),
  ("SedgeBarges", 178, "there is no such bed"),
  ("SedgeBarges", 180, "there is no such barge"),
  ("SedgeBarges", 182, "landing is not 0 to 2"),
  ("SedgeBarges", 184, "place is not 0 to 30"),
  ("SedgeBarges", 186, "what tells nothing here"),
  ("SedgeBarges", 188, "days is not 1 to 200")]
abbrev X_I : String := "java/lang/IndexOutOfBoundsException"
abbrev X_A : String := "java/lang/IllegalArgumentException"
abbrev X_S : String := "java/lang/IllegalStateException"
/-- the words of throwing and catching that no reader of steady words carries -/
def dW : List MethodName := [Bundle.initS "java/lang/RuntimeException", Bundle.initS "java/lang/Exception", Bundle.initS "java/lang/Throwable"]
def cW : List (String × String) := [(X_I, X_I), (X_A, X_A), (X_S, X_S)]
def ncW : List (String × String) := [(X_A, X_I), (X_S, X_I), (X_I, X_A), (X_S, X_A), (X_I, X_S), (X_A, X_S)]
/-- what every call stands on: the classes, the links within the nest, texts, tables -/
def En (sa tb : Nat → Nat) (D : va_G) (cA cL : ClassId) (A : Nat → Prop) (U : State) (H : Heap) : Prop :=
  va_K D vwCl [(cA, .int), (cL, .long)] U ∧ (∀ q ∈ nF, va_Nw (.fieldLinkNest q.1 q.2.1 q.2.2.1 q.2.2.2.1 q.2.2.2.2.1 q.2.2.2.2.2) U) ∧ (∀ q ∈ nM, va_Nw (.methodLinkNest q.1 q.2.1 q.2.2.1 q.2.2.2) U) ∧
  (∀ (k : Nat) (q : String × Nat × String), sT[k]? = some q → vk_R q.1 q.2.1 q.2.2 (sa k) U) ∧ (∀ q ∈ dW, va_Nw (.declares q) U) ∧ (∀ q ∈ cW, va_Nw (.castable q.1 q.2) U) ∧ (∀ q ∈ ncW, va_Nc q.1 q.2 U) ∧
  (Tab "SedgeBarges" "GROWTH" 10 growF (tb 0) A U H ∧ Tab "SedgeBarges" "LANDING_PLACE" 3 plF (tb 1) A U H ∧ Tab "SedgeBarges" "LANDING_WORTH" 3 woF (tb 2) A U H ∧
  Tab "SedgeBargesModel" "GROWTH" 10 growF (tb 3) A U H ∧ Tab "SedgeBargesModel" "LANDING" 3 plF (tb 4) A U H ∧ Tab "SedgeBargesModel" "WORTH" 3 woF (tb 5) A U H) ∧
  vx_Zq Bundle.tN "UNASSIGNED_STACK" Bundle.steD A U H ∧ vx_Zq Bundle.tN "SUPPRESSED_SENTINEL" Bundle.listD A U H
theorem ontab_moved {c : Cond} (hc : c.onTables = true) {u U : State} (h : c.before #[] (u.setVm U.vm) = true) : c.before #[] U = true := by
  have e := Cond.onTables_vm (A := #[]) (A' := #[]) (U := u) (U' := U) U.vm c hc
  have hU : U.setVm U.vm = U := rfl
  rw [hU] at e
  rw [← e]
  exact h
section LAY0
variable {sa tb : Nat → Nat} {D : va_G} {cA cL : ClassId} {A A' : Nat → Prop} {s U : State} {H H' : Heap}
theorem En.go (h : En sa tb D cA cL A s H) (hk : ∀ a : Nat, a < H.size → ¬ A a → H'[a]? = H[a]?) (hA : ∀ q, A' q → A q) (hW : s.WarmedH U.vm) : En sa tb D cA cL A' U H' := by
  obtain ⟨h1, h2, h3, h4, h5, h6, h7, ⟨t0, t1, t2, t3, t4, t5⟩, h9, h10⟩ := h
  have hv := hW.alike
  refine ⟨va_K.moved hv h1, fun q hq => va_Nw.warmF hW (h2 q hq), fun q hq => va_Nw.warmM hW (h3 q hq), fun k q hq => vk_R.warm hW (h4 k q hq), fun q hq => ?_, fun q hq => ?_, fun q hq => va_Nc.moved hv (h7 q hq), ⟨t0.go hk hA hv, t1.go hk hA hv, t2.go hk hA hv, t3.go hk hA hv, t4.go hk hA hv, t5.go hk hA hv⟩, ?_, ?_⟩
  · exact ontab_moved (u := s) rfl (by rw [Cond.declares_setVm hv]; exact h5 q hq)
  · exact ontab_moved (u := s) rfl (by rw [Cond.castable_setVm hv]; exact h6 q hq)
  · exact vx_Zq.moved hv ((h9.kept hk).narrow hA)
  · exact vx_Zq.moved hv ((h10.kept hk).narrow hA)
theorem nf_0 (h : En sa tb D cA cL A s H) {args : Array Value} : (Cond.fieldLinkNest RX4 116 "SedgeBarges$Barges" "place" "[I" "SedgeBarges").before args s = true := va_Nw.use rfl (h.2.1 ("SedgeBarges", 116, "SedgeBarges$Barges", "place", "[I", "SedgeBarges") (List.mem_of_getElem? (i := 0) rfl))
theorem nf_1 (h : En sa tb D cA cL A s H) {args : Array Value} : (Cond.fieldLinkNest RX4 119 "SedgeBarges$Beds" "place" "[I" "SedgeBarges").before args s = true := va_Nw.use rfl (h.2.1 ("SedgeBarges", 119, "SedgeBarges$Beds", "place", "[I", "SedgeBarges") (List.mem_of_getElem? (i := 1) rfl))
theorem nf_2 (h : En sa tb D cA cL A s H) {args : Array Value} : (Cond.fieldLinkNest RX4 137 "SedgeBarges$Waterway" "landings" "LSedgeBarges$Landings;" "SedgeBarges").before args s = true := va_Nw.use rfl (h.2.1 ("SedgeBarges", 137, "SedgeBarges$Waterway", "landings", "LSedgeBarges$Landings;", "SedgeBarges") (List.mem_of_getElem? (i := 2) rfl))
theorem nf_3 (h : En sa tb D cA cL A s H) {args : Array Value} : (Cond.fieldLinkNest RX4 166 "SedgeBarges$Beds" "number" "I" "SedgeBarges").before args s = true := va_Nw.use rfl (h.2.1 ("SedgeBarges", 166, "SedgeBarges$Beds", "number", "I", "SedgeBarges") (List.mem_of_getElem? (i := 3) rfl))
theorem nf_4 (h : En sa tb D cA cL A s H) {args : Array Value} : (Cond.fieldLinkNest RX4 177 "SedgeBarges$Barges" "number" "I" "SedgeBarges").before args s = true := va_Nw.use rfl (h.2.1 ("SedgeBarges", 177, "SedgeBarges$Barges", "number", "I", "SedgeBarges") (List.mem_of_getElem? (i := 4) rfl))
theorem nf_5 (h : En sa tb D cA cL A s H) {args : Array Value} : (Cond.fieldLinkNest RX4 32 "SedgeBarges$Waterway" "beds" "LSedgeBarges$Beds;" "SedgeBarges").before args s = true := va_Nw.use rfl (h.2.1 ("SedgeBarges", 32, "SedgeBarges$Waterway", "beds", "LSedgeBarges$Beds;", "SedgeBarges") (List.mem_of_getElem? (i := 5) rfl))
theorem nf_6 (h : En sa tb D cA cL A s H) {args : Array Value} : (Cond.fieldLinkNest RX4 54 "SedgeBarges$Beds" "age" "[I" "SedgeBarges").before args s = true := va_Nw.use rfl (h.2.1 ("SedgeBarges", 54, "SedgeBarges$Beds", "age", "[I", "SedgeBarges") (List.mem_of_getElem? (i := 6) rfl))
theorem nf_7 (h : En sa tb D cA cL A s H) {args : Array Value} : (Cond.fieldLinkNest RX4 64 "SedgeBarges$Waterway" "ties" "I" "SedgeBarges").before args s = true := va_Nw.use rfl (h.2.1 ("SedgeBarges", 64, "SedgeBarges$Waterway", "ties", "I", "SedgeBarges") (List.mem_of_getElem? (i := 7) rfl))
theorem nf_8 (h : En sa tb D cA cL A s H) {args : Array Value} : (Cond.fieldLinkNest RX4 77 "SedgeBarges$Waterway" "coins" "I" "SedgeBarges").before args s = true := va_Nw.use rfl (h.2.1 ("SedgeBarges", 77, "SedgeBarges$Waterway", "coins", "I", "SedgeBarges") (List.mem_of_getElem? (i := 8) rfl))
theorem nf_9 (h : En sa tb D cA cL A s H) {args : Array Value} : (Cond.fieldLinkNest RX4 99 "SedgeBarges$Waterway" "barges" "LSedgeBarges$Barges;" "SedgeBarges").before args s = true := va_Nw.use rfl (h.2.1 ("SedgeBarges", 99, "SedgeBarges$Waterway", "barges", "LSedgeBarges$Barges;", "SedgeBarges") (List.mem_of_getElem? (i := 9) rfl))
theorem nf_10 (h : En sa tb D cA cL A s H) {args : Array Value} : (Cond.fieldLinkNest RX1 43 "SedgeBarges" "GROWTH" "[I" "SedgeBarges").before args s = true := va_Nw.use rfl (h.2.1 ("SedgeBarges$Beds", 43, "SedgeBarges", "GROWTH", "[I", "SedgeBarges") (List.mem_of_getElem? (i := 10) rfl))
theorem nf_11 (h : En sa tb D cA cL A s H) {args : Array Value} : (Cond.fieldLinkNest RX2 15 "SedgeBarges" "LANDING_WORTH" "[I" "SedgeBarges").before args s = true := va_Nw.use rfl (h.2.1 ("SedgeBarges$Landings", 15, "SedgeBarges", "LANDING_WORTH", "[I", "SedgeBarges") (List.mem_of_getElem? (i := 11) rfl))
theorem nf_12 (h : En sa tb D cA cL A s H) {args : Array Value} : (Cond.fieldLinkNest RX2 31 "SedgeBarges" "LANDING_PLACE" "[I" "SedgeBarges").before args s = true := va_Nw.use rfl (h.2.1 ("SedgeBarges$Landings", 31, "SedgeBarges", "LANDING_PLACE", "[I", "SedgeBarges") (List.mem_of_getElem? (i := 12) rfl))
theorem nf_13 (h : En sa tb D cA cL A s H) {args : Array Value} : (Cond.fieldLinkNest RX3 106 "SedgeBarges$Beds" "number" "I" "SedgeBarges").before args s = true := va_Nw.use rfl (h.2.1 ("SedgeBarges$Waterway", 106, "SedgeBarges$Beds", "number", "I", "SedgeBarges") (List.mem_of_getElem? (i := 13) rfl))
theorem nf_14 (h : En sa tb D cA cL A s H) {args : Array Value} : (Cond.fieldLinkNest RX3 118 "SedgeBarges$Barges" "number" "I" "SedgeBarges").before args s = true := va_Nw.use rfl (h.2.1 ("SedgeBarges$Waterway", 118, "SedgeBarges$Barges", "number", "I", "SedgeBarges") (List.mem_of_getElem? (i := 14) rfl))
theorem nf_15 (h : En sa tb D cA cL A s H) {args : Array Value} : (Cond.fieldLinkNest RX3 59 "SedgeBarges$Beds" "tiedSedge" "[I" "SedgeBarges").before args s = true := va_Nw.use rfl (h.2.1 ("SedgeBarges$Waterway", 59, "SedgeBarges$Beds", "tiedSedge", "[I", "SedgeBarges") (List.mem_of_getElem? (i := 15) rfl))
theorem nf_16 (h : En sa tb D cA cL A s H) {args : Array Value} : (Cond.fieldLinkNest RX3 69 "SedgeBarges$Beds" "tiedReed" "[I" "SedgeBarges").before args s = true := va_Nw.use rfl (h.2.1 ("SedgeBarges$Waterway", 69, "SedgeBarges$Beds", "tiedReed", "[I", "SedgeBarges") (List.mem_of_getElem? (i := 16) rfl))
theorem nf_17 (h : En sa tb D cA cL A s H) {args : Array Value} : (Cond.fieldLinkNest RX3 72 "SedgeBarges$Barges" "sedge" "[I" "SedgeBarges").before args s = true := va_Nw.use rfl (h.2.1 ("SedgeBarges$Waterway", 72, "SedgeBarges$Barges", "sedge", "[I", "SedgeBarges") (List.mem_of_getElem? (i := 17) rfl))
theorem nf_18 (h : En sa tb D cA cL A s H) {args : Array Value} : (Cond.fieldLinkNest RX3 75 "SedgeBarges$Barges" "reed" "[I" "SedgeBarges").before args s = true := va_Nw.use rfl (h.2.1 ("SedgeBarges$Waterway", 75, "SedgeBarges$Barges", "reed", "[I", "SedgeBarges") (List.mem_of_getElem? (i := 18) rfl))
theorem nf_19 (h : En sa tb D cA cL A s H) {args : Array Value} : (Cond.fieldLinkNest RX3 84 "SedgeBarges$Barges" "brought" "[I" "SedgeBarges").before args s = true := va_Nw.use rfl (h.2.1 ("SedgeBarges$Waterway", 84, "SedgeBarges$Barges", "brought", "[I", "SedgeBarges") (List.mem_of_getElem? (i := 19) rfl))
theorem nf_20 (h : En sa tb D cA cL A s H) {args : Array Value} : (Cond.fieldLinkNest RX3 87 "SedgeBarges$Landings" "store" "[I" "SedgeBarges").before args s = true := va_Nw.use rfl (h.2.1 ("SedgeBarges$Waterway", 87, "SedgeBarges$Landings", "store", "[I", "SedgeBarges") (List.mem_of_getElem? (i := 20) rfl))
theorem nm_0 (h : En sa tb D cA cL A s H) : va_Nw (.methodLinkNest RX4 9 yX3_init "SedgeBarges") s := h.2.2.1 ("SedgeBarges", 9, ⟨"SedgeBarges$Waterway", "<init>", "()V"⟩, "SedgeBarges") (List.mem_of_getElem? (i := 0) rfl)
theorem nm_1 (h : En sa tb D cA cL A s H) : va_Nw (.methodLinkNest RX0 44 yX4_landingAt "SedgeBarges") s := h.2.2.1 ("SedgeBarges$Barges", 44, ⟨"SedgeBarges", "landingAt", "(I)I"⟩, "SedgeBarges") (List.mem_of_getElem? (i := 1) rfl)
theorem nm_2 (h : En sa tb D cA cL A s H) : va_Nw (.methodLinkNest RX1 59 yX4_tenthRoundedUp "SedgeBarges") s := h.2.2.1 ("SedgeBarges$Beds", 59, ⟨"SedgeBarges", "tenthRoundedUp", "(I)I"⟩, "SedgeBarges") (List.mem_of_getElem? (i := 2) rfl)
theorem nm_3 (h : En sa tb D cA cL A s H) : va_Nw (.methodLinkNest RX2 28 yX4_twentiethRoundedUp "SedgeBarges") s := h.2.2.1 ("SedgeBarges$Landings", 28, ⟨"SedgeBarges", "twentiethRoundedUp", "(I)I"⟩, "SedgeBarges") (List.mem_of_getElem? (i := 3) rfl)
theorem nm_4 (h : En sa tb D cA cL A s H) : va_Nw (.methodLinkNest RX3 20 yX1_init "SedgeBarges") s := h.2.2.1 ("SedgeBarges$Waterway", 20, ⟨"SedgeBarges$Beds", "<init>", "()V"⟩, "SedgeBarges") (List.mem_of_getElem? (i := 4) rfl)
theorem nm_5 (h : En sa tb D cA cL A s H) : va_Nw (.methodLinkNest RX3 27 yX0_init "SedgeBarges") s := h.2.2.1 ("SedgeBarges$Waterway", 27, ⟨"SedgeBarges$Barges", "<init>", "()V"⟩, "SedgeBarges") (List.mem_of_getElem? (i := 5) rfl)
theorem nm_6 (h : En sa tb D cA cL A s H) : va_Nw (.methodLinkNest RX3 34 yX2_init "SedgeBarges") s := h.2.2.1 ("SedgeBarges$Waterway", 34, ⟨"SedgeBarges$Landings", "<init>", "()V"⟩, "SedgeBarges") (List.mem_of_getElem? (i := 6) rfl)
theorem En.K (h : En sa tb D cA cL A s H) : va_K D vwCl [(cA, .int), (cL, .long)] s := h.1
end LAY0
theorem l_mid {α : Type} (pre wc pos : List α) (k : Nat) (q : α) (h : wc[k]? = some q) : (pre ++ (wc ++ pos))[pre.length + k]? = some q := by
  have hk : k < wc.length := (List.getElem?_eq_some_iff.mp h).1
  rw [List.getElem?_append_right (Nat.le_add_right _ _), Nat.add_sub_cancel_left, List.getElem?_append_left hk, h]
theorem va_P.mid {D : va_G} {cl : List vw_C} {pre wc pos : va_W} {H : Heap} (h : va_P D cl (pre ++ (wc ++ pos)) H) : va_P D cl wc H := fun k q hk => h _ q (l_mid pre wc pos k q hk)
theorem va_D.mid {A : Nat → Prop} {pre wc pos : va_W} (h : va_D A (pre ++ (wc ++ pos))) : va_D A wc := ⟨fun i j p q hi hj e => by
  have := h.1 _ _ p q (l_mid pre wc pos i p hi) (l_mid pre wc pos j q hj) e
  omega, fun k q hk => h.2 _ q (l_mid pre wc pos k q hk)⟩
theorem va_D.addr {A : Nat → Prop} {ws ws' : va_W} (h : va_D A ws) (e : ws'.map Prod.fst = ws.map Prod.fst) : va_D A ws' := by
  have key : ∀ (k : Nat) (q : Nat × va_E), ws'[k]? = some q → ∃ q0, ws[k]? = some q0 ∧ q0.1 = q.1 := by
    intro k q hk
    have h1 : (ws'.map Prod.fst)[k]? = some q.1 := by rw [List.getElem?_map, hk]; rfl
    rw [e, List.getElem?_map] at h1
    cases hw : ws[k]? with
    | none => rw [hw] at h1; cases h1
    | some q0 => rw [hw] at h1; exact ⟨q0, rfl, Option.some.inj h1⟩
  refine ⟨fun i j p q hi hj hpq => ?_, fun k q hk => ?_⟩
  · obtain ⟨p0, a1, a2⟩ := key i p hi
    obtain ⟨q0, b1, b2⟩ := key j q hj
    exact h.1 i j p0 q0 a1 b1 (a2.trans (hpq.trans b2.symm))
  · obtain ⟨q0, a1, a2⟩ := key k q hk
    rw [← a2]
    exact h.2 k q0 a1
/-- behind a call: its cells as it left them, the others as they were -/
theorem P_join {A0 : Nat → Prop} {D : va_G} {cl : List vw_C} {pre wc pos w1 : va_W} {H H1 : Heap} (hP : va_P D cl (pre ++ (wc ++ pos)) H) (hD : va_D A0 (pre ++ (wc ++ pos))) (hk : ∀ q : Nat, q < H.size → ¬ va_A wc H.size q → H1[q]? = H[q]?) (hP1 : va_P D cl w1 H1) : va_P D cl (pre ++ (w1 ++ pos)) H1 := by
  have out : ∀ (i : Nat) (q : Nat × va_E), (pre ++ (wc ++ pos))[i]? = some q → (i < pre.length ∨ pre.length + wc.length ≤ i) → H1[q.1]? = H[q.1]? := by
    intro i q hq hi
    have hl := (hP i q hq).lt
    refine hk q.1 hl fun h => ?_
    rcases h with ⟨k2, e, h⟩ | h
    · have h2 := l_mid pre wc pos k2 (q.1, e) h
      have hk2 : k2 < wc.length := (List.getElem?_eq_some_iff.mp h).1
      have := hD.1 i _ q (q.1, e) hq h2 rfl
      omega
    · omega
  refine va_P.app (fun k q hq => ?_) (va_P.app hP1 (fun k q hq => ?_))
  · have hl : k < pre.length := (List.getElem?_eq_some_iff.mp hq).1
    have h1 : (pre ++ (wc ++ pos))[k]? = some q := by rw [List.getElem?_append_left hl]; exact hq
    exact (hP k q h1).kept (out k q h1 (Or.inl hl))
  · have h1 : (pre ++ (wc ++ pos))[pre.length + (wc.length + k)]? = some q := by
      rw [List.getElem?_append_right (Nat.le_add_right _ _), Nat.add_sub_cancel_left, List.getElem?_append_right (Nat.le_add_right _ _), Nat.add_sub_cancel_left]; exact hq
    exact (hP _ q h1).kept (out _ q h1 (Or.inr (by omega)))
theorem mid_free {A : Nat → Prop} {pre wc pos : va_W} {H0 H : Heap} {locs : List Loc} (hD : va_D A (pre ++ (wc ++ pos))) (hS : va_S A H0 H locs) (hA : ∀ q, H0.size ≤ q → A q) : ∀ q, va_A wc H.size q → A q := by
  intro q h
  rcases h with ⟨k, e, h⟩ | h
  · exact hD.2 _ (q, e) (l_mid pre wc pos k (q, e) h)
  · exact hA q (Nat.le_trans hS.1 h)
/-- a method's start: its world, apart, and what every call stands on -/
def PcK (sa tb : Nat → Nat) (D : va_G) (cA cL : ClassId) (av : List Value) (ws : va_W) (sz : Nat) : Array Value → State → Prop := va_Pc av (fun U => U.heap.size = sz ∧ va_P D vwCl ws U.heap ∧ va_D (fun _ => True) ws ∧ En sa tb D cA cL (va_A ws sz) U U.heap)
/-- its end, by the cells that it may change -/
abbrev qI (D : va_G) {S : Type} (post : Int32 → S → Prop) (w1 : S → va_W) : (Nat → Prop) → Array Value → State → Outcome → State → Prop := fun A => va_Qi post (fun u t => va_P D vwCl (w1 u) t.heap) A
abbrev qV (D : va_G) {S : Type} (post : S → Prop) (w1 : S → va_W) : (Nat → Prop) → Array Value → State → Outcome → State → Prop := fun A => va_Qv post (fun u t => va_P D vwCl (w1 u) t.heap) A
abbrev qL (D : va_G) {S : Type} (post : Int64 → S → Prop) (w1 : S → va_W) : (Nat → Prop) → Array Value → State → Outcome → State → Prop := fun A => va_Ql post (fun u t => va_P D vwCl (w1 u) t.heap) A
abbrev qD (D : va_G) {S : Type} (post : UInt64 → S → Prop) (w1 : S → va_W) : (Nat → Prop) → Array Value → State → Outcome → State → Prop := fun A => va_Qd post (fun u t => va_P D vwCl (w1 u) t.heap) A
/-- a contract of a method that makes nothing and throws nothing -/
def KM (sa tb : Nat → Nat) (D : va_G) (cA cL : ClassId) (l : Launch) (y : MethodName) (wy : List Cond) (rm : Room) (av : List Value) (ws : va_W) (Qc : (Nat → Prop) → Array Value → State → Outcome → State → Prop) : Prop := ∀ sz : Nat, Met l y wy rm (PcK sa tb D cA cL av ws sz) (Qc (va_A ws sz)) 0 0 (va_A ws sz)
/-- .. of one that surely throws: one object is made, its world stays -/
def KX (sa tb : Nat → Nat) (D : va_G) (cA cL : ClassId) (l : Launch) (y : MethodName) (wy : List Cond) (rm : Room) (av : List Value) (ws : va_W) (XE : String → Prop) : Prop := ∀ sz : Nat, vx_Met l y wy rm (PcK sa tb D cA cL av ws sz) (fun _ _ _ _ => False) (vx_X (fun _ : Unit => True) (fun E _ t => XE E ∧ va_P D vwCl ws t.heap) (va_A ws sz)) 1 6 (va_A ws sz)
section LAY1
variable {sa tb : Nat → Nat} {D : va_G} {cA cL : ClassId} {l : Launch} {y : MethodName} {wy wy' : List Cond} {rm : Room} {av : List Value} {ws : va_W} {Qc : (Nat → Prop) → Array Value → State → Outcome → State → Prop} {cc : ByteArray} {maxL : Nat} {ret : Option FieldType}
theorem PcK.blind {sz : Nat} : FrameBlind (PcK sa tb D cA cL av ws sz) := fun a U g mk h => ⟨h.1, h.2.1, h.2.2.1, h.2.2.2.1, h.2.2.2.2.go (fun _ _ _ => rfl) (fun _ h => h) (State.WarmedH.refl U)⟩
theorem KM.of (hy : plainName y.cls = true) (hw : wy = Cond.code y cc maxL ret :: wy') (hlen : (lg_sl av).length ≤ maxL)
    (body : ∀ (p : Program) (e : Env) (s : State) (m : MethodId) (args : Array Value) (below : List Frame) (meth : Method) (c : Code) (A : Nat → Prop), p.tables.exec = Jvm.exec → c.code = cc → meth.sig.returnType = ret → c.maxLocals = maxL → meth.locks = false → (∀ w ∈ wy, w.before args s = true) → s.vm.findClass y.cls = some m.cls → va_S A s.heap s.heap [] → (∀ q : Nat, s.heap.size ≤ q → A q) → En sa tb D cA cL A s s.heap → va_P D vwCl ws s.heap → va_D A ws → ∀ ls : Array Slot, lv_has ls maxL (lv_args 0 av) →
      W p l e rm s m args below meth c s.heap [] 0 0 (MQ below (Qc A) args s 0 0 A) (F0 m 0 ls [])) : KM sa tb D cA cL l y wy rm av ws Qc := by
  intro sz
  refine Met.ofW (cc := cc) (maxL := maxL) (ret := ret) hy hw ?_
  intro p e s m args below meth c s₁ B hml hv
  obtain ⟨rfl, hsz, hP, hD0, hE⟩ := hv
  subst hsz
  have hl := lv_entry av (n := maxL) hlen
  rw [lg_entry_eq]
  exact body p e s m _ below meth c _ B.exec B.bytes B.returns hml B.notSynchronized (atoms_spec (ws := wy) B.pre) (findClass_of_methodNamed B.named) va_S.rf (fun q h => Or.inr h) hE hP hD0.self _ hl
theorem KX.of {XE : String → Prop} (hy : plainName y.cls = true) (hw : wy = Cond.code y cc maxL ret :: wy') (hlen : (lg_sl av).length ≤ maxL)
    (body : ∀ (p : Program) (e : Env) (s : State) (m : MethodId) (args : Array Value) (below : List Frame) (meth : Method) (c : Code) (A : Nat → Prop), p.tables.exec = Jvm.exec → c.code = cc → meth.sig.returnType = ret → c.maxLocals = maxL → meth.locks = false → (∀ w ∈ wy, w.before args s = true) → s.vm.findClass y.cls = some m.cls → va_S A s.heap s.heap [] → (∀ q : Nat, s.heap.size ≤ q → A q) → En sa tb D cA cL A s s.heap → va_P D vwCl ws s.heap → va_D A ws → (∀ x ∈ c.exceptionTable.toList, False) → ∀ ls : Array Slot, lv_has ls maxL (lv_args 0 av) →
      W p l e rm s m args below meth c s.heap [] 0 0 (vx_MQ below (fun _ _ _ _ => False) (vx_X (fun _ : Unit => True) (fun E _ t => XE E ∧ va_P D vwCl ws t.heap) A) args s 1 6 A) (F0 m 0 ls [])) : KX sa tb D cA cL l y wy rm av ws XE := by
  intro sz
  refine vx_ofW (cc := cc) (maxL := maxL) (ret := ret) hy hw ?_
  intro p e s m args below meth c s₁ B hml htab hv
  obtain ⟨rfl, hsz, hP, hD0, hE⟩ := hv
  subst hsz
  have hl := lv_entry av (n := maxL) hlen
  rw [lg_entry_eq]
  exact body p e s m _ below meth c _ B.exec B.bytes B.returns hml B.notSynchronized (atoms_spec (ws := wy) B.pre) (findClass_of_methodNamed B.named) va_S.rf (fun q h => Or.inr h) hE hP hD0.self htab _ hl
end LAY1
section LAY2
variable {p : Program} {l : Launch} {e : Env} {R : Room} {s : State} {m : MethodId} {args : Array Value} {below : List Frame} {meth : Method} {c : Code} {H : Heap} {locs : List Loc} {cells slots : Nat} {Q : State → Prop}
variable {sa tb : Nat → Nat} {D : va_G} {cA cL : ClassId} {A : Nat → Prop} {y : MethodName} {wy : List Cond} {rm : Room} {Qc : (Nat → Prop) → Array Value → State → Outcome → State → Prop} {cc bytes : ByteArray} {maxL nL n index : Nat} {ret : Option FieldType} {Ts : List Cond} {own C host : String} {b : Addr} {As rest st0 : List Value} {pc : Nat} {ls : Array Slot} {pre wc pos : va_W}
theorem PcKu (hP : va_P D vwCl (pre ++ (wc ++ pos)) H) (hD : va_D A (pre ++ (wc ++ pos))) (hS : va_S A s.heap H locs) (hA : ∀ q, s.heap.size ≤ q → A q) (hE : En sa tb D cA cL A s s.heap) {av : List Value} : ∀ U : State, U.heap = H → s.WarmedH U.vm → PcK sa tb D cA cL av wc H.size av.toArray U := fun U hU hW => ⟨rfl, by rw [hU], by rw [hU]; exact hP.mid, hD.mid.weaken (fun _ _ _ _ => trivial), hE.go (by rw [hU]; exact hS.2.1) (mid_free hD hS hA) hW⟩
theorem rnV (hM : KM sa tb D cA cL l y wy rm (.ref b :: As) wc Qc) (pre pos : va_W) (hP : va_P D vwCl (pre ++ (wc ++ pos)) H) (hD : va_D A (pre ++ (wc ++ pos))) (hS : va_S A s.heap H locs) (hA : ∀ q, s.heap.size ≤ q → A q) (hE : En sa tb D cA cL A s s.heap) (hCF : CallFix p m c cc nL s args Ts own)
    (cw : CallW R s args own C index y bytes maxL ret wy rm 0 0 n) (ci q0 : Nat) {fs : List Value} {q : vw_C} (hc : vwCl[ci]? = some q) (he : wc[q0]? = some (b, .inr (ci, fs))) (hC : q.1 = C) (hn : As.length = n) (hsize : ls.size = nL) (hst : st0 = As.reverse ++ .ref b :: rest) (hW : (rest.map fun v => v.category).sum ≤ 8) (hdg : decode cc pc = .ok (.invokevirtual index, 3)) (hf : cells ≤ R.cells ∧ slots ≤ R.slots) :
    va_Run p l e R s m args below meth c H locs cells slots 0 0 (F0 m pc ls st0) rest (Qc (va_A wc H.size) (Value.ref b :: As).toArray) (va_A wc H.size) := by
  subst hC
  exact va_runV hCF (hM H.size) cw ⟨PcK.blind, va_recv hE.K hP.mid hc he, PcKu hP hD hS hA hE⟩ rfl hn hsize hst (lv_room hW) hdg hf
theorem rnS (hM : KM sa tb D cA cL l y wy rm As wc Qc) (pre pos : va_W) (hP : va_P D vwCl (pre ++ (wc ++ pos)) H) (hD : va_D A (pre ++ (wc ++ pos))) (hS : va_S A s.heap H locs) (hA : ∀ q, s.heap.size ≤ q → A q) (hE : En sa tb D cA cL A s s.heap) (hCF : CallFix p m c cc nL s args Ts own)
    (cw : CallB R s args own index y bytes maxL ret wy rm 0 0 n ∧ (Cond.static y).before args s = true) (hn : As.length = n) (hsize : ls.size = nL) (hst : st0 = As.reverse ++ rest) (hW : (rest.map fun v => v.category).sum ≤ 8) (hdg : decode cc pc = .ok (.invokestatic index, 3)) (hf : cells ≤ R.cells ∧ slots ≤ R.slots) :
    va_Run p l e R s m args below meth c H locs cells slots 0 0 (F0 m pc ls st0) rest (Qc (va_A wc H.size) As.toArray) (va_A wc H.size) :=
  va_runS hCF (hM H.size) cw ⟨PcK.blind, PcKu hP hD hS hA hE⟩ rfl hn hsize hst (lv_room hW) hdg hf
theorem rnSN (hM : KM sa tb D cA cL l y wy rm As wc Qc) (pre pos : va_W) (hP : va_P D vwCl (pre ++ (wc ++ pos)) H) (hD : va_D A (pre ++ (wc ++ pos))) (hS : va_S A s.heap H locs) (hA : ∀ q, s.heap.size ≤ q → A q) (hE : En sa tb D cA cL A s s.heap) (hCF : CallFix p m c cc nL s args Ts own)
    (cw : va_CN R s args own index y host bytes maxL ret wy rm 0 0 n ∧ (Cond.static y).before args s = true ∧ True) (hn : As.length = n) (hsize : ls.size = nL) (hst : st0 = As.reverse ++ rest) (hW : (rest.map fun v => v.category).sum ≤ 8) (hdg : decode cc pc = .ok (.invokestatic index, 3)) (hf : cells ≤ R.cells ∧ slots ≤ R.slots) :
    va_Run p l e R s m args below meth c H locs cells slots 0 0 (F0 m pc ls st0) rest (Qc (va_A wc H.size) As.toArray) (va_A wc H.size) :=
  va_runSN hCF (hM H.size) cw ⟨PcK.blind, PcKu hP hD hS hA hE⟩ rfl hn hsize hst (lv_room hW) hdg hf
variable {S : Type} {w1 : S → va_W} {a : Array Value}
theorem goI {post : Int32 → S → Prop} (pre pos : va_W) (hP : va_P D vwCl (pre ++ (wc ++ pos)) H) (hD : va_D A (pre ++ (wc ++ pos))) (hS : va_S A s.heap H locs) (hA : ∀ q, s.heap.size ≤ q → A q) (hr : va_Run p l e R s m args below meth c H locs cells slots 0 0 (F0 m pc ls st0) rest (qI D post w1 (va_A wc H.size) a) (va_A wc H.size)) (haddr : ∀ u, (w1 u).map Prod.fst = wc.map Prod.fst)
    (kk : ∀ (r : Int32) (u : S) (H1 : Heap) (locs1 : List Loc), post r u → va_P D vwCl (pre ++ (w1 u ++ pos)) H1 → va_D A (pre ++ (w1 u ++ pos)) → va_S A s.heap H1 locs1 → W p l e R s m args below meth c H1 locs1 cells slots Q (F0 m (pc + 3) ls (.int r :: rest))) : W p l e R s m args below meth c H locs cells slots Q (F0 m pc ls st0) := by
  refine va_calli hr hS (fun q _ h => mid_free hD hS hA q h) (mid_free hD hS hA) (fun r u t H1 locs1 ht hvm hw hB hz hk hS1 => ?_)
  rw [ht] at hB
  exact kk r u H1 locs1 hw (P_join hP hD hk hB) (hD.addr (by simp [List.map_append, haddr u])) hS1
theorem goV {post : S → Prop} (pre pos : va_W) (hP : va_P D vwCl (pre ++ (wc ++ pos)) H) (hD : va_D A (pre ++ (wc ++ pos))) (hS : va_S A s.heap H locs) (hA : ∀ q, s.heap.size ≤ q → A q) (hr : va_Run p l e R s m args below meth c H locs cells slots 0 0 (F0 m pc ls st0) rest (qV D post w1 (va_A wc H.size) a) (va_A wc H.size)) (haddr : ∀ u, (w1 u).map Prod.fst = wc.map Prod.fst)
    (kk : ∀ (u : S) (H1 : Heap) (locs1 : List Loc), post u → va_P D vwCl (pre ++ (w1 u ++ pos)) H1 → va_D A (pre ++ (w1 u ++ pos)) → va_S A s.heap H1 locs1 → W p l e R s m args below meth c H1 locs1 cells slots Q (F0 m (pc + 3) ls rest)) : W p l e R s m args below meth c H locs cells slots Q (F0 m pc ls st0) := by
  refine va_callv hr hS (fun q _ h => mid_free hD hS hA q h) (mid_free hD hS hA) (fun u t H1 locs1 ht hvm hw hB hz hk hS1 => ?_)
  rw [ht] at hB
  exact kk u H1 locs1 hw (P_join hP hD hk hB) (hD.addr (by simp [List.map_append, haddr u])) hS1
theorem goL {post : Int64 → S → Prop} (pre pos : va_W) (hP : va_P D vwCl (pre ++ (wc ++ pos)) H) (hD : va_D A (pre ++ (wc ++ pos))) (hS : va_S A s.heap H locs) (hA : ∀ q, s.heap.size ≤ q → A q) (hr : va_Run p l e R s m args below meth c H locs cells slots 0 0 (F0 m pc ls st0) rest (qL D post w1 (va_A wc H.size) a) (va_A wc H.size)) (haddr : ∀ u, (w1 u).map Prod.fst = wc.map Prod.fst)
    (kk : ∀ (r : Int64) (u : S) (H1 : Heap) (locs1 : List Loc), post r u → va_P D vwCl (pre ++ (w1 u ++ pos)) H1 → va_D A (pre ++ (w1 u ++ pos)) → va_S A s.heap H1 locs1 → W p l e R s m args below meth c H1 locs1 cells slots Q (F0 m (pc + 3) ls (.long r :: rest))) : W p l e R s m args below meth c H locs cells slots Q (F0 m pc ls st0) := by
  refine va_calll hr hS (fun q _ h => mid_free hD hS hA q h) (mid_free hD hS hA) (fun r u t H1 locs1 ht hvm hw hB hz hk hS1 => ?_)
  rw [ht] at hB
  exact kk r u H1 locs1 hw (P_join hP hD hk hB) (hD.addr (by simp [List.map_append, haddr u])) hS1
theorem goD {post : UInt64 → S → Prop} (pre pos : va_W) (hP : va_P D vwCl (pre ++ (wc ++ pos)) H) (hD : va_D A (pre ++ (wc ++ pos))) (hS : va_S A s.heap H locs) (hA : ∀ q, s.heap.size ≤ q → A q) (hr : va_Run p l e R s m args below meth c H locs cells slots 0 0 (F0 m pc ls st0) rest (qD D post w1 (va_A wc H.size) a) (va_A wc H.size)) (haddr : ∀ u, (w1 u).map Prod.fst = wc.map Prod.fst)
    (kk : ∀ (r : UInt64) (u : S) (H1 : Heap) (locs1 : List Loc), post r u → va_P D vwCl (pre ++ (w1 u ++ pos)) H1 → va_D A (pre ++ (w1 u ++ pos)) → va_S A s.heap H1 locs1 → W p l e R s m args below meth c H1 locs1 cells slots Q (F0 m (pc + 3) ls (.double r :: rest))) : W p l e R s m args below meth c H locs cells slots Q (F0 m pc ls st0) := by
  refine va_calld hr hS (fun q _ h => mid_free hD hS hA q h) (mid_free hD hS hA) (fun r u t H1 locs1 ht hvm hw hB hz hk hS1 => ?_)
  rw [ht] at hB
  exact kk r u H1 locs1 hw (P_join hP hD hk hB) (hD.addr (by simp [List.map_append, haddr u])) hS1
/-- ends -/
theorem enI {post : Int32 → S → Prop} {v : Int32} (u : S) (hx : p.tables.exec = Jvm.exec) (hb : c.code = cc) (hr : meth.sig.returnType = some .int) (hlocks : meth.locks = false) (hS : va_S A s.heap H locs) (hP : va_P D vwCl (w1 u) H) (hp : post v u) (hdg : decode cc pc = .ok (.ireturn, 1)) : W p l e R s m args below meth c H locs 0 0 (MQ below (qI D post w1 A) args s 0 0 A) (F0 m pc ls [.int v]) :=
  W.iret hx hb hr (fun t ht hW => ⟨⟨v, u, rfl, hp, by show va_P D vwCl (w1 u) t.heap; rw [ht]; exact hP⟩, hS.F ht⟩) hS.2.2 hdg hlocks
theorem enZ {post : Int32 → S → Prop} {v : Int32} (u : S) (hx : p.tables.exec = Jvm.exec) (hb : c.code = cc) (hr : meth.sig.returnType = some .boolean) (hlocks : meth.locks = false) (hS : va_S A s.heap H locs) (hP : va_P D vwCl (w1 u) H) (hn : narrow .boolean (.int v) = .int v) (hp : post v u) (hdg : decode cc pc = .ok (.ireturn, 1)) : W p l e R s m args below meth c H locs 0 0 (MQ below (qI D post w1 A) args s 0 0 A) (F0 m pc ls [.int v]) :=
  W.zret hx hb hr hn (fun t ht hW => ⟨⟨v, u, rfl, hp, by show va_P D vwCl (w1 u) t.heap; rw [ht]; exact hP⟩, hS.F ht⟩) hS.2.2 hdg hlocks
theorem enV {post : S → Prop} (u : S) (hx : p.tables.exec = Jvm.exec) (hb : c.code = cc) (hr : meth.sig.returnType = none) (hlocks : meth.locks = false) (hS : va_S A s.heap H locs) (hP : va_P D vwCl (w1 u) H) (hp : post u) (hdg : decode cc pc = .ok (.return_, 1)) : W p l e R s m args below meth c H locs 0 0 (MQ below (qV D post w1 A) args s 0 0 A) (F0 m pc ls []) :=
  W.vret hx hb hr (fun t ht hW => ⟨⟨u, rfl, hp, by show va_P D vwCl (w1 u) t.heap; rw [ht]; exact hP⟩, hS.F ht⟩) hS.2.2 hdg hlocks
theorem enL {post : Int64 → S → Prop} {v : Int64} (u : S) (hx : p.tables.exec = Jvm.exec) (hb : c.code = cc) (hr : meth.sig.returnType = some .long) (hlocks : meth.locks = false) (hS : va_S A s.heap H locs) (hP : va_P D vwCl (w1 u) H) (hp : post v u) (hdg : decode cc pc = .ok (.lreturn, 1)) : W p l e R s m args below meth c H locs 0 0 (MQ below (qL D post w1 A) args s 0 0 A) (F0 m pc ls [.long v]) :=
  W.lret hx hb hr (fun t ht hW => ⟨⟨v, u, rfl, hp, by show va_P D vwCl (w1 u) t.heap; rw [ht]; exact hP⟩, hS.F ht⟩) hS.2.2 hdg hlocks
theorem enD {post : UInt64 → S → Prop} {v : UInt64} (u : S) (hx : p.tables.exec = Jvm.exec) (hb : c.code = cc) (hr : meth.sig.returnType = some .double) (hlocks : meth.locks = false) (hS : va_S A s.heap H locs) (hP : va_P D vwCl (w1 u) H) (hp : post v u) (hdg : decode cc pc = .ok (.dreturn, 1)) : W p l e R s m args below meth c H locs 0 0 (MQ below (qD D post w1 A) args s 0 0 A) (F0 m pc ls [.double v]) :=
  W.dret hx hb hr (fun t ht hW => ⟨⟨v, u, rfl, hp, by show va_P D vwCl (w1 u) t.heap; rw [ht]; exact hP⟩, hS.F ht⟩) hS.2.2 hdg hlocks
end LAY2
section LAY3
variable {p : Program} {l : Launch} {e : Env} {R : Room} {s : State} {m : MethodId} {args : Array Value} {below : List Frame} {meth : Method} {c : Code} {H : Heap} {locs : List Loc} {cells slots : Nat} {Q : State → Prop}
variable {sa tb : Nat → Nat} {D : va_G} {cA cL : ClassId} {A : Nat → Prop} {y : MethodName} {wy : List Cond} {rm : Room} {cc bytes : ByteArray} {maxL nL n index : Nat} {ret : Option FieldType} {Ts : List Cond} {own C : String} {b : Addr} {As rest st0 : List Value} {pc : Nat} {ls : Array Slot} {pre wc pos ws : va_W} {XE XE' : String → Prop} {Qf : Array Value → State → Outcome → State → Prop}
theorem rnXV (hM : KX sa tb D cA cL l y wy rm (.ref b :: As) wc XE) (pre pos : va_W) (hP : va_P D vwCl (pre ++ (wc ++ pos)) H) (hD : va_D A (pre ++ (wc ++ pos))) (hS : va_S A s.heap H locs) (hA : ∀ q, s.heap.size ≤ q → A q) (hE : En sa tb D cA cL A s s.heap) (hCF : CallFix p m c cc nL s args Ts own)
    (cw : CallW R s args own C index y bytes maxL ret wy rm 1 6 n) (ci q0 : Nat) {fs : List Value} {q : vw_C} (hc : vwCl[ci]? = some q) (he : wc[q0]? = some (b, .inr (ci, fs))) (hC : q.1 = C) (hn : As.length = n) (hsize : ls.size = nL) (hst : st0 = As.reverse ++ .ref b :: rest) (hW : (rest.map fun v => v.category).sum ≤ 8) (hdg : decode cc pc = .ok (.invokevirtual index, 3)) (hf : cells + 1 ≤ R.cells ∧ slots + 6 ≤ R.slots) :
    vx_Run p l e R s m args below meth c H locs cells slots 1 6 (F0 m pc ls st0) rest (fun _ _ _ => False) (vx_X (fun _ : Unit => True) (fun E _ t => XE E ∧ va_P D vwCl wc t.heap) (va_A wc H.size)) (va_A wc H.size) := by
  subst hC
  exact vx_runV hCF (hM H.size) cw ⟨PcK.blind, va_recv hE.K hP.mid hc he, PcKu hP hD hS hA hE⟩ rfl hn hsize hst (lv_room hW) hdg hf
theorem rnXS (hM : KX sa tb D cA cL l y wy rm As wc XE) (pre pos : va_W) (hP : va_P D vwCl (pre ++ (wc ++ pos)) H) (hD : va_D A (pre ++ (wc ++ pos))) (hS : va_S A s.heap H locs) (hA : ∀ q, s.heap.size ≤ q → A q) (hE : En sa tb D cA cL A s s.heap) (hCF : CallFix p m c cc nL s args Ts own)
    (cw : CallB R s args own index y bytes maxL ret wy rm 1 6 n ∧ (Cond.static y).before args s = true) (hn : As.length = n) (hsize : ls.size = nL) (hst : st0 = As.reverse ++ rest) (hW : (rest.map fun v => v.category).sum ≤ 8) (hdg : decode cc pc = .ok (.invokestatic index, 3)) (hf : cells + 1 ≤ R.cells ∧ slots + 6 ≤ R.slots) :
    vx_Run p l e R s m args below meth c H locs cells slots 1 6 (F0 m pc ls st0) rest (fun _ _ _ => False) (vx_X (fun _ : Unit => True) (fun E _ t => XE E ∧ va_P D vwCl wc t.heap) (va_A wc H.size)) (va_A wc H.size) :=
  vx_runS hCF (hM H.size) cw ⟨PcK.blind, PcKu hP hD hS hA hE⟩ rfl hn hsize hst (lv_room hW) hdg hf
theorem goXo (pre pos : va_W) (hP : va_P D vwCl (pre ++ (wc ++ pos)) H) (hD : va_D A (pre ++ (wc ++ pos))) (hS : va_S A s.heap H locs) (hA : ∀ q, s.heap.size ≤ q → A q)
    (hr : vx_Run p l e R s m args below meth c H locs cells slots 1 6 (F0 m pc ls st0) rest (fun _ _ _ => False) (vx_X (fun _ : Unit => True) (fun E _ t => XE E ∧ va_P D vwCl wc t.heap) (va_A wc H.size)) (va_A wc H.size)) (hX : ∀ E, XE E → XE' E) (htab : ∀ x ∈ c.exceptionTable.toList, False) (hlocks : meth.locks = false) :
    W p l e R s m args below meth c H locs cells slots (vx_MQ below Qf (vx_X (fun _ : Unit => True) (fun E _ t => XE' E ∧ va_P D vwCl (pre ++ (wc ++ pos)) t.heap) A) args s (cells + 1) (slots + 6) A) (F0 m pc ls st0) := by
  intro T hT X
  rcases hr T hT X with ⟨v, st₀, t, T', L, h0, X', hL, e1, e2, hq, st⟩ | ⟨q, st₀, t, T', L, E, ce, h0, X', hL, e1, e2, ⟨u, hp, hb, hF⟩, hce, hcv, hcl, st⟩
  · exact hq.elim
  · obtain ⟨k1, k2, k3⟩ := vx_keep h0 e1 hS (fun q _ h => mid_free hD hS hA q h) (mid_free hD hS hA) hL hF
    have hb2 : va_P D vwCl wc T'.heap := by rw [e1]; exact hb.2
    obtain ⟨t2, a1, b1⟩ := vx_out (p := p) (l := l) (e := e) (R := R) (s := s) (m := m) (args := args) (below := below) (meth := meth) (c := c) (H := T'.heap) (locs := locs ++ L) (cells := cells + 1) (slots := slots + 6) (Qc := Qf) (XC := vx_X (fun _ : Unit => True) (fun E _ t => XE' E ∧ va_P D vwCl (pre ++ (wc ++ pos)) t.heap) A) (free := A) (ls := ls) (rest := rest) (pc := pc) (mc := cells + 1) (ms := slots + 6) (fun x hx => (htab x hx).elim) hlocks (by rw [e1]; exact hce) hcv hcl (fun t ht hvm => ⟨(), trivial, ⟨hX E hb.1, by rw [ht]; exact P_join hP hD k2 hb2⟩, k3.F ht⟩) k3.2.2 (Nat.le_refl _) (Nat.le_refl _) T' rfl X'
    exact ⟨t2, st.trans a1, b1⟩
/-- the throw statement -/
theorem thr {cls text : String} {ik is ic : Nat} (k : Nat) (hexec : p.tables.exec = Jvm.exec) (hb : c.code = cc) (hst : l.stackTraces = false) (hown : s.vm.findClass "SedgeBarges" = some m.cls) (hE : En sa tb D cA cL A s s.heap) (hcls : Bundle.fit cls = true)
    (hk : (Cond.classLink "SedgeBarges" ik cls).before args s = true) (hini : (Cond.initialized cls).before args s = true) (hs : sT[k]? = some ("SedgeBarges", is, text)) (hcast : (cls, cls) ∈ cW)
    (hat : ∀ w ∈ (vx_atS "SedgeBarges" ic cls ["java/lang/RuntimeException", "java/lang/Exception"]).filter goodWord, w.before args s = true)
    (hb2 : ∀ w ∈ (vx_atS "SedgeBarges" ic cls ["java/lang/RuntimeException", "java/lang/Exception"]).filter (fun w => !goodWord w), w ∈ (Cond.castable cls cls :: dW.map Cond.declares))
    (hgood : ∀ w ∈ Cond.classLink "SedgeBarges" ik cls :: Cond.initialized cls :: vx_atS "SedgeBarges" ic cls ["java/lang/RuntimeException", "java/lang/Exception"], vx_ot w = true)
    (hP : va_P D vwCl ws H) (hS : va_S A s.heap H locs) (hX : XE cls) (hsize : ls.size = c.maxLocals)
    (d0 : decode cc pc = .ok (.new ik, 3)) (d3 : decode cc (pc + 3) = .ok (.dup, 1)) (d4 : decode cc (pc + 4) = .ok (.ldc is, 2)) (d6 : decode cc (pc + 6) = .ok (.invokespecial ic, 3)) (d9 : decode cc (pc + 9) = .ok (.athrow, 1))
    (htab : ∀ x ∈ c.exceptionTable.toList, False) (hRframes : 5 < R.frames) (hRlocals : (rest.map fun v => v.category).sum + 82 ≤ R.locals) (hRcells : 0 + 1 ≤ R.cells) (hRslots : 0 + 6 ≤ R.slots) (hlocks : meth.locks = false) :
    W p l e R s m args below meth c H locs 0 0 (vx_MQ below Qf (vx_X (fun _ : Unit => True) (fun E _ t => XE E ∧ va_P D vwCl ws t.heap) A) args s 1 6 A) (F0 m pc ls rest) := by
  have h3 : ∀ w ∈ (Cond.castable cls cls :: dW.map Cond.declares), w.before args s = true := by
    intro w hw
    rcases List.mem_cons.mp hw with h | h
    · rw [h]; exact va_Nw.use rfl (hE.2.2.2.2.2.1 (cls, cls) hcast)
    · obtain ⟨q, hq, hw2⟩ := List.mem_map.mp h
      rw [← hw2]; exact va_Nw.use rfl (hE.2.2.2.2.1 q hq)
  refine vx_throwS (names := ["java/lang/RuntimeException", "java/lang/Exception"]) hexec hb hst hown hcls (by decide +kernel) hk hini (hE.2.2.2.1 k _ hs) (vx_hat hat hb2 h3) hgood hE.2.2.2.2.2.2.2.2.1 hE.2.2.2.2.2.2.2.2.2 hS hsize d0 d3 d4 d6 d9 (fun x hx => (htab x hx).elim) hRframes hRlocals hRcells hRslots hlocks (fun t hvm hz hk => ⟨(), trivial, ⟨hX, hP.kept (fun k q hq => hk q.1 (hP k q hq).lt)⟩, ⟨Nat.le_trans hS.1 hz, fun q h1 h2 => (hk q (Nat.lt_of_lt_of_le h1 hS.1)).trans (hS.2.1 q h1 h2)⟩⟩) hS.2.2 (Nat.le_refl _) (Nat.le_refl _)
/-- arrays by a number of Nat -/
theorem r_ald (hexec : p.tables.exec = Jvm.exec) (hb : c.code = cc) (hE : En sa tb D cA cL A s s.heap) (hP : va_P D vwCl ws H) (q0 k : Nat) {a N : Nat} {f : Nat → Int32} {i v : Int32} (ha : ws[q0]? = some (a, I_ cA N f)) (hi : i = nI k) (hk : k < N) (hN : N < 2 ^ 31) (hv : f k = v) (hdg : decode cc pc = .ok (.iaload, 1))
    (kk : W p l e R s m args below meth c H locs cells slots Q (F0 m (pc + 1) ls (.int v :: rest))) : W p l e R s m args below meth c H locs cells slots Q (F0 m pc ls (.int i :: .ref a :: rest)) := by
  subst hi
  subst hv
  refine va_iald hexec hb hE.K hP q0 0 ha rfl (vp_in_nI hk hN) hdg ?_
  rw [nI_clamp (Nat.lt_trans hk hN)]
  exact kk
theorem r_ast (hexec : p.tables.exec = Jvm.exec) (hb : c.code = cc) (hE : En sa tb D cA cL A s s.heap) (hP : va_P D vwCl ws H) (hD : va_D A ws) {H0 : Heap} (hS : va_S A H0 H locs) (q0 k : Nat) {a N : Nat} {f g : Nat → Int32} {i x : Int32} (ha : ws[q0]? = some (a, I_ cA N f)) (hi : i = nI k) (hk : k < N) (hN : N < 2 ^ 31) (hg : upd f k x = g) (hdg : decode cc pc = .ok (.iastore, 1))
    (kk : ∀ (H1 : Heap) (locs1 : List Loc), va_P D vwCl (ws.set q0 (a, I_ cA N g)) H1 → va_D A (ws.set q0 (a, I_ cA N g)) → va_S A H0 H1 locs1 → W p l e R s m args below meth c H1 locs1 cells slots Q (F0 m (pc + 1) ls rest)) : W p l e R s m args below meth c H locs cells slots Q (F0 m pc ls (.int x :: .int i :: .ref a :: rest)) := by
  subst hi
  subst hg
  refine va_iast hexec hb hE.K hP hD hS q0 0 ha rfl (vp_in_nI hk hN) hdg ?_
  rw [nI_clamp (Nat.lt_trans hk hN)]
  exact kk
theorem r_tld (hexec : p.tables.exec = Jvm.exec) (hb : c.code = cc) {Cn nn : String} {N t : Nat} {f : Nat → Int32} (hT : Tab Cn nn N f t A s s.heap) (hS : va_S A s.heap H locs) (k : Nat) {i v : Int32} (hi : i = nI k) (hk : k < N) (hN : N < 2 ^ 31) (hv : f k = v) (hdg : decode cc pc = .ok (.iaload, 1))
    (kk : W p l e R s m args below meth c H locs cells slots Q (F0 m (pc + 1) ls (.int v :: rest))) : W p l e R s m args below meth c H locs cells slots Q (F0 m pc ls (.int i :: .ref t :: rest)) := by
  subst hi
  subst hv
  exact va_ti hexec hb hT.2 hS (vp_in_nI hk hN) (by rw [nI_clamp (Nat.lt_trans hk hN)]) hdg kk
theorem r_ge {off : Int} {tgt : Nat} {a b : Nat} (hexec : p.tables.exec = Jvm.exec) (hb : c.code = cc) (ha : a < 2 ^ 31) (hb2 : b < 2 ^ 31) (hdg : decode cc pc = .ok (.if_icmp .ge off, 3)) (ht : (pc : Int) + off = (tgt : Int))
    (kt : b ≤ a → W p l e R s m args below meth c H locs cells slots Q (F0 m tgt ls rest)) (kf : a < b → W p l e R s m args below meth c H locs cells slots Q (F0 m (pc + 3) ls rest)) : W p l e R s m args below meth c H locs cells slots Q (F0 m pc ls (.int (nI b) :: .int (nI a) :: rest)) :=
  lv_icmp_ge hexec hb hdg ht (fun h => kt ((nI_leI hb2 ha).mp h)) (fun h => kf (Nat.lt_of_not_le (fun q => h ((nI_leI hb2 ha).mpr q))))
end LAY3
section LAY4
variable {p : Program} {l : Launch} {e : Env} {R : Room} {s : State} {m : MethodId} {args : Array Value} {below : List Frame} {meth : Method} {c : Code} {H : Heap} {locs : List Loc} {cells slots : Nat} {Q : State → Prop} {cc : ByteArray} {rest : List Value} {pc : Nat} {ls : Array Slot}
theorem rc_lt {off : Int} {tgt a b : Nat} (hexec : p.tables.exec = Jvm.exec) (hb : c.code = cc) (ha : a < 2 ^ 31) (hb2 : b < 2 ^ 31) (hdg : decode cc pc = .ok (.if_icmp .lt off, 3)) (ht : (pc : Int) + off = (tgt : Int)) (kt : a < b → W p l e R s m args below meth c H locs cells slots Q (F0 m tgt ls rest)) (kf : ¬ a < b → W p l e R s m args below meth c H locs cells slots Q (F0 m (pc + 3) ls rest)) : W p l e R s m args below meth c H locs cells slots Q (F0 m pc ls (.int (nI b) :: .int (nI a) :: rest)) :=
  lv_icmp_lt hexec hb hdg ht (fun h => kt ((nI_ltI ha hb2).mp h)) (fun h => kf (fun q => h ((nI_ltI ha hb2).mpr q)))
theorem rc_le {off : Int} {tgt a b : Nat} (hexec : p.tables.exec = Jvm.exec) (hb : c.code = cc) (ha : a < 2 ^ 31) (hb2 : b < 2 ^ 31) (hdg : decode cc pc = .ok (.if_icmp .le off, 3)) (ht : (pc : Int) + off = (tgt : Int)) (kt : a ≤ b → W p l e R s m args below meth c H locs cells slots Q (F0 m tgt ls rest)) (kf : ¬ a ≤ b → W p l e R s m args below meth c H locs cells slots Q (F0 m (pc + 3) ls rest)) : W p l e R s m args below meth c H locs cells slots Q (F0 m pc ls (.int (nI b) :: .int (nI a) :: rest)) :=
  lv_icmp_le hexec hb hdg ht (fun h => kt ((nI_leI ha hb2).mp h)) (fun h => kf (fun q => h ((nI_leI ha hb2).mpr q)))
theorem rc_gt {off : Int} {tgt a b : Nat} (hexec : p.tables.exec = Jvm.exec) (hb : c.code = cc) (ha : a < 2 ^ 31) (hb2 : b < 2 ^ 31) (hdg : decode cc pc = .ok (.if_icmp .gt off, 3)) (ht : (pc : Int) + off = (tgt : Int)) (kt : b < a → W p l e R s m args below meth c H locs cells slots Q (F0 m tgt ls rest)) (kf : ¬ b < a → W p l e R s m args below meth c H locs cells slots Q (F0 m (pc + 3) ls rest)) : W p l e R s m args below meth c H locs cells slots Q (F0 m pc ls (.int (nI b) :: .int (nI a) :: rest)) :=
  lv_icmp_gt hexec hb hdg ht (fun h => kt ((nI_ltI hb2 ha).mp h)) (fun h => kf (fun q => h ((nI_ltI hb2 ha).mpr q)))
theorem rc_ge {off : Int} {tgt a b : Nat} (hexec : p.tables.exec = Jvm.exec) (hb : c.code = cc) (ha : a < 2 ^ 31) (hb2 : b < 2 ^ 31) (hdg : decode cc pc = .ok (.if_icmp .ge off, 3)) (ht : (pc : Int) + off = (tgt : Int)) (kt : b ≤ a → W p l e R s m args below meth c H locs cells slots Q (F0 m tgt ls rest)) (kf : ¬ b ≤ a → W p l e R s m args below meth c H locs cells slots Q (F0 m (pc + 3) ls rest)) : W p l e R s m args below meth c H locs cells slots Q (F0 m pc ls (.int (nI b) :: .int (nI a) :: rest)) :=
  lv_icmp_ge hexec hb hdg ht (fun h => kt ((nI_leI hb2 ha).mp h)) (fun h => kf (fun q => h ((nI_leI hb2 ha).mpr q)))
theorem rc_eq {off : Int} {tgt a b : Nat} (hexec : p.tables.exec = Jvm.exec) (hb : c.code = cc) (ha : a < 2 ^ 31) (hb2 : b < 2 ^ 31) (hdg : decode cc pc = .ok (.if_icmp .eq off, 3)) (ht : (pc : Int) + off = (tgt : Int)) (kt : a = b → W p l e R s m args below meth c H locs cells slots Q (F0 m tgt ls rest)) (kf : ¬ a = b → W p l e R s m args below meth c H locs cells slots Q (F0 m (pc + 3) ls rest)) : W p l e R s m args below meth c H locs cells slots Q (F0 m pc ls (.int (nI b) :: .int (nI a) :: rest)) :=
  lv_icmp_eq hexec hb hdg ht (fun h => kt ((nI_eq ha hb2).mp h)) (fun h => kf (fun q => h ((nI_eq ha hb2).mpr q)))
theorem rc_ne {off : Int} {tgt a b : Nat} (hexec : p.tables.exec = Jvm.exec) (hb : c.code = cc) (ha : a < 2 ^ 31) (hb2 : b < 2 ^ 31) (hdg : decode cc pc = .ok (.if_icmp .ne off, 3)) (ht : (pc : Int) + off = (tgt : Int)) (kt : a ≠ b → W p l e R s m args below meth c H locs cells slots Q (F0 m tgt ls rest)) (kf : ¬ a ≠ b → W p l e R s m args below meth c H locs cells slots Q (F0 m (pc + 3) ls rest)) : W p l e R s m args below meth c H locs cells slots Q (F0 m pc ls (.int (nI b) :: .int (nI a) :: rest)) :=
  lv_icmp_ne hexec hb hdg ht (fun h => kt (fun q => h ((nI_eq ha hb2).mpr q))) (fun h => kf (fun q => q ((nI_eq ha hb2).mp h)))
theorem rz_ne {off : Int} {tgt a : Nat} (hexec : p.tables.exec = Jvm.exec) (hb : c.code = cc) (ha : a < 2 ^ 31) (hdg : decode cc pc = .ok (.ifCond .ne off, 3)) (ht : (pc : Int) + off = (tgt : Int)) (kt : a ≠ 0 → W p l e R s m args below meth c H locs cells slots Q (F0 m tgt ls rest)) (kf : a = 0 → W p l e R s m args below meth c H locs cells slots Q (F0 m (pc + 3) ls rest)) : W p l e R s m args below meth c H locs cells slots Q (F0 m pc ls (.int (nI a) :: rest)) :=
  lv_if_ne hexec hb hdg ht (fun h => kt (fun q => h (by rw [q]; exact nI_0))) (fun h => kf (Nat.eq_zero_of_not_pos (fun q => nI_ne0 q ha h)))
def imax (a b : Int32) : Int32 := if a < b then b else a
def imin (a b : Int32) : Int32 := if b < a then b else a
def iabs (x : Int32) : Int32 := if 0 ≤ x then x else 0 - x
def irem (x y : Int32) : Int32 := x - x / y * y
theorem r_mmax (hexec : p.tables.exec = Jvm.exec) (hb : c.code = cc) (hml : c.maxLocals = ls.size) {own : String} {index : Nat} (hown : s.vm.findClass own = some m.cls) (hlink : (Cond.methodLink own index Lib.Math.max.name).before args s = true) (hstat : (Cond.static Lib.Math.max.name).before args s = true) (hini : (Cond.initialized "java/lang/Math").before args s = true) (hcode : (Cond.code Lib.Math.max.name Lib.Math.max.code 2 (some .int)).before args s = true) (hframes : 1 ≤ R.frames) (hlocals : (rest.map fun v => v.category).sum + 13 ≤ R.locals) (hc : cells ≤ R.cells) (hs : slots ≤ R.slots) {x y : Int32} (hdg : decode cc pc = .ok (.invokestatic index, 3)) (kk : W p l e R s m args below meth c H locs cells slots Q (F0 m (pc + 3) ls (.int (imax x y) :: rest))) : W p l e R s m args below meth c H locs cells slots Q (F0 m pc ls (.int y :: .int x :: rest)) := va_mmax hexec hb hml hown hlink hstat hini hcode hframes hlocals hc hs hdg kk
theorem r_mmin (hexec : p.tables.exec = Jvm.exec) (hb : c.code = cc) (hml : c.maxLocals = ls.size) {own : String} {index : Nat} (hown : s.vm.findClass own = some m.cls) (hlink : (Cond.methodLink own index Lib.Math.min.name).before args s = true) (hstat : (Cond.static Lib.Math.min.name).before args s = true) (hini : (Cond.initialized "java/lang/Math").before args s = true) (hcode : (Cond.code Lib.Math.min.name Lib.Math.min.code 2 (some .int)).before args s = true) (hframes : 1 ≤ R.frames) (hlocals : (rest.map fun v => v.category).sum + 13 ≤ R.locals) (hc : cells ≤ R.cells) (hs : slots ≤ R.slots) {x y : Int32} (hdg : decode cc pc = .ok (.invokestatic index, 3)) (kk : W p l e R s m args below meth c H locs cells slots Q (F0 m (pc + 3) ls (.int (imin x y) :: rest))) : W p l e R s m args below meth c H locs cells slots Q (F0 m pc ls (.int y :: .int x :: rest)) := va_mmin hexec hb hml hown hlink hstat hini hcode hframes hlocals hc hs hdg kk
theorem r_mabs (hexec : p.tables.exec = Jvm.exec) (hb : c.code = cc) (hml : c.maxLocals = ls.size) {own : String} {index : Nat} (hown : s.vm.findClass own = some m.cls) (hlink : (Cond.methodLink own index Lib.Math.abs.name).before args s = true) (hstat : (Cond.static Lib.Math.abs.name).before args s = true) (hini : (Cond.initialized "java/lang/Math").before args s = true) (hcode : (Cond.code Lib.Math.abs.name Lib.Math.abs.code 1 (some .int)).before args s = true) (hframes : 1 ≤ R.frames) (hlocals : (rest.map fun v => v.category).sum + 13 ≤ R.locals) (hc : cells ≤ R.cells) (hs : slots ≤ R.slots) {x : Int32} (hdg : decode cc pc = .ok (.invokestatic index, 3)) (kk : W p l e R s m args below meth c H locs cells slots Q (F0 m (pc + 3) ls (.int (iabs x) :: rest))) : W p l e R s m args below meth c H locs cells slots Q (F0 m pc ls (.int x :: rest)) := va_mabs hexec hb hml hown hlink hstat hini hcode hframes hlocals hc hs hdg kk
theorem r_irem (hexec : p.tables.exec = Jvm.exec) (hb : c.code = cc) {x y : Int32} (hdg : decode cc pc = .ok (.irem, 1)) (hne : ¬ y = 0) (kk : W p l e R s m args below meth c H locs cells slots Q (F0 m (pc + 1) ls (.int (irem x y) :: rest))) : W p l e R s m args below meth c H locs cells slots Q (F0 m pc ls (.int y :: .int x :: rest)) := lv_irem hexec hb hdg hne kk
theorem rn_add {a b : Nat} (hexec : p.tables.exec = Jvm.exec) (hb : c.code = cc) (hdg : decode cc pc = .ok (.iadd, 1)) (k : W p l e R s m args below meth c H locs cells slots Q (F0 m (pc + 1) ls (.int (nI (a + b)) :: rest))) : W p l e R s m args below meth c H locs cells slots Q (F0 m pc ls (.int (nI b) :: .int (nI a) :: rest)) := lv_iadd hexec hb hdg (by rw [nI_add]; exact k)
theorem rn_mul {a b : Nat} (hexec : p.tables.exec = Jvm.exec) (hb : c.code = cc) (hdg : decode cc pc = .ok (.imul, 1)) (k : W p l e R s m args below meth c H locs cells slots Q (F0 m (pc + 1) ls (.int (nI (a * b)) :: rest))) : W p l e R s m args below meth c H locs cells slots Q (F0 m pc ls (.int (nI b) :: .int (nI a) :: rest)) := lv_imul hexec hb hdg (by rw [pk_mul]; exact k)
theorem rn_div {a b : Nat} (hexec : p.tables.exec = Jvm.exec) (hb : c.code = cc) (ha : a < 2 ^ 31) (h0 : 0 < b) (hb2 : b < 2 ^ 31) (hdg : decode cc pc = .ok (.idiv, 1)) (k : W p l e R s m args below meth c H locs cells slots Q (F0 m (pc + 1) ls (.int (nI (a / b)) :: rest))) : W p l e R s m args below meth c H locs cells slots Q (F0 m pc ls (.int (nI b) :: .int (nI a) :: rest)) := lv_idiv hexec hb hdg (nI_ne0 h0 hb2) (by rw [pk_div ha h0 hb2]; exact k)
theorem rn_rem {a b : Nat} (hexec : p.tables.exec = Jvm.exec) (hb : c.code = cc) (ha : a < 2 ^ 31) (h0 : 0 < b) (hb2 : b < 2 ^ 31) (hdg : decode cc pc = .ok (.irem, 1)) (k : W p l e R s m args below meth c H locs cells slots Q (F0 m (pc + 1) ls (.int (nI (a % b)) :: rest))) : W p l e R s m args below meth c H locs cells slots Q (F0 m pc ls (.int (nI b) :: .int (nI a) :: rest)) := lv_irem hexec hb hdg (nI_ne0 h0 hb2) (by rw [pk_rem ha h0 hb2]; exact k)
end LAY4
theorem iinc1 (i : Nat) : nI i + Int32.ofInt 1 = nI (i + 1) := by
  rw [show Int32.ofInt 1 = (1 : Int32) from by decide]; exact nI_1 i
theorem throw_I : (∀ w ∈ (vx_atS "SedgeBarges" 165 X_I ["java/lang/RuntimeException", "java/lang/Exception"]).filter (fun w => !goodWord w), w ∈ (Cond.castable X_I X_I :: dW.map Cond.declares)) ∧ (∀ w ∈ Cond.classLink "SedgeBarges" 161 X_I :: Cond.initialized X_I :: vx_atS "SedgeBarges" 165 X_I ["java/lang/RuntimeException", "java/lang/Exception"], vx_ot w = true) := by decide +kernel
theorem throw_A : (∀ w ∈ (vx_atS "SedgeBarges" 27 X_A ["java/lang/RuntimeException", "java/lang/Exception"]).filter (fun w => !goodWord w), w ∈ (Cond.castable X_A X_A :: dW.map Cond.declares)) ∧ (∀ w ∈ Cond.classLink "SedgeBarges" 23 X_A :: Cond.initialized X_A :: vx_atS "SedgeBarges" 27 X_A ["java/lang/RuntimeException", "java/lang/Exception"], vx_ot w = true) := by decide +kernel
theorem throw_S : (∀ w ∈ (vx_atS "SedgeBarges" 46 X_S ["java/lang/RuntimeException", "java/lang/Exception"]).filter (fun w => !goodWord w), w ∈ (Cond.castable X_S X_S :: dW.map Cond.declares)) ∧ (∀ w ∈ Cond.classLink "SedgeBarges" 42 X_S :: Cond.initialized X_S :: vx_atS "SedgeBarges" 46 X_S ["java/lang/RuntimeException", "java/lang/Exception"], vx_ot w = true) := by decide +kernel
theorem noTrace {l : Launch} (h : l.flags = flags0) : l.stackTraces = false := by
  unfold Launch.stackTraces
  rw [h]
  decide +kernel
end
section
/-! 04: what the objects are, and what they do, in numbers -/
abbrev wBeds (cA : ClassId) (h : Nat) (u : Nat → Nat) (n : Nat) (B : Nat → Nat → Int32) (ch : Nat → Int32) : va_W := [(h, .inr (1, [.int (nI n), .ref (u 0), .ref (u 1), .ref (u 2), .ref (u 3), .ref (u 4), .ref (u 5), .ref (u 6), .ref (u 7), .ref (u 8)])), (u 0, I_ cA 8 (B 0)), (u 1, I_ cA 8 (B 1)), (u 2, I_ cA 8 (B 2)), (u 3, I_ cA 8 (B 3)), (u 4, I_ cA 8 (B 4)), (u 5, I_ cA 8 (B 5)), (u 6, I_ cA 8 (B 6)), (u 7, I_ cA 8 (B 7)), (u 8, I_ cA 8 ch)]
abbrev wBars (cA : ClassId) (h : Nat) (v : Nat → Nat) (nb : Nat) (G : Nat → Nat → Int32) : va_W := [(h, .inr (0, [.int (nI nb), .ref (v 0), .ref (v 1), .ref (v 2), .ref (v 3), .ref (v 4)])), (v 0, I_ cA 3 (G 0)), (v 1, I_ cA 3 (G 1)), (v 2, I_ cA 3 (G 2)), (v 3, I_ cA 3 (G 3)), (v 4, I_ cA 3 (G 4))]
abbrev wLand (cA : ClassId) (h : Nat) (w : Nat) (T : Nat → Int32) : va_W := [(h, .inr (2, [.ref w])), (w, I_ cA 3 T)]
abbrev oWay (a : Nat → Nat) (dy co ti ro : Int32) : Nat × va_E := (a 0, .inr (3, [.int dy, .int co, .int ti, .int ro, .ref (a 1), .ref (a 2), .ref (a 3)]))
abbrev wWay (cA : ClassId) (a : Nat → Nat) (dy co ti ro : Int32) (u : Nat → Nat) (n : Nat) (B : Nat → Nat → Int32) (ch : Nat → Int32) (v : Nat → Nat) (nb : Nat) (G : Nat → Nat → Int32) (w : Nat) (T : Nat → Int32) : va_W := oWay a dy co ti ro :: (wBeds cA (a 1) u n B ch ++ (wBars cA (a 2) v nb G ++ wLand cA (a 3) w T))
abbrev oX (hx : Nat) (a a2 : Nat → Nat) : Nat × va_E := (hx, .inr (4, [.ref (a 0), .ref (a2 0)]))
abbrev wX (cA : ClassId) (hx : Nat) (a : Nat → Nat) (dy co ti ro : Int32) (u : Nat → Nat) (n : Nat) (B : Nat → Nat → Int32) (ch : Nat → Int32) (v : Nat → Nat) (nb : Nat) (G : Nat → Nat → Int32) (w : Nat) (T : Nat → Int32) (a2 : Nat → Nat) (dy2 co2 ti2 ro2 : Int32) (u2 : Nat → Nat) (n2 : Nat) (B2 : Nat → Nat → Int32) (ch2 : Nat → Int32) (v2 : Nat → Nat) (nb2 : Nat) (G2 : Nat → Nat → Int32) (w2 : Nat) (T2 : Nat → Int32) : va_W := oX hx a a2 :: (wWay cA a dy co ti ro u n B ch v nb G w T ++ wWay cA a2 dy2 co2 ti2 ro2 u2 n2 B2 ch2 v2 nb2 G2 w2 T2)
/-- the reference's rows: a bed's (a barge's) figures side by side -/
def pkB (B : Nat → Nat → Int32) : Nat → Int32 := fun i => B (i % 8) (i / 8)
def pkG (G : Nat → Nat → Int32) : Nat → Int32 := fun i => G (i % 5) (i / 5)
abbrev oMod (h : Nat) (mm : Nat → Nat) (th dy co ti ro : Int32) (n nb : Nat) : Nat × va_E := (h, .inr (5, [.int th, .int dy, .int co, .int ti, .int ro, .int (nI n), .int (nI nb), .ref (mm 0), .ref (mm 1), .ref (mm 2), .ref (mm 3), .ref (mm 4), .ref (mm 5), .ref (mm 6)]))
abbrev wMod (cA : ClassId) (h : Nat) (mm : Nat → Nat) (th dy co ti ro : Int32) (n nb : Nat) (B G : Nat → Nat → Int32) (T : Nat → Int32) (BA GA : Nat → Nat → Int32) (TA mo : Nat → Int32) : va_W := [oMod h mm th dy co ti ro n nb, (mm 0, I_ cA 64 (pkB B)), (mm 1, I_ cA 15 (pkG G)), (mm 2, I_ cA 3 T), (mm 3, I_ cA 64 (pkB BA)), (mm 4, I_ cA 15 (pkG GA)), (mm 5, I_ cA 3 TA), (mm 6, I_ cA 8 mo)]
abbrev wRws (cA : ClassId) (h : Nat) (mm : Nat → Nat) (th dy co ti ro : Int32) (n nb : Nat) (xb xg xt : Nat) (B G : Nat → Nat → Int32) (T mo : Nat → Int32) : va_W := [oMod h mm th dy co ti ro n nb, (xb, I_ cA 64 (pkB B)), (xg, I_ cA 15 (pkG G)), (xt, I_ cA 3 T), (mm 6, I_ cA 8 mo)]
def st (B : Nat → Nat → Int32) (j k : Nat) (x : Int32) : Nat → Nat → Int32 := va_up B j (upd (B j) k x)
theorem st_ne {B : Nat → Nat → Int32} {j0 i : Nat} {x : Int32} {j k : Nat} (h : k ≠ i) : st B j0 i x j k = B j k := by
  unfold st va_up upd
  by_cases hj : j = j0 <;> simp [hj, h]
theorem st_eq {B : Nat → Nat → Int32} {j0 i : Nat} {x : Int32} {j : Nat} : st B j0 i x j i = if j = j0 then x else B j i := by
  unfold st va_up upd
  by_cases hj : j = j0 <;> simp [hj]
theorem st_col {B : Nat → Nat → Int32} {j0 i : Nat} {x : Int32} {j k : Nat} (h : j ≠ j0) : st B j0 i x j k = B j k := by
  unfold st va_up
  simp [h]
theorem st_colE {B B' : Nat → Nat → Int32} {j0 i : Nat} {x : Int32} {j k : Nat} (e : st B j0 i x = B') (h : j ≠ j0) : B' j k = B j k := by
  rw [← e]; exact st_col h
theorem pkB_at {B : Nat → Nat → Int32} (j k : Nat) (hj : j < 8) : pkB B (8 * k + j) = B j k := by
  unfold pkB
  rw [show (8 * k + j) % 8 = j by omega, show (8 * k + j) / 8 = k by omega]
theorem pkG_at {G : Nat → Nat → Int32} (j k : Nat) (hj : j < 5) : pkG G (5 * k + j) = G j k := by
  unfold pkG
  rw [show (5 * k + j) % 5 = j by omega, show (5 * k + j) / 5 = k by omega]
theorem pkB_up {B : Nat → Nat → Int32} (j k : Nat) (x : Int32) (hj : j < 8) : upd (pkB B) (8 * k + j) x = pkB (st B j k x) := by
  funext i
  unfold upd pkB st va_up upd
  by_cases h : i = 8 * k + j
  · subst h
    rw [show (8 * k + j) % 8 = j by omega, show (8 * k + j) / 8 = k by omega]
    simp
  · by_cases h1 : i % 8 = j
    · have h2 : ¬ i / 8 = k := by omega
      simp [h, h1, h2]
    · simp [h, h1]
theorem pkG_up {G : Nat → Nat → Int32} (j k : Nat) (x : Int32) (hj : j < 5) : upd (pkG G) (5 * k + j) x = pkG (st G j k x) := by
  funext i
  unfold upd pkG st va_up upd
  by_cases h : i = 5 * k + j
  · subst h
    rw [show (5 * k + j) % 5 = j by omega, show (5 * k + j) / 5 = k by omega]
    simp
  · by_cases h1 : i % 5 = j
    · have h2 : ¬ i / 5 = k := by omega
      simp [h, h1, h2]
    · simp [h, h1]
/-- a map over the columns of the first n beds (barges) -/
def cl_ (B : Nat → Nat → Int32) (k : Nat) : Nat → Int32 := fun j => B j k
def mapC (f : Nat → (Nat → Int32) → Nat → Int32) (n : Nat) (B : Nat → Nat → Int32) : Nat → Nat → Int32 := fun j k => if k < n then f k (cl_ B k) j else B j k
theorem mapC_0 {f : Nat → (Nat → Int32) → Nat → Int32} {B : Nat → Nat → Int32} : mapC f 0 B = B := by
  funext j k
  unfold mapC
  simp
theorem mapC_ge {f : Nat → (Nat → Int32) → Nat → Int32} {B : Nat → Nat → Int32} {n j k : Nat} (h : n ≤ k) : mapC f n B j k = B j k := by
  unfold mapC
  rw [if_neg (by omega)]
theorem mapC_lt {f : Nat → (Nat → Int32) → Nat → Int32} {B : Nat → Nat → Int32} {n j k : Nat} (h : k < n) : mapC f n B j k = f k (cl_ B k) j := by
  unfold mapC
  rw [if_pos h]
theorem mapC_step {f : Nat → (Nat → Int32) → Nat → Int32} {B B' : Nat → Nat → Int32} {i : Nat} (h1 : ∀ j k, k ≠ i → B' j k = mapC f i B j k) (h2 : ∀ j, B' j i = f i (cl_ B i) j) : B' = mapC f (i + 1) B := by
  funext j k
  by_cases hk : k = i
  · subst hk
    rw [h2, mapC_lt (Nat.lt_succ_self _)]
  · rw [h1 j k hk]
    by_cases hl : k < i
    · rw [mapC_lt hl, mapC_lt (by omega)]
    · rw [mapC_ge (by omega), mapC_ge (by omega)]
def sumF (f : Nat → Int32) : Nat → Int32
  | 0 => 0
  | i + 1 => sumF f i + f i
def tenth (x : Int32) : Int32 := (x + 9) / 10
def twent (x : Int32) : Int32 := (x + 19) / 20
def gro (a : Int32) : Int32 := growF a.toNatClampNeg
def given (B : Nat → Nat → Int32) (k : Nat) : Int32 := 3 * B 1 k * gro (B 2 k)
def sgiv (B : Nat → Nat → Int32) (k : Nat) : Int32 := given B k * B 3 k / 100
def landAt (x : Int32) : Int32 := if 2 = x then 0 else if 15 = x then 1 else if 28 = x then 2 else -1
def sPrice (T : Nat → Int32) (k : Nat) : Int32 := imax 1 (woF k - T k / 25)
def rPrice (T : Nat → Int32) (k : Nat) : Int32 := imax 1 (sPrice T k / 2)
def chgA (a : Int32) : Int32 := if 6 ≤ a then -6 else if 1 ≤ a then 2 else 0
def crp1 (B : Nat → Nat → Int32) (k i : Nat) : Bool := decide (iabs (B 0 i - B 0 k) ≤ 4) && decide (30 ≤ B 3 k - B 3 i)
def crp (B : Nat → Nat → Int32) (k : Nat) : Nat → Bool
  | 0 => false
  | i + 1 => crp B k i || crp1 B k i
def chF (B : Nat → Nat → Int32) (n k : Nat) : Int32 := chgA (B 2 k) - (if crp B k n then 3 else 0)
def yearC (f : Nat → Int32) (k : Nat) (c : Nat → Int32) (j : Nat) : Int32 := if j = 2 then imin 9 (c 2 + 1) else if j = 3 then imax 0 (imin 100 (c 3 + f k)) else c j
def yearB (n : Nat) (B : Nat → Nat → Int32) : Nat → Nat → Int32 := mapC (yearC (chF B n)) n B
def rotC (_ : Nat) (c : Nat → Int32) (j : Nat) : Int32 := if j = 5 then c 5 - tenth (c 5) else if j = 4 then c 4 - tenth (c 4) else c j
def rotB (n : Nat) (B : Nat → Nat → Int32) : Nat → Nat → Int32 := mapC rotC n B
def rotF (B : Nat → Nat → Int32) (k : Nat) : Int32 := tenth (B 4 k) + tenth (B 5 k)
def goTo (c : Nat → Int32) : Int32 := c 0 + imax (-5) (imin 5 (c 1 - c 0))
def sailC (_ : Nat) (c : Nat → Int32) (j : Nat) : Int32 := if c 1 = -1 then c j else if j = 1 then (if goTo c = c 1 then -1 else c 1) else if j = 0 then goTo c else c j
def sailG (nb : Nat) (G : Nat → Nat → Int32) : Nat → Nat → Int32 := mapC sailC nb G
def cpC (W : Nat) (S : Nat → Nat → Int32) (k : Nat) (c : Nat → Int32) (j : Nat) : Int32 := if j < W then S j k else c j
def cpB (n : Nat) (B B2 : Nat → Nat → Int32) : Nat → Nat → Int32 := mapC (cpC 8 B) n B2
def cpG (nb : Nat) (G G2 : Nat → Nat → Int32) : Nat → Nat → Int32 := mapC (cpC 5 G) nb G2
def th1 (T : Nat → Int32) : Nat → Int32 := upd T 0 (T 0 - twent (T 0))
def th2 (T : Nat → Int32) : Nat → Int32 := upd (th1 T) 1 (th1 T 1 - twent (th1 T 1))
def thT (T : Nat → Int32) : Nat → Int32 := upd (th2 T) 2 (th2 T 2 - twent (th2 T 2))
def cutB (B : Nat → Nat → Int32) (k : Nat) : Nat → Nat → Int32 := st (st (st B 4 k (B 4 k + sgiv B k)) 5 k (B 5 k + (given B k - sgiv B k))) 2 k 0
def tieS (B : Nat → Nat → Int32) (k : Nat) (ti : Int32) : Int32 := imin (B 4 k) ti
def tieR (B : Nat → Nat → Int32) (k : Nat) (ti : Int32) : Int32 := imin (B 5 k) (ti - tieS B k ti)
def tieB (B : Nat → Nat → Int32) (k : Nat) (ti : Int32) : Nat → Nat → Int32 := st (st (st (st B 4 k (B 4 k - tieS B k ti)) 5 k (B 5 k - tieR B k ti)) 6 k (B 6 k + tieS B k ti)) 7 k (B 7 k + tieR B k ti)
def addB (B : Nat → Nat → Int32) (n : Nat) (p s g : Int32) : Nat → Nat → Int32 := st (st (st (st B 0 n p) 1 n s) 2 n 3) 3 n g
def addG (G : Nat → Nat → Int32) (nb : Nat) (p : Int32) : Nat → Nat → Int32 := st (st G 0 nb p) 1 nb (-1)
def sendW (G : Nat → Nat → Int32) (k : Nat) (p : Int32) : Int32 := iabs (p - G 0 k)
def sendG (G : Nat → Nat → Int32) (k : Nat) (p : Int32) : Nat → Nat → Int32 := st G 1 k (if sendW G k p = 0 then -1 else p)
def sendD (G : Nat → Nat → Int32) (k : Nat) (p : Int32) : Int32 := (sendW G k p + 5 - 1) / 5
def tellB (B : Nat → Nat → Int32) (k w : Nat) : Int32 := match w with
  | 0 => B 0 k
  | 1 => B 1 k
  | 2 => B 2 k
  | 3 => B 3 k
  | 4 => given B k
  | 5 => sgiv B k
  | 6 => B 4 k
  | 7 => B 5 k
  | 8 => B 6 k
  | _ => B 7 k
def tellG (G : Nat → Nat → Int32) (k w : Nat) : Int32 := match w with
  | 0 => G 0 k
  | 1 => G 1 k
  | 2 => G 2 k
  | 3 => G 3 k
  | 4 => landAt (G 0 k)
  | _ => G 4 k
def tellL (T : Nat → Int32) (k w : Nat) : Int32 := match w with
  | 0 => plF k
  | 1 => T k
  | 2 => sPrice T k
  | _ => rPrice T k
def bI (b : Bool) : Int32 := if b then 1 else 0
theorem bI0 {b : Bool} (h : bI b = 0) : b = false := by cases b with
  | false => rfl
  | true => exact absurd h (by decide)
theorem bI1 {b : Bool} (h : ¬ bI b = 0) : b = true := by cases b with
  | false => exact absurd rfl h
  | true => rfl
theorem crp_no {B : Nat → Nat → Int32} {k i : Nat} (h : crp B k i = false) (h1 : 4 < iabs (B 0 i - B 0 k) ∨ B 3 k - B 3 i < 30) : crp B k (i + 1) = false := by
  show (crp B k i || crp1 B k i) = false
  rw [h, Bool.false_or]
  unfold crp1
  rcases h1 with h1 | h1
  · rw [decide_eq_false (Int32.not_le.mpr h1), Bool.false_and]
  · rw [decide_eq_false (p := 30 ≤ _) (Int32.not_le.mpr h1), Bool.and_false]
theorem crp_mono {B : Nat → Nat → Int32} {k i : Nat} (h : crp1 B k i = true) : ∀ n, i < n → crp B k n = true := by
  intro n
  induction n with
  | zero => intro h2; exact absurd h2 (Nat.not_lt_zero _)
  | succ n ih =>
    intro h2
    show (crp B k n || crp1 B k n) = true
    by_cases e : i = n
    · subst e; rw [h, Bool.or_true]
    · rw [ih (by omega), Bool.true_or]
theorem crp_yes {B : Nat → Nat → Int32} {k i n : Nat} (h : i < n) (h1 : ¬ 4 < iabs (B 0 i - B 0 k)) (h2 : ¬ B 3 k - B 3 i < 30) : crp B k n = true := by
  refine crp_mono ?_ n h
  unfold crp1
  rw [decide_eq_true (Int32.not_lt.mp h1), decide_eq_true (Int32.not_lt.mp h2)]
  rfl
theorem gro_in {a : Int32} {k : Nat} (h : a = nI k) (hk : k < 2 ^ 31) : gro a = growF k := by
  subst h
  unfold gro
  rw [nI_clamp hk]
theorem tab_ix {x : Int32} {N : Nat} {M : Int32} (hM : M = nI N) (hN : N < 2 ^ 31) (h0 : ¬ x < 0) (h1 : ¬ M ≤ x) : ∃ j : Nat, j < N ∧ x = nI j := by
  obtain ⟨j, hj, e⟩ := nI_of h0
  refine ⟨j, ?_, e⟩
  subst hM
  subst e
  exact Nat.lt_of_not_le (fun q => h1 ((nI_leI hN hj).mpr q))
theorem gro_hi {x : Int32} (h1 : 10 ≤ x) : gro x = 0 := by
  unfold gro
  have h0 : ¬ x < 0 := fun q => absurd (Int32.lt_of_le_of_lt h1 q) (by decide)
  obtain ⟨j, hj, e⟩ := nI_of h0
  subst e
  rw [nI_clamp hj]
  have h2 : 10 ≤ j := (nI_leI (by decide) hj).mp h1
  unfold growF
  split <;> first | rfl | omega
theorem gro_lo {x : Int32} (h1 : x < 0) : gro x = 0 := by
  unfold gro
  have h2 : x.toNatClampNeg = 0 := by
    unfold Int32.toNatClampNeg
    have h3 : x.toInt < (0 : Int32).toInt := Int32.lt_iff_toInt_lt.mp h1
    have h4 : (0 : Int32).toInt = 0 := by decide
    omega
  rw [h2]
  rfl
theorem ch_step {f g : Nat → Int32} {i : Nat} {x : Int32} (h : ∀ j, j < i → f j = g j) (hx : x = g i) : ∀ j, j < i + 1 → upd f i x j = g j := by
  intro j hj
  unfold upd
  by_cases e : j = i
  · subst e; simp [hx]
  · simp only [e, if_false]; exact h j (by omega)
def untF (B : Nat → Nat → Int32) (k : Nat) : Int32 := B 4 k + B 5 k
def tiedF (B : Nat → Nat → Int32) (k : Nat) : Int32 := B 6 k + B 7 k
def abd (G : Nat → Nat → Int32) (k : Nat) : Int32 := G 2 k + G 3 k
def cpT (T2 T : Nat → Int32) : Nat → Int32 := upd (upd (upd T 0 (T2 0)) 1 (T2 1)) 2 (T2 2)
theorem cp8 {B B2 : Nat → Nat → Int32} {i j : Nat} : (if j = 7 then B2 7 i else if j = 6 then B2 6 i else if j = 5 then B2 5 i else if j = 4 then B2 4 i else if j = 3 then B2 3 i else if j = 2 then B2 2 i else if j = 1 then B2 1 i else if j = 0 then B2 0 i else B j i) = cpC 8 B2 i (cl_ B i) j := by
  unfold cpC cl_
  by_cases h : j < 8
  · rcases (show j = 0 ∨ j = 1 ∨ j = 2 ∨ j = 3 ∨ j = 4 ∨ j = 5 ∨ j = 6 ∨ j = 7 by omega) with rfl | rfl | rfl | rfl | rfl | rfl | rfl | rfl <;> rfl
  · rw [if_neg (by omega), if_neg (by omega), if_neg (by omega), if_neg (by omega), if_neg (by omega), if_neg (by omega), if_neg (by omega), if_neg (by omega), if_neg h]
theorem cp5 {B B2 : Nat → Nat → Int32} {i j : Nat} : (if j = 4 then B2 4 i else if j = 3 then B2 3 i else if j = 2 then B2 2 i else if j = 1 then B2 1 i else if j = 0 then B2 0 i else B j i) = cpC 5 B2 i (cl_ B i) j := by
  unfold cpC cl_
  by_cases h : j < 5
  · rcases (show j = 0 ∨ j = 1 ∨ j = 2 ∨ j = 3 ∨ j = 4 by omega) with rfl | rfl | rfl | rfl | rfl <;> rfl
  · rw [if_neg (by omega), if_neg (by omega), if_neg (by omega), if_neg (by omega), if_neg (by omega), if_neg h]
/-- a barge's day: it lies still, it comes nearer, it is there -/
theorem sail_0 {G : Nat → Nat → Int32} {i : Nat} (h : mapC sailC i G 1 i = -1) : mapC sailC i G = mapC sailC (i + 1) G := by
  rw [mapC_ge (Nat.le_refl i)] at h
  refine mapC_step (fun j k hk => rfl) (fun j => ?_)
  rw [mapC_ge (Nat.le_refl i)]
  exact (if_pos h).symm
theorem sail_1 {G : Nat → Nat → Int32} {i : Nat} (h : ¬ mapC sailC i G 1 i = -1) (h2 : ¬ st (mapC sailC i G) 0 i (mapC sailC i G 0 i + imax (-5) (imin 5 (mapC sailC i G 1 i - mapC sailC i G 0 i))) 0 i = mapC sailC i G 1 i) : st (mapC sailC i G) 0 i (mapC sailC i G 0 i + imax (-5) (imin 5 (mapC sailC i G 1 i - mapC sailC i G 0 i))) = mapC sailC (i + 1) G := by
  rw [st_eq, if_pos rfl] at h2
  simp only [mapC_ge (Nat.le_refl i)] at h h2 ⊢
  refine mapC_step (fun j k hk => by simp only [st_ne hk]) (fun j => ?_)
  simp only [st_eq, mapC_ge (Nat.le_refl i)]
  refine ((if_neg h).trans ?_).symm
  by_cases h1 : j = 1
  · subst h1
    refine (if_pos rfl).trans ((if_neg h2).trans ?_)
    rfl
  · refine (if_neg h1).trans ?_
    by_cases h0 : j = 0
    · subst h0; rfl
    · rw [if_neg h0, if_neg h0]; rfl
theorem sail_2 {G : Nat → Nat → Int32} {i : Nat} (h : ¬ mapC sailC i G 1 i = -1) (h2 : st (mapC sailC i G) 0 i (mapC sailC i G 0 i + imax (-5) (imin 5 (mapC sailC i G 1 i - mapC sailC i G 0 i))) 0 i = mapC sailC i G 1 i) : st (st (mapC sailC i G) 0 i (mapC sailC i G 0 i + imax (-5) (imin 5 (mapC sailC i G 1 i - mapC sailC i G 0 i)))) 1 i (-1) = mapC sailC (i + 1) G := by
  rw [st_eq, if_pos rfl] at h2
  simp only [mapC_ge (Nat.le_refl i)] at h h2 ⊢
  refine mapC_step (fun j k hk => by simp only [st_ne hk]) (fun j => ?_)
  simp only [st_eq, mapC_ge (Nat.le_refl i)]
  refine ((if_neg h).trans ?_).symm
  by_cases h1 : j = 1
  · subst h1
    refine (if_pos rfl).trans ((if_pos h2).trans ?_)
    rfl
  · rw [if_neg h1, if_neg h1]
    by_cases h0 : j = 0
    · subst h0; rfl
    · rw [if_neg h0, if_neg h0]; rfl
def ldS (B G : Nat → Nat → Int32) (k j : Nat) : Int32 := imin (B 6 j) (150 - abd G k)
def ldR (B G : Nat → Nat → Int32) (k j : Nat) : Int32 := imin (B 7 j) (150 - abd G k - ldS B G k j)
def ldB (B G : Nat → Nat → Int32) (k j : Nat) : Nat → Nat → Int32 := st (st B 6 j (B 6 j - ldS B G k j)) 7 j (B 7 j - ldR B G k j)
def ldG (B G : Nat → Nat → Int32) (k j : Nat) : Nat → Nat → Int32 := st (st G 2 k (G 2 k + ldS B G k j)) 3 k (G 3 k + ldR B G k j)
def earn (G : Nat → Nat → Int32) (T : Nat → Int32) (k j : Nat) : Int32 := G 2 k * sPrice T j + G 3 k * rPrice T j
def sellG (G : Nat → Nat → Int32) (T : Nat → Int32) (k j : Nat) : Nat → Nat → Int32 := st (st (st G 2 k 0) 3 k 0) 4 k (G 4 k + earn G T k j)
def sellT (G : Nat → Nat → Int32) (T : Nat → Int32) (k j : Nat) : Nat → Int32 := upd T j (T j + abd G k)
def dayB (n : Nat) (dy : Int32) (B : Nat → Nat → Int32) : Nat → Nat → Int32 := if irem dy 100 = 99 then yearB n (rotB n B) else rotB n B
/-- what a day changes: the day, what rotted, beds, barges, stores -/
abbrev DS : Type := Int32 × Int32 × (Nat → Nat → Int32) × (Nat → Nat → Int32) × (Nat → Int32)
def dayS (n nb : Nat) (x : DS) : DS := (x.1 + 1, x.2.1 + sumF (rotF x.2.2.1) n, dayB n x.1 x.2.2.1, sailG nb x.2.2.2.1, thT x.2.2.2.2)
def daysS (n nb : Nat) : Nat → DS → DS
  | 0, x => x
  | i + 1, x => dayS n nb (daysS n nb i x)
def tellW (dy co ti ro : Int32) (n : Nat) (B : Nat → Nat → Int32) (nb : Nat) (G : Nat → Nat → Int32) (T : Nat → Int32) (w : Nat) : Int32 := match w with
  | 0 => dy
  | 1 => co
  | 2 => ti
  | 3 => nI n
  | 4 => sumF (given B) n
  | 5 => sumF (untF B) n
  | 6 => sumF (tiedF B) n
  | 7 => nI nb
  | 8 => sumF (abd G) nb
  | 9 => sumF T 3
  | _ => ro
def lft (x : Int32) : Int32 := x - twent x
def lftN : Nat → Int32 → Int32
  | 0, x => x
  | i + 1, x => lft (lftN i x)
def prA (j : Nat) (s : Int32) : Int32 := imax 1 (woF j - s / 25)
def prB (j : Nat) (s : Int32) : Int32 := imax 1 (prA j s / 2)
def ddF (G : Nat → Nat → Int32) (k j : Nat) : Nat := (sendD G k (plF j)).toNatClampNeg
def wouldV (G : Nat → Nat → Int32) (T : Nat → Int32) (k j : Nat) : Int32 := G 2 k * prA j (lftN (ddF G k j) (T j)) + G 3 k * prB j (lftN (ddF G k j) (T j))
theorem dd_dec : ∀ p : Fin 31, ∀ j : Fin 3, (iabs (plF j.val - nI p.val) + 5 - 1) / 5 = nI ((iabs (plF j.val - nI p.val) + 5 - 1) / 5).toNatClampNeg ∧ ((iabs (plF j.val - nI p.val) + 5 - 1) / 5).toNatClampNeg < 10 := by decide +kernel
theorem dd_ok {G : Nat → Nat → Int32} {k j : Nat} (hp : ∃ p, p < 31 ∧ G 0 k = nI p) (hj : j < 3) : sendD G k (plF j) = nI (ddF G k j) ∧ ddF G k j < 10 := by
  obtain ⟨p, h1, h2⟩ := hp
  unfold ddF sendD sendW
  rw [h2]
  exact dd_dec ⟨p, h1⟩ ⟨j, hj⟩
theorem sendD_cp {G G2 : Nat → Nat → Int32} {n k : Nat} {x : Int32} (h : k < n) : sendD (cpG n G G2) k x = sendD G k x := by
  unfold sendD sendW cpG
  rw [mapC_lt h]
  rfl
theorem days_G {n nb : Nat} (j k : Nat) (hj : 2 ≤ j) (x : DS) : ∀ d, (daysS n nb d x).2.2.2.1 j k = x.2.2.2.1 j k := by
  intro d
  induction d with
  | zero => rfl
  | succ d ih =>
    show sailG nb (daysS n nb d x).2.2.2.1 j k = _
    rw [← ih]
    unfold sailG
    by_cases h : k < nb
    · rw [mapC_lt h]
      unfold sailC
      rw [if_neg (show ¬ j = 1 by omega), if_neg (show ¬ j = 0 by omega)]
      split <;> rfl
    · rw [mapC_ge (by omega)]
theorem thT_at {T : Nat → Int32} {j : Nat} (hj : j < 3) : thT T j = lft (T j) := by
  rcases (show j = 0 ∨ j = 1 ∨ j = 2 by omega) with rfl | rfl | rfl <;> rfl
theorem days_T {n nb : Nat} {j : Nat} (hj : j < 3) (x : DS) : ∀ d, (daysS n nb d x).2.2.2.2 j = lftN d (x.2.2.2.2 j) := by
  intro d
  induction d with
  | zero => rfl
  | succ d ih =>
    show thT (daysS n nb d x).2.2.2.2 j = _
    rw [thT_at hj, ih]
    rfl
theorem cpT_at {T2 T : Nat → Int32} {j : Nat} (hj : j < 3) : cpT T2 T j = T2 j := by
  rcases (show j = 0 ∨ j = 1 ∨ j = 2 by omega) with rfl | rfl | rfl <;> rfl
theorem cpG_at {G G2 : Nat → Nat → Int32} {n j k : Nat} (h : k < n) (hj : j < 5) : cpG n G G2 j k = G j k := by
  unfold cpG
  rw [mapC_lt h]
  exact if_pos hj
theorem cpB_at {B B2 : Nat → Nat → Int32} {n j k : Nat} (h : k < n) (hj : j < 8) : cpB n B B2 j k = B j k := by
  unfold cpB
  rw [mapC_lt h]
  exact if_pos hj
/-- what a lot would bring, seen on the copy -/
theorem would_eq {n nb : Nat} {G G2 : Nat → Nat → Int32} {T T2 : Nat → Int32} {k j d : Nat} {p : Int32} {y1 y2 : Int32} {B : Nat → Nat → Int32} (hk : k < nb) (hj : j < 3) (hd : d = ddF G k j) : earn (daysS n nb d (y1, y2, B, sendG (cpG nb G G2) k p, cpT T T2)).2.2.2.1 (daysS n nb d (y1, y2, B, sendG (cpG nb G G2) k p, cpT T T2)).2.2.2.2 k j = wouldV G T k j := by
  subst hd
  unfold earn wouldV rPrice sPrice
  rw [days_G 2 k (by omega), days_G 3 k (by omega), days_T hj]
  have e2 : sendG (cpG nb G G2) k p 2 k = G 2 k := by
    unfold sendG
    rw [st_col (by omega), cpG_at hk (by omega)]
  have e3 : sendG (cpG nb G G2) k p 3 k = G 3 k := by
    unfold sendG
    rw [st_col (by omega), cpG_at hk (by omega)]
  show (sendG (cpG nb G G2) k p 2 k) * _ + (sendG (cpG nb G G2) k p 3 k) * _ = _
  rw [e2, e3]
  show _ * imax 1 (woF j - lftN _ (cpT T T2 j) / 25) + _ * imax 1 (imax 1 (woF j - lftN _ (cpT T T2 j) / 25) / 2) = _
  rw [cpT_at hj]
  rfl
def advF (G : Nat → Nat → Int32) (T : Nat → Int32) (k : Nat) : Int32 := if wouldV G T k 1 ≤ wouldV G T k 0 then (if wouldV G T k 2 ≤ wouldV G T k 0 then 0 else 2) else (if wouldV G T k 2 ≤ wouldV G T k 1 then 1 else 2)
def yearsB (n : Nat) : Nat → (Nat → Nat → Int32) → (Nat → Nat → Int32)
  | 0, B => B
  | i + 1, B => yearB n (yearsB n i B)
def bestS (n : Nat) (B : Nat → Nat → Int32) (k : Nat) : Nat → Int32 × Int32
  | 0 => (sgiv B k, 0)
  | i + 1 => if sgiv (yearsB n (i + 1) B) k ≤ (bestS n B k i).1 then bestS n B k i else (sgiv (yearsB n (i + 1) B) k, nI (i + 1))
theorem best_le {n : Nat} {B : Nat → Nat → Int32} {k y : Nat} (h : sgiv (yearB n (yearsB n y B)) k ≤ (bestS n B k y).1) : bestS n B k (y + 1) = bestS n B k y := if_pos h
theorem best_gt {n : Nat} {B : Nat → Nat → Int32} {k y : Nat} (h : ¬ sgiv (yearB n (yearsB n y B)) k ≤ (bestS n B k y).1) : bestS n B k (y + 1) = (sgiv (yearsB n (y + 1) B) k, nI (y + 1)) := if_neg h
def dg (f : Nat → Int32) : Nat → Int64 → Int64
  | 0, d => d
  | i + 1, d => dg f i d * 31 + (f i).toInt64
def dgB (B : Nat → Nat → Int32) : Nat → Int64 → Int64
  | 0, d => d
  | i + 1, d => dg (tellB B i) 10 (dgB B i d)
def dgG (G : Nat → Nat → Int32) : Nat → Int64 → Int64
  | 0, d => d
  | i + 1, d => dg (tellG G i) 6 (dgG G i d)
def dgL (T : Nat → Int32) : Nat → Int64 → Int64
  | 0, d => d
  | i + 1, d => dg (tellL T i) 4 (dgL T i d)
def digF (dy co ti ro : Int32) (n : Nat) (B : Nat → Nat → Int32) (nb : Nat) (G : Nat → Nat → Int32) (T : Nat → Int32) : Int64 := dgL T 3 (dgG G nb (dgB B n (dg (tellW dy co ti ro n B nb G T) 11 1277)))
def meanF (n : Nat) (B : Nat → Nat → Int32) : UInt64 := if n = 0 then FP.dconst0 else FP.ddiv (FP.i2d (sumF (B 3) n)) (FP.i2d (nI n))
theorem nI_nm1 {j : Nat} (h : j < 2 ^ 31) : ¬ nI j = -1 := fun q => absurd (show nI j < 0 by rw [q]; decide) (nI_pos h)
end
section
set_option maxRecDepth 100000 in
set_option maxHeartbeats 4000000 in
theorem c_tenth (sa tb : Nat → Nat) (D : va_G) (cA cL : ClassId) (l : Launch) (x : Int32)  : KM sa tb D cA cL l yX4_tenthRoundedUp wsX4_tenthRoundedUp ({ frames := 0, cells := 0, slots := 0, locals := 0 }) [.int x] ([]) (qI D (fun (r : Int32) (_ : Unit) => r = tenth x) (fun _ => [])) := by
  refine KM.of (cc := cX4_tenthRoundedUp) (maxL := 1) (ret := some .int) (by decide) rfl (Nat.le_of_ble_eq_true rfl) ?_
  intro pg e s m args below meth c A hx hb hr hml hlocks hts hown hS hA hE hP hD ls hl
  have hown : s.vm.findClass RX4 = some m.cls := hown
  have hl : lv_has ls 1 [(0, .int x)] := hl
  refine lv_iload_n hx hb dX4_tenthRoundedUp_0 rfl (lv_at hl 0 rfl) ?_
  refine lv_bipush (v := 9) hx hb dX4_tenthRoundedUp_1 (by decide) ?_
  refine lv_iadd hx hb dX4_tenthRoundedUp_3 ?_
  refine lv_bipush (v := 10) hx hb dX4_tenthRoundedUp_4 (by decide) ?_
  refine lv_idiv hx hb dX4_tenthRoundedUp_6 (by decide) ?_
  exact enI () hx hb hr hlocks hS hP (rfl) dX4_tenthRoundedUp_7
set_option maxRecDepth 100000 in
set_option maxHeartbeats 4000000 in
theorem c_twent (sa tb : Nat → Nat) (D : va_G) (cA cL : ClassId) (l : Launch) (x : Int32)  : KM sa tb D cA cL l yX4_twentiethRoundedUp wsX4_twentiethRoundedUp ({ frames := 0, cells := 0, slots := 0, locals := 0 }) [.int x] ([]) (qI D (fun (r : Int32) (_ : Unit) => r = twent x) (fun _ => [])) := by
  refine KM.of (cc := cX4_twentiethRoundedUp) (maxL := 1) (ret := some .int) (by decide) rfl (Nat.le_of_ble_eq_true rfl) ?_
  intro pg e s m args below meth c A hx hb hr hml hlocks hts hown hS hA hE hP hD ls hl
  have hown : s.vm.findClass RX4 = some m.cls := hown
  have hl : lv_has ls 1 [(0, .int x)] := hl
  refine lv_iload_n hx hb dX4_twentiethRoundedUp_0 rfl (lv_at hl 0 rfl) ?_
  refine lv_bipush (v := 19) hx hb dX4_twentiethRoundedUp_1 (by decide) ?_
  refine lv_iadd hx hb dX4_twentiethRoundedUp_3 ?_
  refine lv_bipush (v := 20) hx hb dX4_twentiethRoundedUp_4 (by decide) ?_
  refine lv_idiv hx hb dX4_twentiethRoundedUp_6 (by decide) ?_
  exact enI () hx hb hr hlocks hS hP (rfl) dX4_twentiethRoundedUp_7
set_option maxRecDepth 100000 in
set_option maxHeartbeats 4000000 in
theorem c_Beds_areFull (sa tb : Nat → Nat) (D : va_G) (cA cL : ClassId) (l : Launch) (h : Nat) (u : Nat → Nat) (n : Nat) (B : Nat → Nat → Int32) (ch : Nat → Int32) (hn : n ≤ 8) : KM sa tb D cA cL l yX1_areFull wsX1_areFull ({ frames := 0, cells := 0, slots := 0, locals := 0 }) [.ref h] (wBeds cA h u n B ch) (qI D (fun (r : Int32) (_ : Unit) => r = bI (decide (8 ≤ n))) (fun _ => wBeds cA h u n B ch)) := by
  refine KM.of (cc := cX1_areFull) (maxL := 1) (ret := some .boolean) (by decide) rfl (Nat.le_of_ble_eq_true rfl) ?_
  intro pg e s m args below meth c A hx hb hr hml hlocks hts hown hS hA hE hP hD ls hl
  have hown : s.vm.findClass RX1 = some m.cls := hown
  have hl : lv_has ls 1 [(0, .ref h)] := hl
  have hwX1 : ∀ w ∈ wsX10, w ∈ wsX1_areFull := (fun _ h => List.mem_cons_of_mem _ (List.mem_append_right _ h))
  refine lv_aload_n hx hb dX1_areFull_0 rfl (lv_at hl 0 rfl) ?_
  refine va_get (D := D) (ci := 1) (v := .int (nI n)) (C := RX1) (T := TX1) (N := 10) hx hb hts hwX1 hown hE.K hP 0 rfl rfl 0 (by decide) (hts (.fieldLink RX1 39 "SedgeBarges$Beds" "number" "I") (List.mem_of_getElem? (i := 1) rfl)) (fun _ h9 => h9) rfl dX1_areFull_1 ?_
  refine lv_bipush (v := 8) hx hb dX1_areFull_4 (by decide) ?_
  refine rc_lt (tgt := 13) (a := n) (b := 8) hx hb (by omega) (by omega) dX1_areFull_6 (by decide) (fun c_6 => ?_) (fun c_6 => ?_)
  · refine lv_iconst (v := 0) hx hb dX1_areFull_13 (by decide) ?_
    exact enZ () hx hb hr hlocks hS hP (by first | rfl | decide) (by first | exact (congrArg bI (decide_eq_false (by omega))).symm | exact (congrArg bI (decide_eq_true (by omega))).symm) dX1_areFull_14
  · refine lv_iconst (v := 1) hx hb dX1_areFull_9 (by decide) ?_
    refine lv_goto (tgt := 14) hx hb dX1_areFull_10 (by decide) ?_
    exact enZ () hx hb hr hlocks hS hP (by first | rfl | decide) (by first | exact (congrArg bI (decide_eq_false (by omega))).symm | exact (congrArg bI (decide_eq_true (by omega))).symm) dX1_areFull_14
set_option maxRecDepth 100000 in
set_option maxHeartbeats 4000000 in
theorem c_Beds_given (sa tb : Nat → Nat) (D : va_G) (cA cL : ClassId) (l : Launch) (h : Nat) (u : Nat → Nat) (n : Nat) (B : Nat → Nat → Int32) (ch : Nat → Int32) (k : Nat) (hk : k < 8) : KM sa tb D cA cL l yX1_given wsX1_given ({ frames := 0, cells := 0, slots := 0, locals := 0 }) [.ref h, .int (nI k)] (wBeds cA h u n B ch) (qI D (fun (r : Int32) (_ : Unit) => r = given B k) (fun _ => wBeds cA h u n B ch)) := by
  refine KM.of (cc := cX1_given) (maxL := 4) (ret := some .int) (by decide) rfl (Nat.le_of_ble_eq_true rfl) ?_
  intro pg e s m args below meth c A hx hb hr hml hlocks hts hown hS hA hE hP hD ls hl
  have hown : s.vm.findClass RX1 = some m.cls := hown
  have hl : lv_has ls 4 [(0, .ref h), (1, .int (nI k))] := hl
  have hwX1 : ∀ w ∈ wsX10, w ∈ wsX1_given := (fun _ h => List.mem_cons_of_mem _ (List.mem_append_right _ h))
  refine lv_aload_n hx hb dX1_given_0 rfl (lv_at hl 0 rfl) ?_
  refine va_get (D := D) (ci := 1) (v := .ref (u 2)) (C := RX1) (T := TX1) (N := 10) hx hb hts hwX1 hown hE.K hP 0 rfl rfl 3 (by decide) (hts (.fieldLink RX1 18 "SedgeBarges$Beds" "age" "[I") (List.mem_of_getElem? (i := 1) rfl)) (fun _ h9 => h9) rfl dX1_given_1 ?_
  refine lv_iload_n hx hb dX1_given_4 rfl (lv_at hl 1 rfl) ?_
  refine r_ald (f := B 2) (v := (B 2) k) hx hb hE hP 3 (k) rfl rfl (by omega) (by decide) rfl dX1_given_5 ?_
  refine lv_istore_n (lv' := [(2, .int ((B 2) k)), (0, .ref h), (1, .int (nI k))]) hx hb dX1_given_6 rfl hl (by decide) rfl (fun ls hl => ?_)
  refine lv_iload_n hx hb dX1_given_7 rfl (lv_at hl 0 rfl) ?_
  refine lv_if_lt (tgt := 27) hx hb dX1_given_8 (by decide) (fun c_8 => ?_) (fun c_8 => ?_)
  · refine lv_iconst (v := 0) hx hb dX1_given_27 (by decide) ?_
    refine lv_istore_n (lv' := [(3, .int 0), (2, .int ((B 2) k)), (0, .ref h), (1, .int (nI k))]) hx hb dX1_given_28 rfl hl (by decide) rfl (fun ls hl => ?_)
    refine lv_iconst (v := 3) hx hb dX1_given_29 (by decide) ?_
    refine lv_aload_n hx hb dX1_given_30 rfl (lv_at hl 2 rfl) ?_
    refine va_get (D := D) (ci := 1) (v := .ref (u 1)) (C := RX1) (T := TX1) (N := 10) hx hb hts hwX1 hown hE.K hP 0 rfl rfl 2 (by decide) (hts (.fieldLink RX1 15 "SedgeBarges$Beds" "size" "[I") (List.mem_of_getElem? (i := 2) rfl)) (fun _ h9 => h9) rfl dX1_given_31 ?_
    refine lv_iload_n hx hb dX1_given_34 rfl (lv_at hl 3 rfl) ?_
    refine r_ald (f := B 1) (v := (B 1) k) hx hb hE hP 2 (k) rfl rfl (by omega) (by decide) rfl dX1_given_35 ?_
    refine lv_imul hx hb dX1_given_36 ?_
    refine lv_iload_n hx hb dX1_given_37 rfl (lv_at hl 0 rfl) ?_
    refine lv_imul hx hb dX1_given_38 ?_
    exact enI () hx hb hr hlocks hS hP (by first | exact congrArg (3 * B 1 k * ·) (gro_lo c_8).symm | exact congrArg (3 * B 1 k * ·) (gro_hi c_16).symm | rfl) dX1_given_39
  · refine lv_iload_n hx hb dX1_given_11 rfl (lv_at hl 0 rfl) ?_
    refine va_getsN hx hb (hE.2.2.2.2.2.2.2.1.1).1 hS hown (nf_10 hE) (fun _ h9 => h9) dX1_given_12 ?_
    refine va_tlen (v := 10) hx hb (hE.2.2.2.2.2.2.2.1.1).2 hS rfl dX1_given_15 ?_
    refine lv_icmp_ge (tgt := 27) hx hb dX1_given_16 (by decide) (fun c_16 => ?_) (fun c_16 => ?_)
    · refine lv_iconst (v := 0) hx hb dX1_given_27 (by decide) ?_
      refine lv_istore_n (lv' := [(3, .int 0), (2, .int ((B 2) k)), (0, .ref h), (1, .int (nI k))]) hx hb dX1_given_28 rfl hl (by decide) rfl (fun ls hl => ?_)
      refine lv_iconst (v := 3) hx hb dX1_given_29 (by decide) ?_
      refine lv_aload_n hx hb dX1_given_30 rfl (lv_at hl 2 rfl) ?_
      refine va_get (D := D) (ci := 1) (v := .ref (u 1)) (C := RX1) (T := TX1) (N := 10) hx hb hts hwX1 hown hE.K hP 0 rfl rfl 2 (by decide) (hts (.fieldLink RX1 15 "SedgeBarges$Beds" "size" "[I") (List.mem_of_getElem? (i := 2) rfl)) (fun _ h9 => h9) rfl dX1_given_31 ?_
      refine lv_iload_n hx hb dX1_given_34 rfl (lv_at hl 3 rfl) ?_
      refine r_ald (f := B 1) (v := (B 1) k) hx hb hE hP 2 (k) rfl rfl (by omega) (by decide) rfl dX1_given_35 ?_
      refine lv_imul hx hb dX1_given_36 ?_
      refine lv_iload_n hx hb dX1_given_37 rfl (lv_at hl 0 rfl) ?_
      refine lv_imul hx hb dX1_given_38 ?_
      exact enI () hx hb hr hlocks hS hP (by first | exact congrArg (3 * B 1 k * ·) (gro_lo c_8).symm | exact congrArg (3 * B 1 k * ·) (gro_hi c_16).symm | rfl) dX1_given_39
    · refine va_getsN hx hb (hE.2.2.2.2.2.2.2.1.1).1 hS hown (nf_10 hE) (fun _ h9 => h9) dX1_given_19 ?_
      refine lv_iload_n hx hb dX1_given_22 rfl (lv_at hl 0 rfl) ?_
      obtain ⟨j_1, hj_1, ej_1⟩ : ∃ j : Nat, j < 10 ∧ ((B 2) k : Int32) = nI j := tab_ix rfl (by decide) c_8 c_16
      refine r_tld (v := gro ((B 2) k)) hx hb (hE.2.2.2.2.2.2.2.1.1) hS j_1 ej_1 hj_1 (by decide) (gro_in ej_1 (by omega)).symm dX1_given_23 ?_
      refine lv_goto (tgt := 28) hx hb dX1_given_24 (by decide) ?_
      refine lv_istore_n (lv' := [(3, .int (gro ((B 2) k))), (2, .int ((B 2) k)), (0, .ref h), (1, .int (nI k))]) hx hb dX1_given_28 rfl hl (by decide) rfl (fun ls hl => ?_)
      refine lv_iconst (v := 3) hx hb dX1_given_29 (by decide) ?_
      refine lv_aload_n hx hb dX1_given_30 rfl (lv_at hl 2 rfl) ?_
      refine va_get (D := D) (ci := 1) (v := .ref (u 1)) (C := RX1) (T := TX1) (N := 10) hx hb hts hwX1 hown hE.K hP 0 rfl rfl 2 (by decide) (hts (.fieldLink RX1 15 "SedgeBarges$Beds" "size" "[I") (List.mem_of_getElem? (i := 2) rfl)) (fun _ h9 => h9) rfl dX1_given_31 ?_
      refine lv_iload_n hx hb dX1_given_34 rfl (lv_at hl 3 rfl) ?_
      refine r_ald (f := B 1) (v := (B 1) k) hx hb hE hP 2 (k) rfl rfl (by omega) (by decide) rfl dX1_given_35 ?_
      refine lv_imul hx hb dX1_given_36 ?_
      refine lv_iload_n hx hb dX1_given_37 rfl (lv_at hl 0 rfl) ?_
      refine lv_imul hx hb dX1_given_38 ?_
      exact enI () hx hb hr hlocks hS hP (by first | exact congrArg (3 * B 1 k * ·) (gro_lo c_8).symm | exact congrArg (3 * B 1 k * ·) (gro_hi c_16).symm | rfl) dX1_given_39
set_option maxRecDepth 100000 in
set_option maxHeartbeats 4000000 in
theorem c_Beds_sedgeGiven (sa tb : Nat → Nat) (D : va_G) (cA cL : ClassId) (l : Launch) (h : Nat) (u : Nat → Nat) (n : Nat) (B : Nat → Nat → Int32) (ch : Nat → Int32) (k : Nat) (hk : k < 8) : KM sa tb D cA cL l yX1_sedgeGiven wsX1_sedgeGiven ({ frames := 1, cells := 0, slots := 0, locals := 23 }) [.ref h, .int (nI k)] (wBeds cA h u n B ch) (qI D (fun (r : Int32) (_ : Unit) => r = sgiv B k) (fun _ => wBeds cA h u n B ch)) := by
  refine KM.of (cc := cX1_sedgeGiven) (maxL := 2) (ret := some .int) (by decide) rfl (Nat.le_of_ble_eq_true rfl) ?_
  intro pg e s m args below meth c A hx hb hr hml hlocks hts hown hS hA hE hP hD ls hl
  have hown : s.vm.findClass RX1 = some m.cls := hown
  have hl : lv_has ls 2 [(0, .ref h), (1, .int (nI k))] := hl
  have hwX1 : ∀ w ∈ wsX10, w ∈ wsX1_sedgeGiven := (fun _ h => List.mem_cons_of_mem _ (List.mem_append_right _ h))
  refine lv_aload_n hx hb dX1_sedgeGiven_0 rfl (lv_at hl 0 rfl) ?_
  refine lv_iload_n hx hb dX1_sedgeGiven_1 rfl (lv_at hl 1 rfl) ?_
  refine goI ([]) ([]) hP hD hS hA (rnV (rest := []) (c_Beds_given sa tb D cA cL l h u n B ch k (show k < 8 from by first | omega | assumption | decide)) ([]) ([]) hP hD hS hA hE ⟨hx, hb, hml, hown, hts⟩ (cwV 1 hts gX1_sedgeGiven_X1_given rfl rfl rfl (by decide +kernel) ⟨(Nat.le_of_ble_eq_true rfl), (Nat.le_of_ble_eq_true rfl)⟩) 1 0 rfl rfl rfl rfl hl.1 rfl (Nat.le_of_ble_eq_true rfl) dX1_sedgeGiven_2 ⟨(Nat.le_of_ble_eq_true rfl), (Nat.le_of_ble_eq_true rfl)⟩) (fun _ => rfl) (fun r_2 u_2 H locs hw_2 hP hD hS => ?_)
  have hP : va_P D vwCl (wBeds cA h u n B ch) H := hP
  have hD : va_D A (wBeds cA h u n B ch) := hD
  obtain rfl : r_2 = given B k := hw_2
  refine lv_aload_n hx hb dX1_sedgeGiven_5 rfl (lv_at hl 0 rfl) ?_
  refine va_get (D := D) (ci := 1) (v := .ref (u 3)) (C := RX1) (T := TX1) (N := 10) hx hb hts hwX1 hown hE.K hP 0 rfl rfl 4 (by decide) (hts (.fieldLink RX1 21 "SedgeBarges$Beds" "sedge" "[I") (List.mem_of_getElem? (i := 1) rfl)) (fun _ h9 => h9) rfl dX1_sedgeGiven_6 ?_
  refine lv_iload_n hx hb dX1_sedgeGiven_9 rfl (lv_at hl 1 rfl) ?_
  refine r_ald (f := B 3) (v := (B 3) k) hx hb hE hP 4 (k) rfl rfl (by omega) (by decide) rfl dX1_sedgeGiven_10 ?_
  refine lv_imul hx hb dX1_sedgeGiven_11 ?_
  refine lv_bipush (v := 100) hx hb dX1_sedgeGiven_12 (by decide) ?_
  refine lv_idiv hx hb dX1_sedgeGiven_14 (by decide) ?_
  exact enI () hx hb hr hlocks hS hP (rfl) dX1_sedgeGiven_15
set_option maxRecDepth 100000 in
set_option maxHeartbeats 4000000 in
theorem c_Beds_cutDown (sa tb : Nat → Nat) (D : va_G) (cA cL : ClassId) (l : Launch) (h : Nat) (u : Nat → Nat) (n : Nat) (B : Nat → Nat → Int32) (ch : Nat → Int32) (k : Nat) (hk : k < 8) : KM sa tb D cA cL l yX1_cutDown wsX1_cutDown ({ frames := 2, cells := 0, slots := 0, locals := 44 }) [.ref h, .int (nI k)] (wBeds cA h u n B ch) (qI D (fun (r : Int32) (_ : Unit) => r = given B k) (fun _ => wBeds cA h u n (cutB B k) ch)) := by
  refine KM.of (cc := cX1_cutDown) (maxL := 4) (ret := some .int) (by decide) rfl (Nat.le_of_ble_eq_true rfl) ?_
  intro pg e s m args below meth c A hx hb hr hml hlocks hts hown hS hA hE hP hD ls hl
  have hown : s.vm.findClass RX1 = some m.cls := hown
  have hl : lv_has ls 4 [(0, .ref h), (1, .int (nI k))] := hl
  have hwX1 : ∀ w ∈ wsX10, w ∈ wsX1_cutDown := (fun _ h => List.mem_cons_of_mem _ (List.mem_append_right _ h))
  refine lv_aload_n hx hb dX1_cutDown_0 rfl (lv_at hl 0 rfl) ?_
  refine lv_iload_n hx hb dX1_cutDown_1 rfl (lv_at hl 1 rfl) ?_
  refine goI ([]) ([]) hP hD hS hA (rnV (rest := []) (c_Beds_given sa tb D cA cL l h u n B ch k (show k < 8 from by first | omega | assumption | decide)) ([]) ([]) hP hD hS hA hE ⟨hx, hb, hml, hown, hts⟩ (cwV 1 hts gX1_cutDown_X1_given rfl rfl rfl (by decide +kernel) ⟨(Nat.le_of_ble_eq_true rfl), (Nat.le_of_ble_eq_true rfl)⟩) 1 0 rfl rfl rfl rfl hl.1 rfl (Nat.le_of_ble_eq_true rfl) dX1_cutDown_2 ⟨(Nat.le_of_ble_eq_true rfl), (Nat.le_of_ble_eq_true rfl)⟩) (fun _ => rfl) (fun r_2 u_2 H locs hw_2 hP hD hS => ?_)
  have hP : va_P D vwCl (wBeds cA h u n B ch) H := hP
  have hD : va_D A (wBeds cA h u n B ch) := hD
  obtain rfl : r_2 = given B k := hw_2
  refine lv_istore_n (lv' := [(2, .int (given B k)), (0, .ref h), (1, .int (nI k))]) hx hb dX1_cutDown_5 rfl hl (by decide) rfl (fun ls hl => ?_)
  refine lv_aload_n hx hb dX1_cutDown_6 rfl (lv_at hl 1 rfl) ?_
  refine lv_iload_n hx hb dX1_cutDown_7 rfl (lv_at hl 2 rfl) ?_
  refine goI ([]) ([]) hP hD hS hA (rnV (rest := []) (c_Beds_sedgeGiven sa tb D cA cL l h u n B ch k (show k < 8 from by first | omega | assumption | decide)) ([]) ([]) hP hD hS hA hE ⟨hx, hb, hml, hown, hts⟩ (cwV 1 hts gX1_cutDown_X1_sedgeGiven rfl rfl rfl (by decide +kernel) ⟨(Nat.le_of_ble_eq_true rfl), (Nat.le_of_ble_eq_true rfl)⟩) 1 0 rfl rfl rfl rfl hl.1 rfl (Nat.le_of_ble_eq_true rfl) dX1_cutDown_8 ⟨(Nat.le_of_ble_eq_true rfl), (Nat.le_of_ble_eq_true rfl)⟩) (fun _ => rfl) (fun r_8 u_8 H locs hw_8 hP hD hS => ?_)
  have hP : va_P D vwCl (wBeds cA h u n B ch) H := hP
  have hD : va_D A (wBeds cA h u n B ch) := hD
  obtain rfl : r_8 = sgiv B k := hw_8
  refine lv_istore_n (lv' := [(3, .int (sgiv B k)), (2, .int (given B k)), (0, .ref h), (1, .int (nI k))]) hx hb dX1_cutDown_11 rfl hl (by decide) rfl (fun ls hl => ?_)
  refine lv_aload_n hx hb dX1_cutDown_12 rfl (lv_at hl 2 rfl) ?_
  refine va_get (D := D) (ci := 1) (v := .ref (u 4)) (C := RX1) (T := TX1) (N := 10) hx hb hts hwX1 hown hE.K hP 0 rfl rfl 5 (by decide) (hts (.fieldLink RX1 24 "SedgeBarges$Beds" "untiedSedge" "[I") (List.mem_of_getElem? (i := 1) rfl)) (fun _ h9 => h9) rfl dX1_cutDown_13 ?_
  refine lv_iload_n hx hb dX1_cutDown_16 rfl (lv_at hl 3 rfl) ?_
  refine lv_dup2_11 hx hb dX1_cutDown_17 rfl rfl ?_
  refine r_ald (f := B 4) (v := (B 4) k) hx hb hE hP 5 (k) rfl rfl (by omega) (by decide) rfl dX1_cutDown_18 ?_
  refine lv_iload_n hx hb dX1_cutDown_19 rfl (lv_at hl 0 rfl) ?_
  refine lv_iadd hx hb dX1_cutDown_20 ?_
  refine lv_topi (fun z_1 hz_1 => ?_)
  refine r_ast (f := B 4) (g := upd (B 4) k z_1) hx hb hE hP hD hS 5 (k) rfl rfl (by omega) (by decide) rfl dX1_cutDown_21 (fun H locs hP hD hS => ?_)
  have hP : va_P D vwCl (wBeds cA h u n (st B 4 k z_1) ch) H := hP
  have hD : va_D A (wBeds cA h u n (st B 4 k z_1) ch) := hD
  generalize hB_2 : st B 4 k z_1 = B_2 at hP hD
  refine lv_aload_n hx hb dX1_cutDown_22 rfl (lv_at hl 2 rfl) ?_
  refine va_get (D := D) (ci := 1) (v := .ref (u 5)) (C := RX1) (T := TX1) (N := 10) hx hb hts hwX1 hown hE.K hP 0 rfl rfl 6 (by decide) (hts (.fieldLink RX1 27 "SedgeBarges$Beds" "untiedReed" "[I") (List.mem_of_getElem? (i := 2) rfl)) (fun _ h9 => h9) rfl dX1_cutDown_23 ?_
  refine lv_iload_n hx hb dX1_cutDown_26 rfl (lv_at hl 3 rfl) ?_
  refine lv_dup2_11 hx hb dX1_cutDown_27 rfl rfl ?_
  refine r_ald (f := B_2 5) (v := B 5 k) hx hb hE hP 6 (k) rfl rfl (by omega) (by decide) (st_colE hB_2 (by decide)) dX1_cutDown_28 ?_
  refine lv_iload_n hx hb dX1_cutDown_29 rfl (lv_at hl 1 rfl) ?_
  refine lv_iload_n hx hb dX1_cutDown_30 rfl (lv_at hl 0 rfl) ?_
  refine lv_isub hx hb dX1_cutDown_31 ?_
  refine lv_iadd hx hb dX1_cutDown_32 ?_
  refine lv_topi (fun z_3 hz_3 => ?_)
  refine r_ast (f := B_2 5) (g := upd (B_2 5) k z_3) hx hb hE hP hD hS 6 (k) rfl rfl (by omega) (by decide) rfl dX1_cutDown_33 (fun H locs hP hD hS => ?_)
  have hP : va_P D vwCl (wBeds cA h u n (st B_2 5 k z_3) ch) H := hP
  have hD : va_D A (wBeds cA h u n (st B_2 5 k z_3) ch) := hD
  generalize hB_4 : st B_2 5 k z_3 = B_4 at hP hD
  refine lv_aload_n hx hb dX1_cutDown_34 rfl (lv_at hl 2 rfl) ?_
  refine va_get (D := D) (ci := 1) (v := .ref (u 2)) (C := RX1) (T := TX1) (N := 10) hx hb hts hwX1 hown hE.K hP 0 rfl rfl 3 (by decide) (hts (.fieldLink RX1 18 "SedgeBarges$Beds" "age" "[I") (List.mem_of_getElem? (i := 3) rfl)) (fun _ h9 => h9) rfl dX1_cutDown_35 ?_
  refine lv_iload_n hx hb dX1_cutDown_38 rfl (lv_at hl 3 rfl) ?_
  refine lv_iconst (v := 0) hx hb dX1_cutDown_39 (by decide) ?_
  refine r_ast (f := B_4 2) (g := upd (B_4 2) k 0) hx hb hE hP hD hS 3 (k) rfl rfl (by omega) (by decide) rfl dX1_cutDown_40 (fun H locs hP hD hS => ?_)
  have hP : va_P D vwCl (wBeds cA h u n (st B_4 2 k 0) ch) H := hP
  have hD : va_D A (wBeds cA h u n (st B_4 2 k 0) ch) := hD
  generalize hB_5 : st B_4 2 k 0 = B_5 at hP hD
  refine lv_iload_n hx hb dX1_cutDown_41 rfl (lv_at hl 1 rfl) ?_
  subst hB_5
  subst hB_4
  subst hz_3
  subst hB_2
  subst hz_1
  exact enI () hx hb hr hlocks hS hP (rfl) dX1_cutDown_42
set_option maxRecDepth 100000 in
set_option maxHeartbeats 4000000 in
theorem c_Beds_tieUp (sa tb : Nat → Nat) (D : va_G) (cA cL : ClassId) (l : Launch) (h : Nat) (u : Nat → Nat) (n : Nat) (B : Nat → Nat → Int32) (ch : Nat → Int32) (k : Nat) (ti : Int32) (hk : k < 8) : KM sa tb D cA cL l yX1_tieUp wsX1_tieUp ({ frames := 1, cells := 0, slots := 0, locals := 24 }) [.ref h, .int (nI k), .int ti] (wBeds cA h u n B ch) (qI D (fun (r : Int32) (_ : Unit) => r = tieS B k ti + tieR B k ti) (fun _ => wBeds cA h u n (tieB B k ti) ch)) := by
  refine KM.of (cc := cX1_tieUp) (maxL := 5) (ret := some .int) (by decide) rfl (Nat.le_of_ble_eq_true rfl) ?_
  intro pg e s m args below meth c A hx hb hr hml hlocks hts hown hS hA hE hP hD ls hl
  have hown : s.vm.findClass RX1 = some m.cls := hown
  have hl : lv_has ls 5 [(0, .ref h), (1, .int (nI k)), (2, .int ti)] := hl
  have hwX1 : ∀ w ∈ wsX10, w ∈ wsX1_tieUp := (fun _ h => List.mem_cons_of_mem _ (List.mem_append_right _ h))
  refine lv_aload_n hx hb dX1_tieUp_0 rfl (lv_at hl 0 rfl) ?_
  refine va_get (D := D) (ci := 1) (v := .ref (u 4)) (C := RX1) (T := TX1) (N := 10) hx hb hts hwX1 hown hE.K hP 0 rfl rfl 5 (by decide) (hts (.fieldLink RX1 24 "SedgeBarges$Beds" "untiedSedge" "[I") (List.mem_of_getElem? (i := 1) rfl)) (fun _ h9 => h9) rfl dX1_tieUp_1 ?_
  refine lv_iload_n hx hb dX1_tieUp_4 rfl (lv_at hl 1 rfl) ?_
  refine r_ald (f := B 4) (v := (B 4) k) hx hb hE hP 5 (k) rfl rfl (by omega) (by decide) rfl dX1_tieUp_5 ?_
  refine lv_iload_n hx hb dX1_tieUp_6 rfl (lv_at hl 2 rfl) ?_
  refine r_mmin hx hb (hml.trans hl.1.symm) hown (hts (.methodLink RX1 53 Lib.Math.min.name) (List.mem_of_getElem? (i := 2) rfl)) (hts (.static Lib.Math.min.name) (List.mem_of_getElem? (i := 3) rfl)) (hts (.initialized "java/lang/Math") (List.mem_of_getElem? (i := 4) rfl)) (hts (.code Lib.Math.min.name Lib.Math.min.code 2 (some .int)) (List.mem_of_getElem? (i := 5) rfl)) (Nat.le_of_ble_eq_true rfl) (Nat.le_of_ble_eq_true rfl) (Nat.le_of_ble_eq_true rfl) (Nat.le_of_ble_eq_true rfl) dX1_tieUp_7 ?_
  refine lv_topi (fun z_1 hz_1 => ?_)
  refine lv_istore_n (lv' := [(3, .int z_1), (0, .ref h), (1, .int (nI k)), (2, .int ti)]) hx hb dX1_tieUp_10 rfl hl (by decide) rfl (fun ls hl => ?_)
  refine lv_aload_n hx hb dX1_tieUp_11 rfl (lv_at hl 1 rfl) ?_
  refine va_get (D := D) (ci := 1) (v := .ref (u 5)) (C := RX1) (T := TX1) (N := 10) hx hb hts hwX1 hown hE.K hP 0 rfl rfl 6 (by decide) (hts (.fieldLink RX1 27 "SedgeBarges$Beds" "untiedReed" "[I") (List.mem_of_getElem? (i := 6) rfl)) (fun _ h9 => h9) rfl dX1_tieUp_12 ?_
  refine lv_iload_n hx hb dX1_tieUp_15 rfl (lv_at hl 2 rfl) ?_
  refine r_ald (f := B 5) (v := (B 5) k) hx hb hE hP 6 (k) rfl rfl (by omega) (by decide) rfl dX1_tieUp_16 ?_
  refine lv_iload_n hx hb dX1_tieUp_17 rfl (lv_at hl 3 rfl) ?_
  refine lv_iload_n hx hb dX1_tieUp_18 rfl (lv_at hl 0 rfl) ?_
  refine lv_isub hx hb dX1_tieUp_19 ?_
  refine r_mmin hx hb (hml.trans hl.1.symm) hown (hts (.methodLink RX1 53 Lib.Math.min.name) (List.mem_of_getElem? (i := 2) rfl)) (hts (.static Lib.Math.min.name) (List.mem_of_getElem? (i := 3) rfl)) (hts (.initialized "java/lang/Math") (List.mem_of_getElem? (i := 4) rfl)) (hts (.code Lib.Math.min.name Lib.Math.min.code 2 (some .int)) (List.mem_of_getElem? (i := 5) rfl)) (Nat.le_of_ble_eq_true rfl) (Nat.le_of_ble_eq_true rfl) (Nat.le_of_ble_eq_true rfl) (Nat.le_of_ble_eq_true rfl) dX1_tieUp_20 ?_
  refine lv_topi (fun z_2 hz_2 => ?_)
  refine lv_istore (lv' := [(4, .int z_2), (3, .int z_1), (0, .ref h), (1, .int (nI k)), (2, .int ti)]) hx hb dX1_tieUp_23 hl (by decide) rfl (fun ls hl => ?_)
  refine lv_aload_n hx hb dX1_tieUp_25 rfl (lv_at hl 2 rfl) ?_
  refine va_get (D := D) (ci := 1) (v := .ref (u 4)) (C := RX1) (T := TX1) (N := 10) hx hb hts hwX1 hown hE.K hP 0 rfl rfl 5 (by decide) (hts (.fieldLink RX1 24 "SedgeBarges$Beds" "untiedSedge" "[I") (List.mem_of_getElem? (i := 1) rfl)) (fun _ h9 => h9) rfl dX1_tieUp_26 ?_
  refine lv_iload_n hx hb dX1_tieUp_29 rfl (lv_at hl 3 rfl) ?_
  refine lv_dup2_11 hx hb dX1_tieUp_30 rfl rfl ?_
  refine r_ald (f := B 4) (v := (B 4) k) hx hb hE hP 5 (k) rfl rfl (by omega) (by decide) rfl dX1_tieUp_31 ?_
  refine lv_iload_n hx hb dX1_tieUp_32 rfl (lv_at hl 1 rfl) ?_
  refine lv_isub hx hb dX1_tieUp_33 ?_
  refine lv_topi (fun z_3 hz_3 => ?_)
  refine r_ast (f := B 4) (g := upd (B 4) k z_3) hx hb hE hP hD hS 5 (k) rfl rfl (by omega) (by decide) rfl dX1_tieUp_34 (fun H locs hP hD hS => ?_)
  have hP : va_P D vwCl (wBeds cA h u n (st B 4 k z_3) ch) H := hP
  have hD : va_D A (wBeds cA h u n (st B 4 k z_3) ch) := hD
  generalize hB_4 : st B 4 k z_3 = B_4 at hP hD
  refine lv_aload_n hx hb dX1_tieUp_35 rfl (lv_at hl 2 rfl) ?_
  refine va_get (D := D) (ci := 1) (v := .ref (u 5)) (C := RX1) (T := TX1) (N := 10) hx hb hts hwX1 hown hE.K hP 0 rfl rfl 6 (by decide) (hts (.fieldLink RX1 27 "SedgeBarges$Beds" "untiedReed" "[I") (List.mem_of_getElem? (i := 6) rfl)) (fun _ h9 => h9) rfl dX1_tieUp_36 ?_
  refine lv_iload_n hx hb dX1_tieUp_39 rfl (lv_at hl 3 rfl) ?_
  refine lv_dup2_11 hx hb dX1_tieUp_40 rfl rfl ?_
  refine r_ald (f := B_4 5) (v := B 5 k) hx hb hE hP 6 (k) rfl rfl (by omega) (by decide) (st_colE hB_4 (by decide)) dX1_tieUp_41 ?_
  refine lv_iload hx hb dX1_tieUp_42 (lv_at hl 0 rfl) ?_
  refine lv_isub hx hb dX1_tieUp_44 ?_
  refine lv_topi (fun z_5 hz_5 => ?_)
  refine r_ast (f := B_4 5) (g := upd (B_4 5) k z_5) hx hb hE hP hD hS 6 (k) rfl rfl (by omega) (by decide) rfl dX1_tieUp_45 (fun H locs hP hD hS => ?_)
  have hP : va_P D vwCl (wBeds cA h u n (st B_4 5 k z_5) ch) H := hP
  have hD : va_D A (wBeds cA h u n (st B_4 5 k z_5) ch) := hD
  generalize hB_6 : st B_4 5 k z_5 = B_6 at hP hD
  refine lv_aload_n hx hb dX1_tieUp_46 rfl (lv_at hl 2 rfl) ?_
  refine va_get (D := D) (ci := 1) (v := .ref (u 6)) (C := RX1) (T := TX1) (N := 10) hx hb hts hwX1 hown hE.K hP 0 rfl rfl 7 (by decide) (hts (.fieldLink RX1 30 "SedgeBarges$Beds" "tiedSedge" "[I") (List.mem_of_getElem? (i := 7) rfl)) (fun _ h9 => h9) rfl dX1_tieUp_47 ?_
  refine lv_iload_n hx hb dX1_tieUp_50 rfl (lv_at hl 3 rfl) ?_
  refine lv_dup2_11 hx hb dX1_tieUp_51 rfl rfl ?_
  refine r_ald (f := B_6 6) (v := B 6 k) hx hb hE hP 7 (k) rfl rfl (by omega) (by decide) ((st_colE hB_6 (by decide)).trans (st_colE hB_4 (by decide))) dX1_tieUp_52 ?_
  refine lv_iload_n hx hb dX1_tieUp_53 rfl (lv_at hl 1 rfl) ?_
  refine lv_iadd hx hb dX1_tieUp_54 ?_
  refine lv_topi (fun z_7 hz_7 => ?_)
  refine r_ast (f := B_6 6) (g := upd (B_6 6) k z_7) hx hb hE hP hD hS 7 (k) rfl rfl (by omega) (by decide) rfl dX1_tieUp_55 (fun H locs hP hD hS => ?_)
  have hP : va_P D vwCl (wBeds cA h u n (st B_6 6 k z_7) ch) H := hP
  have hD : va_D A (wBeds cA h u n (st B_6 6 k z_7) ch) := hD
  generalize hB_8 : st B_6 6 k z_7 = B_8 at hP hD
  refine lv_aload_n hx hb dX1_tieUp_56 rfl (lv_at hl 2 rfl) ?_
  refine va_get (D := D) (ci := 1) (v := .ref (u 7)) (C := RX1) (T := TX1) (N := 10) hx hb hts hwX1 hown hE.K hP 0 rfl rfl 8 (by decide) (hts (.fieldLink RX1 33 "SedgeBarges$Beds" "tiedReed" "[I") (List.mem_of_getElem? (i := 8) rfl)) (fun _ h9 => h9) rfl dX1_tieUp_57 ?_
  refine lv_iload_n hx hb dX1_tieUp_60 rfl (lv_at hl 3 rfl) ?_
  refine lv_dup2_11 hx hb dX1_tieUp_61 rfl rfl ?_
  refine r_ald (f := B_8 7) (v := B 7 k) hx hb hE hP 8 (k) rfl rfl (by omega) (by decide) ((st_colE hB_8 (by decide)).trans ((st_colE hB_6 (by decide)).trans (st_colE hB_4 (by decide)))) dX1_tieUp_62 ?_
  refine lv_iload hx hb dX1_tieUp_63 (lv_at hl 0 rfl) ?_
  refine lv_iadd hx hb dX1_tieUp_65 ?_
  refine lv_topi (fun z_9 hz_9 => ?_)
  refine r_ast (f := B_8 7) (g := upd (B_8 7) k z_9) hx hb hE hP hD hS 8 (k) rfl rfl (by omega) (by decide) rfl dX1_tieUp_66 (fun H locs hP hD hS => ?_)
  have hP : va_P D vwCl (wBeds cA h u n (st B_8 7 k z_9) ch) H := hP
  have hD : va_D A (wBeds cA h u n (st B_8 7 k z_9) ch) := hD
  generalize hB_10 : st B_8 7 k z_9 = B_10 at hP hD
  refine lv_iload_n hx hb dX1_tieUp_67 rfl (lv_at hl 1 rfl) ?_
  refine lv_iload hx hb dX1_tieUp_68 (lv_at hl 0 rfl) ?_
  refine lv_iadd hx hb dX1_tieUp_70 ?_
  subst hB_10
  subst hz_9
  subst hB_8
  subst hz_7
  subst hB_6
  subst hz_5
  subst hB_4
  subst hz_3
  subst hz_2
  subst hz_1
  have hW_B : tieB B k ti = (st (st (st (st B 4 k (((B 4) k) - (imin ((B 4) k) ti))) 5 k ((B 5 k) - (imin ((B 5) k) (ti - (imin ((B 4) k) ti))))) 6 k ((B 6 k) + (imin ((B 4) k) ti))) 7 k ((B 7 k) + (imin ((B 5) k) (ti - (imin ((B 4) k) ti))))) := by unfold tieB tieR tieS; rfl
  rw [← hW_B] at hP
  exact enI () hx hb hr hlocks hS hP (by unfold tieR tieS; rfl) dX1_tieUp_71
set_option maxRecDepth 100000 in
set_option maxHeartbeats 4000000 in
theorem c_Beds_add (sa tb : Nat → Nat) (D : va_G) (cA cL : ClassId) (l : Launch) (h : Nat) (u : Nat → Nat) (n : Nat) (B : Nat → Nat → Int32) (ch : Nat → Int32) (p1 : Int32) (p2 : Int32) (p3 : Int32) (hn : n < 8) : KM sa tb D cA cL l yX1_add wsX1_add ({ frames := 0, cells := 0, slots := 0, locals := 0 }) [.ref h, .int p1, .int p2, .int p3] (wBeds cA h u n B ch) (qI D (fun (r : Int32) (_ : Unit) => r = nI n) (fun _ => wBeds cA h u (n + 1) (addB B n p1 p2 p3) ch)) := by
  refine KM.of (cc := cX1_add) (maxL := 5) (ret := some .int) (by decide) rfl (Nat.le_of_ble_eq_true rfl) ?_
  intro pg e s m args below meth c A hx hb hr hml hlocks hts hown hS hA hE hP hD ls hl
  have hown : s.vm.findClass RX1 = some m.cls := hown
  have hl : lv_has ls 5 [(0, .ref h), (1, .int p1), (2, .int p2), (3, .int p3)] := hl
  have hwX1 : ∀ w ∈ wsX10, w ∈ wsX1_add := (fun _ h => List.mem_cons_of_mem _ (List.mem_append_right _ h))
  refine lv_aload_n hx hb dX1_add_0 rfl (lv_at hl 0 rfl) ?_
  refine va_get (D := D) (ci := 1) (v := .int (nI n)) (C := RX1) (T := TX1) (N := 10) hx hb hts hwX1 hown hE.K hP 0 rfl rfl 0 (by decide) (hts (.fieldLink RX1 39 "SedgeBarges$Beds" "number" "I") (List.mem_of_getElem? (i := 1) rfl)) (fun _ h9 => h9) rfl dX1_add_1 ?_
  refine lv_istore (lv' := [(4, .int (nI n)), (0, .ref h), (1, .int p1), (2, .int p2), (3, .int p3)]) hx hb dX1_add_4 hl (by decide) rfl (fun ls hl => ?_)
  refine lv_aload_n hx hb dX1_add_6 rfl (lv_at hl 1 rfl) ?_
  refine va_get (D := D) (ci := 1) (v := .ref (u 0)) (C := RX1) (T := TX1) (N := 10) hx hb hts hwX1 hown hE.K hP 0 rfl rfl 1 (by decide) (hts (.fieldLink RX1 9 "SedgeBarges$Beds" "place" "[I") (List.mem_of_getElem? (i := 2) rfl)) (fun _ h9 => h9) rfl dX1_add_7 ?_
  refine lv_iload hx hb dX1_add_10 (lv_at hl 0 rfl) ?_
  refine lv_iload_n hx hb dX1_add_12 rfl (lv_at hl 2 rfl) ?_
  refine r_ast (f := B 0) (g := upd (B 0) n p1) hx hb hE hP hD hS 1 (n) rfl rfl (by omega) (by decide) rfl dX1_add_13 (fun H locs hP hD hS => ?_)
  have hP : va_P D vwCl (wBeds cA h u n (st B 0 n p1) ch) H := hP
  have hD : va_D A (wBeds cA h u n (st B 0 n p1) ch) := hD
  generalize hB_1 : st B 0 n p1 = B_1 at hP hD
  refine lv_aload_n hx hb dX1_add_14 rfl (lv_at hl 1 rfl) ?_
  refine va_get (D := D) (ci := 1) (v := .ref (u 1)) (C := RX1) (T := TX1) (N := 10) hx hb hts hwX1 hown hE.K hP 0 rfl rfl 2 (by decide) (hts (.fieldLink RX1 15 "SedgeBarges$Beds" "size" "[I") (List.mem_of_getElem? (i := 3) rfl)) (fun _ h9 => h9) rfl dX1_add_15 ?_
  refine lv_iload hx hb dX1_add_18 (lv_at hl 0 rfl) ?_
  refine lv_iload_n hx hb dX1_add_20 rfl (lv_at hl 3 rfl) ?_
  refine r_ast (f := B_1 1) (g := upd (B_1 1) n p2) hx hb hE hP hD hS 2 (n) rfl rfl (by omega) (by decide) rfl dX1_add_21 (fun H locs hP hD hS => ?_)
  have hP : va_P D vwCl (wBeds cA h u n (st B_1 1 n p2) ch) H := hP
  have hD : va_D A (wBeds cA h u n (st B_1 1 n p2) ch) := hD
  generalize hB_2 : st B_1 1 n p2 = B_2 at hP hD
  refine lv_aload_n hx hb dX1_add_22 rfl (lv_at hl 1 rfl) ?_
  refine va_get (D := D) (ci := 1) (v := .ref (u 2)) (C := RX1) (T := TX1) (N := 10) hx hb hts hwX1 hown hE.K hP 0 rfl rfl 3 (by decide) (hts (.fieldLink RX1 18 "SedgeBarges$Beds" "age" "[I") (List.mem_of_getElem? (i := 4) rfl)) (fun _ h9 => h9) rfl dX1_add_23 ?_
  refine lv_iload hx hb dX1_add_26 (lv_at hl 0 rfl) ?_
  refine lv_iconst (v := 3) hx hb dX1_add_28 (by decide) ?_
  refine r_ast (f := B_2 2) (g := upd (B_2 2) n 3) hx hb hE hP hD hS 3 (n) rfl rfl (by omega) (by decide) rfl dX1_add_29 (fun H locs hP hD hS => ?_)
  have hP : va_P D vwCl (wBeds cA h u n (st B_2 2 n 3) ch) H := hP
  have hD : va_D A (wBeds cA h u n (st B_2 2 n 3) ch) := hD
  generalize hB_3 : st B_2 2 n 3 = B_3 at hP hD
  refine lv_aload_n hx hb dX1_add_30 rfl (lv_at hl 1 rfl) ?_
  refine va_get (D := D) (ci := 1) (v := .ref (u 3)) (C := RX1) (T := TX1) (N := 10) hx hb hts hwX1 hown hE.K hP 0 rfl rfl 4 (by decide) (hts (.fieldLink RX1 21 "SedgeBarges$Beds" "sedge" "[I") (List.mem_of_getElem? (i := 5) rfl)) (fun _ h9 => h9) rfl dX1_add_31 ?_
  refine lv_iload hx hb dX1_add_34 (lv_at hl 0 rfl) ?_
  refine lv_iload_n hx hb dX1_add_36 rfl (lv_at hl 4 rfl) ?_
  refine r_ast (f := B_3 3) (g := upd (B_3 3) n p3) hx hb hE hP hD hS 4 (n) rfl rfl (by omega) (by decide) rfl dX1_add_37 (fun H locs hP hD hS => ?_)
  have hP : va_P D vwCl (wBeds cA h u n (st B_3 3 n p3) ch) H := hP
  have hD : va_D A (wBeds cA h u n (st B_3 3 n p3) ch) := hD
  generalize hB_4 : st B_3 3 n p3 = B_4 at hP hD
  refine lv_aload_n hx hb dX1_add_38 rfl (lv_at hl 1 rfl) ?_
  refine lv_dup hx hb dX1_add_39 rfl ?_
  refine va_get (D := D) (ci := 1) (v := .int (nI n)) (C := RX1) (T := TX1) (N := 10) hx hb hts hwX1 hown hE.K hP 0 rfl rfl 0 (by decide) (hts (.fieldLink RX1 39 "SedgeBarges$Beds" "number" "I") (List.mem_of_getElem? (i := 1) rfl)) (fun _ h9 => h9) rfl dX1_add_40 ?_
  refine lv_iconst (v := 1) hx hb dX1_add_43 (by decide) ?_
  refine rn_add (a := n) (b := 1) hx hb dX1_add_44 ?_
  refine va_put (D := D) (ci := 1) (v := .int (nI (n + 1))) (ty := .int) (C := RX1) (T := TX1) (N := 10) hx hb hts hwX1 tyX1 tyX1_ok nmX1 hown hE.K hP hD hS 0 rfl rfl 0 (by decide) (hts (.fieldLink RX1 39 "SedgeBarges$Beds" "number" "I") (List.mem_of_getElem? (i := 1) rfl)) (fun _ h9 => h9) rfl (by decide +kernel) rfl rfl (Nat.le_of_ble_eq_true rfl) dX1_add_45 (fun H locs hP hD hS => ?_)
  have hP : va_P D vwCl (wBeds cA h u (n + 1) B_4 ch) H := hP
  have hD : va_D A (wBeds cA h u (n + 1) B_4 ch) := hD
  refine lv_iload hx hb dX1_add_48 (lv_at hl 0 rfl) ?_
  subst hB_4
  subst hB_3
  subst hB_2
  subst hB_1
  exact enI () hx hb hr hlocks hS hP (rfl) dX1_add_50
set_option maxRecDepth 100000 in
set_option maxHeartbeats 4000000 in
theorem c_Beds_rot (sa tb : Nat → Nat) (D : va_G) (cA cL : ClassId) (l : Launch) (h : Nat) (u : Nat → Nat) (n : Nat) (B : Nat → Nat → Int32) (ch : Nat → Int32) (hn : n ≤ 8) : KM sa tb D cA cL l yX1_rot wsX1_rot ({ frames := 1, cells := 0, slots := 0, locals := 20 }) [.ref h] (wBeds cA h u n B ch) (qI D (fun (r : Int32) (_ : Unit) => r = sumF (rotF B) n) (fun _ => wBeds cA h u n (rotB n B) ch)) := by
  refine KM.of (cc := cX1_rot) (maxL := 5) (ret := some .int) (by decide) rfl (Nat.le_of_ble_eq_true rfl) ?_
  intro pg e s m args below meth c A hx hb hr hml hlocks hts hown hS hA hE hP hD ls hl
  have hown : s.vm.findClass RX1 = some m.cls := hown
  have hl : lv_has ls 5 [(0, .ref h)] := hl
  have hwX1 : ∀ w ∈ wsX10, w ∈ wsX1_rot := (fun _ h => List.mem_cons_of_mem _ (List.mem_append_right _ h))
  refine lv_iconst (v := 0) hx hb dX1_rot_0 (by decide) ?_
  refine lv_istore_n (lv' := [(1, .int 0), (0, .ref h)]) hx hb dX1_rot_1 rfl hl (by decide) rfl (fun ls hl => ?_)
  refine lv_iconst (v := 0) hx hb dX1_rot_2 (by decide) ?_
  refine lv_istore_n (lv' := [(2, .int 0), (1, .int 0), (0, .ref h)]) hx hb dX1_rot_3 rfl hl (by decide) rfl (fun ls hl => ?_)
  have loop_4 : ∀ (f_4 : Nat) (i : Nat) (acc : Int32) (Bx : Nat → Nat → Int32), (n - i) < f_4 → (i ≤ n) → (acc = sumF (rotF B) i) → (Bx = mapC rotC i B) → ∀ (H : Heap) (locs : List Loc), va_P D vwCl (wBeds cA h u n Bx ch) H → va_D A (wBeds cA h u n Bx ch) → va_S A s.heap H locs → ∀ ls : Array Slot, lv_has ls 5 [(0, .ref h), (1, .int acc), (2, .int (nI i))] → W pg l e ({ frames := 1, cells := 0, slots := 0, locals := 20 }) s m args below meth c H locs 0 0 (MQ below (qI D (fun (r : Int32) (_ : Unit) => r = sumF (rotF B) n) (fun _ => wBeds cA h u n (rotB n B) ch) A) args s 0 0 A) (F0 m 4 ls []) := by
    intro f_4
    induction f_4 with
    | zero => intro i acc Bx h_f; exact absurd h_f (Nat.not_lt_zero _)
    | succ f_4 ih_4 =>
      intro i acc Bx h_f4 hi hacc hB H locs hP hD hS ls hl
      refine lv_iload_n hx hb dX1_rot_4 rfl (lv_at hl 2 rfl) ?_
      refine lv_aload_n hx hb dX1_rot_5 rfl (lv_at hl 0 rfl) ?_
      refine va_get (D := D) (ci := 1) (v := .int (nI n)) (C := RX1) (T := TX1) (N := 10) hx hb hts hwX1 hown hE.K hP 0 rfl rfl 0 (by decide) (hts (.fieldLink RX1 39 "SedgeBarges$Beds" "number" "I") (List.mem_of_getElem? (i := 1) rfl)) (fun _ h9 => h9) rfl dX1_rot_6 ?_
      refine rc_ge (tgt := 67) (a := i) (b := n) hx hb (by omega) (by omega) dX1_rot_9 (by decide) (fun c_9 => ?_) (fun c_9 => ?_)
      · refine lv_iload_n hx hb dX1_rot_67 rfl (lv_at hl 1 rfl) ?_
        rw [show i = n from by omega] at hB hacc
        subst hB
        exact enI () hx hb hr hlocks hS hP (hacc) dX1_rot_68
      · refine lv_aload_n hx hb dX1_rot_12 rfl (lv_at hl 0 rfl) ?_
        refine va_get (D := D) (ci := 1) (v := .ref (u 4)) (C := RX1) (T := TX1) (N := 10) hx hb hts hwX1 hown hE.K hP 0 rfl rfl 5 (by decide) (hts (.fieldLink RX1 24 "SedgeBarges$Beds" "untiedSedge" "[I") (List.mem_of_getElem? (i := 2) rfl)) (fun _ h9 => h9) rfl dX1_rot_13 ?_
        refine lv_iload_n hx hb dX1_rot_16 rfl (lv_at hl 2 rfl) ?_
        refine r_ald (f := Bx 4) (v := (Bx 4) i) hx hb hE hP 5 (i) rfl rfl (by omega) (by decide) rfl dX1_rot_17 ?_
        refine goI ([]) (wBeds cA h u n Bx ch) hP hD hS hA (rnSN (rest := []) (c_tenth sa tb D cA cL l ((Bx 4) i) ) ([]) (wBeds cA h u n Bx ch) hP hD hS hA hE ⟨hx, hb, hml, hown, hts⟩ ⟨va_cnB 1 hts gX1_rot_X4_tenthRoundedUp_n59 rfl rfl rfl (nm_2 hE) (hts (.initialized RX4) (List.mem_of_getElem? (i := 5) rfl)) (by decide +kernel) ⟨(Nat.le_of_ble_eq_true rfl), (Nat.le_of_ble_eq_true rfl)⟩, hts (.static yX4_tenthRoundedUp) (List.mem_of_getElem? (i := 4) rfl), trivial⟩ rfl hl.1 rfl (Nat.le_of_ble_eq_true rfl) dX1_rot_18 ⟨(Nat.le_of_ble_eq_true rfl), (Nat.le_of_ble_eq_true rfl)⟩) (fun _ => rfl) (fun r_18 u_18 H locs hw_18 hP hD hS => ?_)
        have hP : va_P D vwCl (wBeds cA h u n Bx ch) H := hP
        have hD : va_D A (wBeds cA h u n Bx ch) := hD
        obtain rfl : r_18 = tenth ((Bx 4) i) := hw_18
        refine lv_istore_n (lv' := [(3, .int (tenth ((Bx 4) i))), (0, .ref h), (1, .int acc), (2, .int (nI i))]) hx hb dX1_rot_21 rfl hl (by decide) rfl (fun ls hl => ?_)
        refine lv_aload_n hx hb dX1_rot_22 rfl (lv_at hl 1 rfl) ?_
        refine va_get (D := D) (ci := 1) (v := .ref (u 5)) (C := RX1) (T := TX1) (N := 10) hx hb hts hwX1 hown hE.K hP 0 rfl rfl 6 (by decide) (hts (.fieldLink RX1 27 "SedgeBarges$Beds" "untiedReed" "[I") (List.mem_of_getElem? (i := 3) rfl)) (fun _ h9 => h9) rfl dX1_rot_23 ?_
        refine lv_iload_n hx hb dX1_rot_26 rfl (lv_at hl 3 rfl) ?_
        refine r_ald (f := Bx 5) (v := (Bx 5) i) hx hb hE hP 6 (i) rfl rfl (by omega) (by decide) rfl dX1_rot_27 ?_
        refine goI ([]) (wBeds cA h u n Bx ch) hP hD hS hA (rnSN (rest := []) (c_tenth sa tb D cA cL l ((Bx 5) i) ) ([]) (wBeds cA h u n Bx ch) hP hD hS hA hE ⟨hx, hb, hml, hown, hts⟩ ⟨va_cnB 1 hts gX1_rot_X4_tenthRoundedUp_n59 rfl rfl rfl (nm_2 hE) (hts (.initialized RX4) (List.mem_of_getElem? (i := 5) rfl)) (by decide +kernel) ⟨(Nat.le_of_ble_eq_true rfl), (Nat.le_of_ble_eq_true rfl)⟩, hts (.static yX4_tenthRoundedUp) (List.mem_of_getElem? (i := 4) rfl), trivial⟩ rfl hl.1 rfl (Nat.le_of_ble_eq_true rfl) dX1_rot_28 ⟨(Nat.le_of_ble_eq_true rfl), (Nat.le_of_ble_eq_true rfl)⟩) (fun _ => rfl) (fun r_28 u_28 H locs hw_28 hP hD hS => ?_)
        have hP : va_P D vwCl (wBeds cA h u n Bx ch) H := hP
        have hD : va_D A (wBeds cA h u n Bx ch) := hD
        obtain rfl : r_28 = tenth ((Bx 5) i) := hw_28
        refine lv_istore (lv' := [(4, .int (tenth ((Bx 5) i))), (3, .int (tenth ((Bx 4) i))), (0, .ref h), (1, .int acc), (2, .int (nI i))]) hx hb dX1_rot_31 hl (by decide) rfl (fun ls hl => ?_)
        refine lv_aload_n hx hb dX1_rot_33 rfl (lv_at hl 2 rfl) ?_
        refine va_get (D := D) (ci := 1) (v := .ref (u 4)) (C := RX1) (T := TX1) (N := 10) hx hb hts hwX1 hown hE.K hP 0 rfl rfl 5 (by decide) (hts (.fieldLink RX1 24 "SedgeBarges$Beds" "untiedSedge" "[I") (List.mem_of_getElem? (i := 2) rfl)) (fun _ h9 => h9) rfl dX1_rot_34 ?_
        refine lv_iload_n hx hb dX1_rot_37 rfl (lv_at hl 4 rfl) ?_
        refine lv_dup2_11 hx hb dX1_rot_38 rfl rfl ?_
        refine r_ald (f := Bx 4) (v := (Bx 4) i) hx hb hE hP 5 (i) rfl rfl (by omega) (by decide) rfl dX1_rot_39 ?_
        refine lv_iload_n hx hb dX1_rot_40 rfl (lv_at hl 1 rfl) ?_
        refine lv_isub hx hb dX1_rot_41 ?_
        refine lv_topi (fun z_1 hz_1 => ?_)
        refine r_ast (f := Bx 4) (g := upd (Bx 4) i z_1) hx hb hE hP hD hS 5 (i) rfl rfl (by omega) (by decide) rfl dX1_rot_42 (fun H locs hP hD hS => ?_)
        have hP : va_P D vwCl (wBeds cA h u n (st Bx 4 i z_1) ch) H := hP
        have hD : va_D A (wBeds cA h u n (st Bx 4 i z_1) ch) := hD
        generalize hB_2 : st Bx 4 i z_1 = B_2 at hP hD
        refine lv_aload_n hx hb dX1_rot_43 rfl (lv_at hl 2 rfl) ?_
        refine va_get (D := D) (ci := 1) (v := .ref (u 5)) (C := RX1) (T := TX1) (N := 10) hx hb hts hwX1 hown hE.K hP 0 rfl rfl 6 (by decide) (hts (.fieldLink RX1 27 "SedgeBarges$Beds" "untiedReed" "[I") (List.mem_of_getElem? (i := 3) rfl)) (fun _ h9 => h9) rfl dX1_rot_44 ?_
        refine lv_iload_n hx hb dX1_rot_47 rfl (lv_at hl 4 rfl) ?_
        refine lv_dup2_11 hx hb dX1_rot_48 rfl rfl ?_
        refine r_ald (f := B_2 5) (v := Bx 5 i) hx hb hE hP 6 (i) rfl rfl (by omega) (by decide) (st_colE hB_2 (by decide)) dX1_rot_49 ?_
        refine lv_iload hx hb dX1_rot_50 (lv_at hl 0 rfl) ?_
        refine lv_isub hx hb dX1_rot_52 ?_
        refine lv_topi (fun z_3 hz_3 => ?_)
        refine r_ast (f := B_2 5) (g := upd (B_2 5) i z_3) hx hb hE hP hD hS 6 (i) rfl rfl (by omega) (by decide) rfl dX1_rot_53 (fun H locs hP hD hS => ?_)
        have hP : va_P D vwCl (wBeds cA h u n (st B_2 5 i z_3) ch) H := hP
        have hD : va_D A (wBeds cA h u n (st B_2 5 i z_3) ch) := hD
        generalize hB_4 : st B_2 5 i z_3 = B_4 at hP hD
        refine lv_iload_n hx hb dX1_rot_54 rfl (lv_at hl 3 rfl) ?_
        refine lv_iload_n hx hb dX1_rot_55 rfl (lv_at hl 1 rfl) ?_
        refine lv_iload hx hb dX1_rot_56 (lv_at hl 0 rfl) ?_
        refine lv_iadd hx hb dX1_rot_58 ?_
        refine lv_iadd hx hb dX1_rot_59 ?_
        refine lv_topi (fun z_5 hz_5 => ?_)
        refine lv_istore_n (lv' := [(1, .int z_5), (4, .int (tenth ((Bx 5) i))), (3, .int (tenth ((Bx 4) i))), (0, .ref h), (2, .int (nI i))]) hx hb dX1_rot_60 rfl hl (by decide) rfl (fun ls hl => ?_)
        refine lv_iinc (v := (nI (i + 1))) (lv' := [(2, .int (nI (i + 1))), (1, .int z_5), (4, .int (tenth ((Bx 5) i))), (3, .int (tenth ((Bx 4) i))), (0, .ref h)]) (k := 4) hx hb dX1_rot_61 hl rfl (iinc1 _) (by decide) rfl (fun ls hl => ?_)
        refine lv_goto (tgt := 4) hx hb dX1_rot_64 (by decide) ?_
        subst hz_5
        subst hB_4
        subst hz_3
        subst hB_2
        subst hz_1
        exact ih_4  (i + 1) (acc + ((tenth ((Bx 4) i)) + (tenth ((Bx 5) i)))) (st (st Bx 4 i (((Bx 4) i) - (tenth ((Bx 4) i)))) 5 i ((Bx 5 i) - (tenth ((Bx 5) i)))) (show n - (i + 1) < f_4 from by omega) (show (i + 1) ≤ n from by omega) (show (acc + ((tenth ((Bx 4) i)) + (tenth ((Bx 5) i)))) = sumF (rotF B) (i + 1) from by rw [hacc, hB]; simp only [mapC_ge (Nat.le_refl i), sumF, rotF]) (show (st (st Bx 4 i (((Bx 4) i) - (tenth ((Bx 4) i)))) 5 i ((Bx 5 i) - (tenth ((Bx 5) i)))) = mapC rotC (i + 1) B from by subst hB; exact mapC_step (fun j k hk => by simp only [st_ne hk]) (fun j => by simp only [st_eq, mapC_ge (Nat.le_refl i)]; rfl)) _ _ hP hD hS ls (lv_sub hl [4, 1, 0] rfl)
  exact loop_4 ((n - 0) + 1) 0 0 B (Nat.lt_succ_self _) (show 0 ≤ n from by omega) (show 0 = sumF (rotF B) 0 from rfl) (show B = mapC rotC 0 B from mapC_0.symm) _ _ hP hD hS ls (lv_sub hl [2, 1, 0] rfl)
set_option maxRecDepth 100000 in
set_option maxHeartbeats 4000000 in
theorem c_Beds_changeByAge (sa tb : Nat → Nat) (D : va_G) (cA cL : ClassId) (l : Launch) (x : Int32)  : KM sa tb D cA cL l yX1_changeByAge wsX1_changeByAge ({ frames := 0, cells := 0, slots := 0, locals := 0 }) [.int x] ([]) (qI D (fun (r : Int32) (_ : Unit) => r = chgA x) (fun _ => [])) := by
  refine KM.of (cc := cX1_changeByAge) (maxL := 1) (ret := some .int) (by decide) rfl (Nat.le_of_ble_eq_true rfl) ?_
  intro pg e s m args below meth c A hx hb hr hml hlocks hts hown hS hA hE hP hD ls hl
  have hown : s.vm.findClass RX1 = some m.cls := hown
  have hl : lv_has ls 1 [(0, .int x)] := hl
  refine lv_iload_n hx hb dX1_changeByAge_0 rfl (lv_at hl 0 rfl) ?_
  refine lv_bipush (v := 6) hx hb dX1_changeByAge_1 (by decide) ?_
  refine lv_icmp_lt (tgt := 9) hx hb dX1_changeByAge_3 (by decide) (fun c_3 => ?_) (fun c_3 => ?_)
  · refine lv_iload_n hx hb dX1_changeByAge_9 rfl (lv_at hl 0 rfl) ?_
    refine lv_iconst (v := 1) hx hb dX1_changeByAge_10 (by decide) ?_
    refine lv_icmp_lt (tgt := 18) hx hb dX1_changeByAge_11 (by decide) (fun c_11 => ?_) (fun c_11 => ?_)
    · refine lv_iconst (v := 0) hx hb dX1_changeByAge_18 (by decide) ?_
      exact enI () hx hb hr hlocks hS hP (by unfold chgA; first | rw [if_pos (Int32.not_lt.mp c_3)] | rw [if_neg (Int32.not_le.mpr c_3), if_pos (Int32.not_lt.mp c_11)] | rw [if_neg (Int32.not_le.mpr c_3), if_neg (Int32.not_le.mpr c_11)]) dX1_changeByAge_19
    · refine lv_iconst (v := 2) hx hb dX1_changeByAge_14 (by decide) ?_
      refine lv_goto (tgt := 19) hx hb dX1_changeByAge_15 (by decide) ?_
      exact enI () hx hb hr hlocks hS hP (by unfold chgA; first | rw [if_pos (Int32.not_lt.mp c_3)] | rw [if_neg (Int32.not_le.mpr c_3), if_pos (Int32.not_lt.mp c_11)] | rw [if_neg (Int32.not_le.mpr c_3), if_neg (Int32.not_le.mpr c_11)]) dX1_changeByAge_19
  · refine lv_bipush (v := (-6)) hx hb dX1_changeByAge_6 (by decide) ?_
    exact enI () hx hb hr hlocks hS hP (by unfold chgA; first | rw [if_pos (Int32.not_lt.mp c_3)] | rw [if_neg (Int32.not_le.mpr c_3), if_pos (Int32.not_lt.mp c_11)] | rw [if_neg (Int32.not_le.mpr c_3), if_neg (Int32.not_le.mpr c_11)]) dX1_changeByAge_8
set_option maxRecDepth 100000 in
set_option maxHeartbeats 4000000 in
theorem c_Beds_creep (sa tb : Nat → Nat) (D : va_G) (cA cL : ClassId) (l : Launch) (h : Nat) (u : Nat → Nat) (n : Nat) (B : Nat → Nat → Int32) (ch : Nat → Int32) (k : Nat) (hk : k < 8) (hn : n ≤ 8) : KM sa tb D cA cL l yX1_isCreptInto wsX1_isCreptInto ({ frames := 1, cells := 0, slots := 0, locals := 24 }) [.ref h, .int (nI k)] (wBeds cA h u n B ch) (qI D (fun (r : Int32) (_ : Unit) => r = bI (crp B k n)) (fun _ => wBeds cA h u n B ch)) := by
  refine KM.of (cc := cX1_isCreptInto) (maxL := 3) (ret := some .boolean) (by decide) rfl (Nat.le_of_ble_eq_true rfl) ?_
  intro pg e s m args below meth c A hx hb hr hml hlocks hts hown hS hA hE hP hD ls hl
  have hown : s.vm.findClass RX1 = some m.cls := hown
  have hl : lv_has ls 3 [(0, .ref h), (1, .int (nI k))] := hl
  have hwX1 : ∀ w ∈ wsX10, w ∈ wsX1_isCreptInto := (fun _ h => List.mem_cons_of_mem _ (List.mem_append_right _ h))
  refine lv_iconst (v := 0) hx hb dX1_isCreptInto_0 (by decide) ?_
  refine lv_istore_n (lv' := [(2, .int 0), (0, .ref h), (1, .int (nI k))]) hx hb dX1_isCreptInto_1 rfl hl (by decide) rfl (fun ls hl => ?_)
  have loop_2 : ∀ (f_2 : Nat) (i : Nat), (n - i) < f_2 → (i ≤ n) → (crp B k i = false) → ∀ (H : Heap) (locs : List Loc), va_P D vwCl (wBeds cA h u n B ch) H → va_D A (wBeds cA h u n B ch) → va_S A s.heap H locs → ∀ ls : Array Slot, lv_has ls 3 [(0, .ref h), (1, .int (nI k)), (2, .int (nI i))] → W pg l e ({ frames := 1, cells := 0, slots := 0, locals := 24 }) s m args below meth c H locs 0 0 (MQ below (qI D (fun (r : Int32) (_ : Unit) => r = bI (crp B k n)) (fun _ => wBeds cA h u n B ch) A) args s 0 0 A) (F0 m 2 ls []) := by
    intro f_2
    induction f_2 with
    | zero => intro i h_f; exact absurd h_f (Nat.not_lt_zero _)
    | succ f_2 ih_2 =>
      intro i h_f2 hi hf H locs hP hD hS ls hl
      refine lv_iload_n hx hb dX1_isCreptInto_2 rfl (lv_at hl 2 rfl) ?_
      refine lv_aload_n hx hb dX1_isCreptInto_3 rfl (lv_at hl 0 rfl) ?_
      refine va_get (D := D) (ci := 1) (v := .int (nI n)) (C := RX1) (T := TX1) (N := 10) hx hb hts hwX1 hown hE.K hP 0 rfl rfl 0 (by decide) (hts (.fieldLink RX1 39 "SedgeBarges$Beds" "number" "I") (List.mem_of_getElem? (i := 1) rfl)) (fun _ h9 => h9) rfl dX1_isCreptInto_4 ?_
      refine rc_ge (tgt := 56) (a := i) (b := n) hx hb (by omega) (by omega) dX1_isCreptInto_7 (by decide) (fun c_7 => ?_) (fun c_7 => ?_)
      · refine lv_iconst (v := 0) hx hb dX1_isCreptInto_56 (by decide) ?_
        exact enZ () hx hb hr hlocks hS hP (by first | rfl | decide) (by first | (rw [crp_yes (B := B) (k := k) (i := i) (by omega) c_27 c_45]; rfl) | (rw [show n = i from by omega, hf]; rfl)) dX1_isCreptInto_57
      · refine lv_aload_n hx hb dX1_isCreptInto_10 rfl (lv_at hl 0 rfl) ?_
        refine va_get (D := D) (ci := 1) (v := .ref (u 0)) (C := RX1) (T := TX1) (N := 10) hx hb hts hwX1 hown hE.K hP 0 rfl rfl 1 (by decide) (hts (.fieldLink RX1 9 "SedgeBarges$Beds" "place" "[I") (List.mem_of_getElem? (i := 2) rfl)) (fun _ h9 => h9) rfl dX1_isCreptInto_11 ?_
        refine lv_iload_n hx hb dX1_isCreptInto_14 rfl (lv_at hl 2 rfl) ?_
        refine r_ald (f := B 0) (v := (B 0) i) hx hb hE hP 1 (i) rfl rfl (by omega) (by decide) rfl dX1_isCreptInto_15 ?_
        refine lv_aload_n hx hb dX1_isCreptInto_16 rfl (lv_at hl 0 rfl) ?_
        refine va_get (D := D) (ci := 1) (v := .ref (u 0)) (C := RX1) (T := TX1) (N := 10) hx hb hts hwX1 hown hE.K hP 0 rfl rfl 1 (by decide) (hts (.fieldLink RX1 9 "SedgeBarges$Beds" "place" "[I") (List.mem_of_getElem? (i := 2) rfl)) (fun _ h9 => h9) rfl dX1_isCreptInto_17 ?_
        refine lv_iload_n hx hb dX1_isCreptInto_20 rfl (lv_at hl 1 rfl) ?_
        refine r_ald (f := B 0) (v := (B 0) k) hx hb hE hP 1 (k) rfl rfl (by omega) (by decide) rfl dX1_isCreptInto_21 ?_
        refine lv_isub hx hb dX1_isCreptInto_22 ?_
        refine r_mabs hx hb (hml.trans hl.1.symm) hown (hts (.methodLink RX1 72 Lib.Math.abs.name) (List.mem_of_getElem? (i := 3) rfl)) (hts (.static Lib.Math.abs.name) (List.mem_of_getElem? (i := 4) rfl)) (hts (.initialized "java/lang/Math") (List.mem_of_getElem? (i := 5) rfl)) (hts (.code Lib.Math.abs.name Lib.Math.abs.code 1 (some .int)) (List.mem_of_getElem? (i := 6) rfl)) (Nat.le_of_ble_eq_true rfl) (Nat.le_of_ble_eq_true rfl) (Nat.le_of_ble_eq_true rfl) (Nat.le_of_ble_eq_true rfl) dX1_isCreptInto_23 ?_
        refine lv_iconst (v := 4) hx hb dX1_isCreptInto_26 (by decide) ?_
        refine lv_icmp_gt (tgt := 50) hx hb dX1_isCreptInto_27 (by decide) (fun c_27 => ?_) (fun c_27 => ?_)
        · refine lv_iinc (v := (nI (i + 1))) (lv' := [(2, .int (nI (i + 1))), (0, .ref h), (1, .int (nI k))]) (k := 2) hx hb dX1_isCreptInto_50 hl rfl (iinc1 _) (by decide) rfl (fun ls hl => ?_)
          refine lv_goto (tgt := 2) hx hb dX1_isCreptInto_53 (by decide) ?_
          exact ih_2  (i + 1) (show n - (i + 1) < f_2 from by omega) (show (i + 1) ≤ n from by omega) (show crp B k (i + 1) = false from by first | exact crp_no (B := B) (k := k) (i := i) hf (Or.inl c_27) | exact crp_no (B := B) (k := k) (i := i) hf (Or.inr c_45)) _ _ hP hD hS ls (lv_sub hl [1, 2, 0] rfl)
        · refine lv_aload_n hx hb dX1_isCreptInto_30 rfl (lv_at hl 0 rfl) ?_
          refine va_get (D := D) (ci := 1) (v := .ref (u 3)) (C := RX1) (T := TX1) (N := 10) hx hb hts hwX1 hown hE.K hP 0 rfl rfl 4 (by decide) (hts (.fieldLink RX1 21 "SedgeBarges$Beds" "sedge" "[I") (List.mem_of_getElem? (i := 7) rfl)) (fun _ h9 => h9) rfl dX1_isCreptInto_31 ?_
          refine lv_iload_n hx hb dX1_isCreptInto_34 rfl (lv_at hl 1 rfl) ?_
          refine r_ald (f := B 3) (v := (B 3) k) hx hb hE hP 4 (k) rfl rfl (by omega) (by decide) rfl dX1_isCreptInto_35 ?_
          refine lv_aload_n hx hb dX1_isCreptInto_36 rfl (lv_at hl 0 rfl) ?_
          refine va_get (D := D) (ci := 1) (v := .ref (u 3)) (C := RX1) (T := TX1) (N := 10) hx hb hts hwX1 hown hE.K hP 0 rfl rfl 4 (by decide) (hts (.fieldLink RX1 21 "SedgeBarges$Beds" "sedge" "[I") (List.mem_of_getElem? (i := 7) rfl)) (fun _ h9 => h9) rfl dX1_isCreptInto_37 ?_
          refine lv_iload_n hx hb dX1_isCreptInto_40 rfl (lv_at hl 2 rfl) ?_
          refine r_ald (f := B 3) (v := (B 3) i) hx hb hE hP 4 (i) rfl rfl (by omega) (by decide) rfl dX1_isCreptInto_41 ?_
          refine lv_isub hx hb dX1_isCreptInto_42 ?_
          refine lv_bipush (v := 30) hx hb dX1_isCreptInto_43 (by decide) ?_
          refine lv_icmp_lt (tgt := 50) hx hb dX1_isCreptInto_45 (by decide) (fun c_45 => ?_) (fun c_45 => ?_)
          · refine lv_iinc (v := (nI (i + 1))) (lv' := [(2, .int (nI (i + 1))), (0, .ref h), (1, .int (nI k))]) (k := 2) hx hb dX1_isCreptInto_50 hl rfl (iinc1 _) (by decide) rfl (fun ls hl => ?_)
            refine lv_goto (tgt := 2) hx hb dX1_isCreptInto_53 (by decide) ?_
            exact ih_2  (i + 1) (show n - (i + 1) < f_2 from by omega) (show (i + 1) ≤ n from by omega) (show crp B k (i + 1) = false from by first | exact crp_no (B := B) (k := k) (i := i) hf (Or.inl c_27) | exact crp_no (B := B) (k := k) (i := i) hf (Or.inr c_45)) _ _ hP hD hS ls (lv_sub hl [1, 2, 0] rfl)
          · refine lv_iconst (v := 1) hx hb dX1_isCreptInto_48 (by decide) ?_
            exact enZ () hx hb hr hlocks hS hP (by first | rfl | decide) (by first | (rw [crp_yes (B := B) (k := k) (i := i) (by omega) c_27 c_45]; rfl) | (rw [show n = i from by omega, hf]; rfl)) dX1_isCreptInto_49
  exact loop_2 ((n - 0) + 1) 0 (Nat.lt_succ_self _) (show 0 ≤ n from by omega) (show crp B k 0 = false from rfl) _ _ hP hD hS ls (lv_sub hl [1, 2, 0] rfl)
set_option maxRecDepth 100000 in
set_option maxHeartbeats 4000000 in
theorem c_Beds_endYear (sa tb : Nat → Nat) (D : va_G) (cA cL : ClassId) (l : Launch) (h : Nat) (u : Nat → Nat) (n : Nat) (B : Nat → Nat → Int32) (ch : Nat → Int32) (hn : n ≤ 8) : KM sa tb D cA cL l yX1_endYear wsX1_endYear ({ frames := 2, cells := 0, slots := 0, locals := 46 }) [.ref h] (wBeds cA h u n B ch) (qV D (fun (cx : Nat → Int32) => True) (fun cx => wBeds cA h u n (yearB n B) cx)) := by
  refine KM.of (cc := cX1_endYear) (maxL := 2) (ret := none) (by decide) rfl (Nat.le_of_ble_eq_true rfl) ?_
  intro pg e s m args below meth c A hx hb hr hml hlocks hts hown hS hA hE hP hD ls hl
  have hown : s.vm.findClass RX1 = some m.cls := hown
  have hl : lv_has ls 2 [(0, .ref h)] := hl
  have hwX1 : ∀ w ∈ wsX10, w ∈ wsX1_endYear := (fun _ h => List.mem_cons_of_mem _ (List.mem_append_right _ h))
  refine lv_iconst (v := 0) hx hb dX1_endYear_0 (by decide) ?_
  refine lv_istore_n (lv' := [(1, .int 0), (0, .ref h)]) hx hb dX1_endYear_1 rfl hl (by decide) rfl (fun ls hl => ?_)
  have loop_2 : ∀ (f_2 : Nat) (i : Nat) (cx : Nat → Int32), (n - i) < f_2 → (i ≤ n) → (∀ j, j < i → cx j = chF B n j) → ∀ (H : Heap) (locs : List Loc), va_P D vwCl (wBeds cA h u n B cx) H → va_D A (wBeds cA h u n B cx) → va_S A s.heap H locs → ∀ ls : Array Slot, lv_has ls 2 [(0, .ref h), (1, .int (nI i))] → W pg l e ({ frames := 2, cells := 0, slots := 0, locals := 46 }) s m args below meth c H locs 0 0 (MQ below (qV D (fun (cx : Nat → Int32) => True) (fun cx => wBeds cA h u n (yearB n B) cx) A) args s 0 0 A) (F0 m 2 ls []) := by
    intro f_2
    induction f_2 with
    | zero => intro i cx h_f; exact absurd h_f (Nat.not_lt_zero _)
    | succ f_2 ih_2 =>
      intro i cx h_f2 hi hch H locs hP hD hS ls hl
      refine lv_iload_n hx hb dX1_endYear_2 rfl (lv_at hl 1 rfl) ?_
      refine lv_aload_n hx hb dX1_endYear_3 rfl (lv_at hl 0 rfl) ?_
      refine va_get (D := D) (ci := 1) (v := .int (nI n)) (C := RX1) (T := TX1) (N := 10) hx hb hts hwX1 hown hE.K hP 0 rfl rfl 0 (by decide) (hts (.fieldLink RX1 39 "SedgeBarges$Beds" "number" "I") (List.mem_of_getElem? (i := 1) rfl)) (fun _ h9 => h9) rfl dX1_endYear_4 ?_
      refine rc_ge (tgt := 45) (a := i) (b := n) hx hb (by omega) (by omega) dX1_endYear_7 (by decide) (fun c_7 => ?_) (fun c_7 => ?_)
      · refine lv_iconst (v := 0) hx hb dX1_endYear_45 (by decide) ?_
        refine lv_istore_n (lv' := [(1, .int 0), (0, .ref h)]) hx hb dX1_endYear_46 rfl hl (by decide) rfl (fun ls hl => ?_)
        have loop_47 : ∀ (f_47 : Nat) (i : Nat) (Bx : Nat → Nat → Int32), (n - i) < f_47 → (i ≤ n) → (Bx = mapC (yearC (chF B n)) i B) → ∀ (H : Heap) (locs : List Loc), va_P D vwCl (wBeds cA h u n Bx cx) H → va_D A (wBeds cA h u n Bx cx) → va_S A s.heap H locs → ∀ ls : Array Slot, lv_has ls 2 [(0, .ref h), (1, .int (nI i))] → W pg l e ({ frames := 2, cells := 0, slots := 0, locals := 46 }) s m args below meth c H locs 0 0 (MQ below (qV D (fun (cx : Nat → Int32) => True) (fun cx => wBeds cA h u n (yearB n B) cx) A) args s 0 0 A) (F0 m 47 ls []) := by
          intro f_47
          induction f_47 with
          | zero => intro i Bx h_f; exact absurd h_f (Nat.not_lt_zero _)
          | succ f_47 ih_47 =>
            intro i Bx h_f47 hi hB H locs hP hD hS ls hl
            refine lv_iload_n hx hb dX1_endYear_47 rfl (lv_at hl 1 rfl) ?_
            refine lv_aload_n hx hb dX1_endYear_48 rfl (lv_at hl 0 rfl) ?_
            refine va_get (D := D) (ci := 1) (v := .int (nI n)) (C := RX1) (T := TX1) (N := 10) hx hb hts hwX1 hown hE.K hP 0 rfl rfl 0 (by decide) (hts (.fieldLink RX1 39 "SedgeBarges$Beds" "number" "I") (List.mem_of_getElem? (i := 1) rfl)) (fun _ h9 => h9) rfl dX1_endYear_49 ?_
            refine rc_ge (tgt := 108) (a := i) (b := n) hx hb (by omega) (by omega) dX1_endYear_52 (by decide) (fun c_52 => ?_) (fun c_52 => ?_)
            · rw [show i = n from by omega] at hB
              subst hB
              exact enV cx hx hb hr hlocks hS hP (trivial) dX1_endYear_108
            · refine lv_aload_n hx hb dX1_endYear_55 rfl (lv_at hl 0 rfl) ?_
              refine va_get (D := D) (ci := 1) (v := .ref (u 3)) (C := RX1) (T := TX1) (N := 10) hx hb hts hwX1 hown hE.K hP 0 rfl rfl 4 (by decide) (hts (.fieldLink RX1 21 "SedgeBarges$Beds" "sedge" "[I") (List.mem_of_getElem? (i := 4) rfl)) (fun _ h9 => h9) rfl dX1_endYear_56 ?_
              refine lv_iload_n hx hb dX1_endYear_59 rfl (lv_at hl 1 rfl) ?_
              refine lv_iconst (v := 0) hx hb dX1_endYear_60 (by decide) ?_
              refine lv_bipush (v := 100) hx hb dX1_endYear_61 (by decide) ?_
              refine lv_aload_n hx hb dX1_endYear_63 rfl (lv_at hl 0 rfl) ?_
              refine va_get (D := D) (ci := 1) (v := .ref (u 3)) (C := RX1) (T := TX1) (N := 10) hx hb hts hwX1 hown hE.K hP 0 rfl rfl 4 (by decide) (hts (.fieldLink RX1 21 "SedgeBarges$Beds" "sedge" "[I") (List.mem_of_getElem? (i := 4) rfl)) (fun _ h9 => h9) rfl dX1_endYear_64 ?_
              refine lv_iload_n hx hb dX1_endYear_67 rfl (lv_at hl 1 rfl) ?_
              refine r_ald (f := Bx 3) (v := (Bx 3) i) hx hb hE hP 4 (i) rfl rfl (by omega) (by decide) rfl dX1_endYear_68 ?_
              refine lv_aload_n hx hb dX1_endYear_69 rfl (lv_at hl 0 rfl) ?_
              refine va_get (D := D) (ci := 1) (v := .ref (u 8)) (C := RX1) (T := TX1) (N := 10) hx hb hts hwX1 hown hE.K hP 0 rfl rfl 9 (by decide) (hts (.fieldLink RX1 36 "SedgeBarges$Beds" "change" "[I") (List.mem_of_getElem? (i := 2) rfl)) (fun _ h9 => h9) rfl dX1_endYear_70 ?_
              refine lv_iload_n hx hb dX1_endYear_73 rfl (lv_at hl 1 rfl) ?_
              refine r_ald (f := cx) (v := cx i) hx hb hE hP 9 (i) rfl rfl (by omega) (by decide) rfl dX1_endYear_74 ?_
              refine lv_iadd hx hb dX1_endYear_75 ?_
              refine r_mmin hx hb (hml.trans hl.1.symm) hown (hts (.methodLink RX1 53 Lib.Math.min.name) (List.mem_of_getElem? (i := 5) rfl)) (hts (.static Lib.Math.min.name) (List.mem_of_getElem? (i := 6) rfl)) (hts (.initialized "java/lang/Math") (List.mem_of_getElem? (i := 7) rfl)) (hts (.code Lib.Math.min.name Lib.Math.min.code 2 (some .int)) (List.mem_of_getElem? (i := 8) rfl)) (Nat.le_of_ble_eq_true rfl) (Nat.le_of_ble_eq_true rfl) (Nat.le_of_ble_eq_true rfl) (Nat.le_of_ble_eq_true rfl) dX1_endYear_76 ?_
              refine r_mmax hx hb (hml.trans hl.1.symm) hown (hts (.methodLink RX1 69 Lib.Math.max.name) (List.mem_of_getElem? (i := 9) rfl)) (hts (.static Lib.Math.max.name) (List.mem_of_getElem? (i := 10) rfl)) (hts (.initialized "java/lang/Math") (List.mem_of_getElem? (i := 7) rfl)) (hts (.code Lib.Math.max.name Lib.Math.max.code 2 (some .int)) (List.mem_of_getElem? (i := 11) rfl)) (Nat.le_of_ble_eq_true rfl) (Nat.le_of_ble_eq_true rfl) (Nat.le_of_ble_eq_true rfl) (Nat.le_of_ble_eq_true rfl) dX1_endYear_79 ?_
              refine lv_topi (fun z_1 hz_1 => ?_)
              refine r_ast (f := Bx 3) (g := upd (Bx 3) i z_1) hx hb hE hP hD hS 4 (i) rfl rfl (by omega) (by decide) rfl dX1_endYear_82 (fun H locs hP hD hS => ?_)
              have hP : va_P D vwCl (wBeds cA h u n (st Bx 3 i z_1) cx) H := hP
              have hD : va_D A (wBeds cA h u n (st Bx 3 i z_1) cx) := hD
              generalize hB_2 : st Bx 3 i z_1 = B_2 at hP hD
              refine lv_aload_n hx hb dX1_endYear_83 rfl (lv_at hl 0 rfl) ?_
              refine va_get (D := D) (ci := 1) (v := .ref (u 2)) (C := RX1) (T := TX1) (N := 10) hx hb hts hwX1 hown hE.K hP 0 rfl rfl 3 (by decide) (hts (.fieldLink RX1 18 "SedgeBarges$Beds" "age" "[I") (List.mem_of_getElem? (i := 3) rfl)) (fun _ h9 => h9) rfl dX1_endYear_84 ?_
              refine lv_iload_n hx hb dX1_endYear_87 rfl (lv_at hl 1 rfl) ?_
              refine lv_bipush (v := 9) hx hb dX1_endYear_88 (by decide) ?_
              refine lv_aload_n hx hb dX1_endYear_90 rfl (lv_at hl 0 rfl) ?_
              refine va_get (D := D) (ci := 1) (v := .ref (u 2)) (C := RX1) (T := TX1) (N := 10) hx hb hts hwX1 hown hE.K hP 0 rfl rfl 3 (by decide) (hts (.fieldLink RX1 18 "SedgeBarges$Beds" "age" "[I") (List.mem_of_getElem? (i := 3) rfl)) (fun _ h9 => h9) rfl dX1_endYear_91 ?_
              refine lv_iload_n hx hb dX1_endYear_94 rfl (lv_at hl 1 rfl) ?_
              refine r_ald (f := B_2 2) (v := Bx 2 i) hx hb hE hP 3 (i) rfl rfl (by omega) (by decide) (st_colE hB_2 (by decide)) dX1_endYear_95 ?_
              refine lv_iconst (v := 1) hx hb dX1_endYear_96 (by decide) ?_
              refine lv_iadd hx hb dX1_endYear_97 ?_
              refine r_mmin hx hb (hml.trans hl.1.symm) hown (hts (.methodLink RX1 53 Lib.Math.min.name) (List.mem_of_getElem? (i := 5) rfl)) (hts (.static Lib.Math.min.name) (List.mem_of_getElem? (i := 6) rfl)) (hts (.initialized "java/lang/Math") (List.mem_of_getElem? (i := 7) rfl)) (hts (.code Lib.Math.min.name Lib.Math.min.code 2 (some .int)) (List.mem_of_getElem? (i := 8) rfl)) (Nat.le_of_ble_eq_true rfl) (Nat.le_of_ble_eq_true rfl) (Nat.le_of_ble_eq_true rfl) (Nat.le_of_ble_eq_true rfl) dX1_endYear_98 ?_
              refine lv_topi (fun z_3 hz_3 => ?_)
              refine r_ast (f := B_2 2) (g := upd (B_2 2) i z_3) hx hb hE hP hD hS 3 (i) rfl rfl (by omega) (by decide) rfl dX1_endYear_101 (fun H locs hP hD hS => ?_)
              have hP : va_P D vwCl (wBeds cA h u n (st B_2 2 i z_3) cx) H := hP
              have hD : va_D A (wBeds cA h u n (st B_2 2 i z_3) cx) := hD
              generalize hB_4 : st B_2 2 i z_3 = B_4 at hP hD
              refine lv_iinc (v := (nI (i + 1))) (lv' := [(1, .int (nI (i + 1))), (0, .ref h)]) (k := 1) hx hb dX1_endYear_102 hl rfl (iinc1 _) (by decide) rfl (fun ls hl => ?_)
              refine lv_goto (tgt := 47) hx hb dX1_endYear_105 (by decide) ?_
              subst hB_4
              subst hz_3
              subst hB_2
              subst hz_1
              exact ih_47  (i + 1) (st (st Bx 3 i (imax 0 (imin 100 (((Bx 3) i) + (cx i))))) 2 i (imin 9 ((Bx 2 i) + 1))) (show n - (i + 1) < f_47 from by omega) (show (i + 1) ≤ n from by omega) (show (st (st Bx 3 i (imax 0 (imin 100 (((Bx 3) i) + (cx i))))) 2 i (imin 9 ((Bx 2 i) + 1))) = mapC (yearC (chF B n)) (i + 1) B from by subst hB; exact mapC_step (fun j k hk => by simp only [st_ne hk]) (fun j => by simp only [st_eq, mapC_ge (Nat.le_refl i), hch i (by omega)]; rfl)) _ _ hP hD hS ls (lv_sub hl [1, 0] rfl)
        exact loop_47 ((n - 0) + 1) 0 B (Nat.lt_succ_self _) (show 0 ≤ n from by omega) (show B = mapC (yearC (chF B n)) 0 B from mapC_0.symm) _ _ hP hD hS ls (lv_sub hl [1, 0] rfl)
      · refine lv_aload_n hx hb dX1_endYear_10 rfl (lv_at hl 0 rfl) ?_
        refine va_get (D := D) (ci := 1) (v := .ref (u 8)) (C := RX1) (T := TX1) (N := 10) hx hb hts hwX1 hown hE.K hP 0 rfl rfl 9 (by decide) (hts (.fieldLink RX1 36 "SedgeBarges$Beds" "change" "[I") (List.mem_of_getElem? (i := 2) rfl)) (fun _ h9 => h9) rfl dX1_endYear_11 ?_
        refine lv_iload_n hx hb dX1_endYear_14 rfl (lv_at hl 1 rfl) ?_
        refine lv_aload_n hx hb dX1_endYear_15 rfl (lv_at hl 0 rfl) ?_
        refine va_get (D := D) (ci := 1) (v := .ref (u 2)) (C := RX1) (T := TX1) (N := 10) hx hb hts hwX1 hown hE.K hP 0 rfl rfl 3 (by decide) (hts (.fieldLink RX1 18 "SedgeBarges$Beds" "age" "[I") (List.mem_of_getElem? (i := 3) rfl)) (fun _ h9 => h9) rfl dX1_endYear_16 ?_
        refine lv_iload_n hx hb dX1_endYear_19 rfl (lv_at hl 1 rfl) ?_
        refine r_ald (f := B 2) (v := (B 2) i) hx hb hE hP 3 (i) rfl rfl (by omega) (by decide) rfl dX1_endYear_20 ?_
        refine goI ([]) (wBeds cA h u n B cx) hP hD hS hA (rnS (rest := [.int (nI i), .ref (u 8)]) (c_Beds_changeByAge sa tb D cA cL l ((B 2) i) ) ([]) (wBeds cA h u n B cx) hP hD hS hA hE ⟨hx, hb, hml, hown, hts⟩ (va_cwS 1 hts gX1_endYear_X1_changeByAge rfl rfl rfl (by decide +kernel) ⟨(Nat.le_of_ble_eq_true rfl), (Nat.le_of_ble_eq_true rfl)⟩) rfl hl.1 rfl (Nat.le_of_ble_eq_true rfl) dX1_endYear_21 ⟨(Nat.le_of_ble_eq_true rfl), (Nat.le_of_ble_eq_true rfl)⟩) (fun _ => rfl) (fun r_21 u_21 H locs hw_21 hP hD hS => ?_)
        have hP : va_P D vwCl (wBeds cA h u n B cx) H := hP
        have hD : va_D A (wBeds cA h u n B cx) := hD
        obtain rfl : r_21 = chgA ((B 2) i) := hw_21
        refine lv_aload_n hx hb dX1_endYear_24 rfl (lv_at hl 0 rfl) ?_
        refine lv_iload_n hx hb dX1_endYear_25 rfl (lv_at hl 1 rfl) ?_
        refine goI ([]) ([]) hP hD hS hA (rnV (rest := [.int (chgA ((B 2) i)), .int (nI i), .ref (u 8)]) (c_Beds_creep sa tb D cA cL l h u n B cx i (show i < 8 from by first | omega | assumption | decide) (show n ≤ 8 from by first | omega | assumption | decide)) ([]) ([]) hP hD hS hA hE ⟨hx, hb, hml, hown, hts⟩ (cwV 1 hts gX1_endYear_X1_isCreptInto rfl rfl rfl (by decide +kernel) ⟨(Nat.le_of_ble_eq_true rfl), (Nat.le_of_ble_eq_true rfl)⟩) 1 0 rfl rfl rfl rfl hl.1 rfl (Nat.le_of_ble_eq_true rfl) dX1_endYear_26 ⟨(Nat.le_of_ble_eq_true rfl), (Nat.le_of_ble_eq_true rfl)⟩) (fun _ => rfl) (fun r_26 u_26 H locs hw_26 hP hD hS => ?_)
        have hP : va_P D vwCl (wBeds cA h u n B cx) H := hP
        have hD : va_D A (wBeds cA h u n B cx) := hD
        obtain rfl : r_26 = bI (crp B i n) := hw_26
        refine lv_if_eq (tgt := 36) hx hb dX1_endYear_29 (by decide) (fun c_29 => ?_) (fun c_29 => ?_)
        · refine lv_iconst (v := 0) hx hb dX1_endYear_36 (by decide) ?_
          refine lv_isub hx hb dX1_endYear_37 ?_
          refine lv_topi (fun z_5 hz_5 => ?_)
          refine r_ast (f := cx) (g := upd cx i z_5) hx hb hE hP hD hS 9 (i) rfl rfl (by omega) (by decide) rfl dX1_endYear_38 (fun H locs hP hD hS => ?_)
          have hP : va_P D vwCl (wBeds cA h u n B (upd cx i z_5)) H := hP
          have hD : va_D A (wBeds cA h u n B (upd cx i z_5)) := hD
          refine lv_iinc (v := (nI (i + 1))) (lv' := [(1, .int (nI (i + 1))), (0, .ref h)]) (k := 1) hx hb dX1_endYear_39 hl rfl (iinc1 _) (by decide) rfl (fun ls hl => ?_)
          refine lv_goto (tgt := 2) hx hb dX1_endYear_42 (by decide) ?_
          subst hz_5
          exact ih_2  (i + 1) (upd cx i ((chgA ((B 2) i)) - 0)) (show n - (i + 1) < f_2 from by omega) (show (i + 1) ≤ n from by omega) (show ∀ j, j < (i + 1) → (upd cx i ((chgA ((B 2) i)) - 0)) j = chF B n j from by first | exact ch_step hch (by unfold chF; rw [bI0 c_29]; rfl) | exact ch_step hch (by unfold chF; rw [bI1 c_29]; rfl)) _ _ hP hD hS ls (lv_sub hl [1, 0] rfl)
        · refine lv_iconst (v := 3) hx hb dX1_endYear_32 (by decide) ?_
          refine lv_goto (tgt := 37) hx hb dX1_endYear_33 (by decide) ?_
          refine lv_isub hx hb dX1_endYear_37 ?_
          refine lv_topi (fun z_6 hz_6 => ?_)
          refine r_ast (f := cx) (g := upd cx i z_6) hx hb hE hP hD hS 9 (i) rfl rfl (by omega) (by decide) rfl dX1_endYear_38 (fun H locs hP hD hS => ?_)
          have hP : va_P D vwCl (wBeds cA h u n B (upd cx i z_6)) H := hP
          have hD : va_D A (wBeds cA h u n B (upd cx i z_6)) := hD
          refine lv_iinc (v := (nI (i + 1))) (lv' := [(1, .int (nI (i + 1))), (0, .ref h)]) (k := 1) hx hb dX1_endYear_39 hl rfl (iinc1 _) (by decide) rfl (fun ls hl => ?_)
          refine lv_goto (tgt := 2) hx hb dX1_endYear_42 (by decide) ?_
          subst hz_6
          exact ih_2  (i + 1) (upd cx i ((chgA ((B 2) i)) - 3)) (show n - (i + 1) < f_2 from by omega) (show (i + 1) ≤ n from by omega) (show ∀ j, j < (i + 1) → (upd cx i ((chgA ((B 2) i)) - 3)) j = chF B n j from by first | exact ch_step hch (by unfold chF; rw [bI0 c_29]; rfl) | exact ch_step hch (by unfold chF; rw [bI1 c_29]; rfl)) _ _ hP hD hS ls (lv_sub hl [1, 0] rfl)
  exact loop_2 ((n - 0) + 1) 0 ch (Nat.lt_succ_self _) (show 0 ≤ n from by omega) (show ∀ j, j < 0 → ch j = chF B n j from fun j hj => absurd hj (Nat.not_lt_zero _)) _ _ hP hD hS ls (lv_sub hl [1, 0] rfl)
end
