section
-- ===== PART A: goes FIRST, ahead of the names: the tables' words, and 'selects' of the private methods out of them =====
/-- a private method of a class that the tables say can be made, by its rows of tables_1 -/
def lw_okq (q : MethodName × Nat) : Prop := (q.1.cls ≠ "java/lang/invoke/MethodHandle" ∧ q.1.cls ≠ "java/lang/invoke/VarHandle") ∧ Cond.instantiable q.1.cls q.2 ∈ tables_1 ∧ Cond.privateMethod q.1 ∈ tables_1 ∧ Cond.instanceMethod q.1 ∈ tables_1
theorem lw_p0 : lw_okq (⟨"java/lang/Throwable", "fillInStackTrace", "(I)Ljava/lang/Throwable;"⟩, 6) := ⟨⟨by decide +kernel, by decide +kernel⟩, List.mem_of_getElem? (i := 284) (by decide +kernel), List.mem_of_getElem? (i := 282) (by decide +kernel), List.mem_of_getElem? (i := 283) (by decide +kernel)⟩
theorem lw_p1 : lw_okq (⟨"SedgeBarges", "needBed", "(I)V"⟩, 2) := ⟨⟨by decide +kernel, by decide +kernel⟩, List.mem_of_getElem? (i := 16) (by decide +kernel), List.mem_of_getElem? (i := 362) (by decide +kernel), List.mem_of_getElem? (i := 363) (by decide +kernel)⟩
theorem lw_p2 : lw_okq (⟨"SedgeBarges$Beds", "isCreptInto", "(I)Z"⟩, 10) := ⟨⟨by decide +kernel, by decide +kernel⟩, List.mem_of_getElem? (i := 30) (by decide +kernel), List.mem_of_getElem? (i := 428) (by decide +kernel), List.mem_of_getElem? (i := 429) (by decide +kernel)⟩
theorem lw_p3 : lw_okq (⟨"SedgeBarges", "needBarge", "(I)V"⟩, 2) := ⟨⟨by decide +kernel, by decide +kernel⟩, List.mem_of_getElem? (i := 16) (by decide +kernel), List.mem_of_getElem? (i := 459) (by decide +kernel), List.mem_of_getElem? (i := 460) (by decide +kernel)⟩
theorem lw_p4 : lw_okq (⟨"SedgeBarges$Waterway", "passDay", "()V"⟩, 7) := ⟨⟨by decide +kernel, by decide +kernel⟩, List.mem_of_getElem? (i := 24) (by decide +kernel), List.mem_of_getElem? (i := 540) (by decide +kernel), List.mem_of_getElem? (i := 541) (by decide +kernel)⟩
theorem lw_p5 : lw_okq (⟨"SedgeBargesModel", "no", "(I)I"⟩, 14) := ⟨⟨by decide +kernel, by decide +kernel⟩, List.mem_of_getElem? (i := 597) (by decide +kernel), List.mem_of_getElem? (i := 657) (by decide +kernel), List.mem_of_getElem? (i := 658) (by decide +kernel)⟩
theorem lw_p6 : lw_okq (⟨"SedgeBargesModel", "isBed", "(I)Z"⟩, 14) := ⟨⟨by decide +kernel, by decide +kernel⟩, List.mem_of_getElem? (i := 597) (by decide +kernel), List.mem_of_getElem? (i := 665) (by decide +kernel), List.mem_of_getElem? (i := 666) (by decide +kernel)⟩
theorem lw_p7 : lw_okq (⟨"SedgeBargesModel", "tieOf", "(II)I"⟩, 14) := ⟨⟨by decide +kernel, by decide +kernel⟩, List.mem_of_getElem? (i := 597) (by decide +kernel), List.mem_of_getElem? (i := 681) (by decide +kernel), List.mem_of_getElem? (i := 682) (by decide +kernel)⟩
theorem lw_p8 : lw_okq (⟨"SedgeBargesModel", "bedTold", "(II)I"⟩, 14) := ⟨⟨by decide +kernel, by decide +kernel⟩, List.mem_of_getElem? (i := 597) (by decide +kernel), List.mem_of_getElem? (i := 694) (by decide +kernel), List.mem_of_getElem? (i := 695) (by decide +kernel)⟩
theorem lw_p9 : lw_okq (⟨"SedgeBargesModel", "lookAhead", "()V"⟩, 14) := ⟨⟨by decide +kernel, by decide +kernel⟩, List.mem_of_getElem? (i := 597) (by decide +kernel), List.mem_of_getElem? (i := 702) (by decide +kernel), List.mem_of_getElem? (i := 703) (by decide +kernel)⟩
theorem lw_p10 : lw_okq (⟨"SedgeBargesModel", "endYear", "([I)V"⟩, 14) := ⟨⟨by decide +kernel, by decide +kernel⟩, List.mem_of_getElem? (i := 597) (by decide +kernel), List.mem_of_getElem? (i := 709) (by decide +kernel), List.mem_of_getElem? (i := 710) (by decide +kernel)⟩
theorem lw_p11 : lw_okq (⟨"SedgeBargesModel", "hasReedBeside", "([II)Z"⟩, 14) := ⟨⟨by decide +kernel, by decide +kernel⟩, List.mem_of_getElem? (i := 597) (by decide +kernel), List.mem_of_getElem? (i := 713) (by decide +kernel), List.mem_of_getElem? (i := 714) (by decide +kernel)⟩
theorem lw_p12 : lw_okq (⟨"SedgeBargesModel", "isBarge", "(I)Z"⟩, 14) := ⟨⟨by decide +kernel, by decide +kernel⟩, List.mem_of_getElem? (i := 597) (by decide +kernel), List.mem_of_getElem? (i := 727) (by decide +kernel), List.mem_of_getElem? (i := 728) (by decide +kernel)⟩
theorem lw_p13 : lw_okq (⟨"SedgeBargesModel", "loadOf", "(III)I"⟩, 14) := ⟨⟨by decide +kernel, by decide +kernel⟩, List.mem_of_getElem? (i := 597) (by decide +kernel), List.mem_of_getElem? (i := 738) (by decide +kernel), List.mem_of_getElem? (i := 739) (by decide +kernel)⟩
theorem lw_p14 : lw_okq (⟨"SedgeBargesModel", "aboard", "(I)I"⟩, 14) := ⟨⟨by decide +kernel, by decide +kernel⟩, List.mem_of_getElem? (i := 597) (by decide +kernel), List.mem_of_getElem? (i := 742) (by decide +kernel), List.mem_of_getElem? (i := 743) (by decide +kernel)⟩
theorem lw_p15 : lw_okq (⟨"SedgeBargesModel", "brings", "(III)I"⟩, 14) := ⟨⟨by decide +kernel, by decide +kernel⟩, List.mem_of_getElem? (i := 597) (by decide +kernel), List.mem_of_getElem? (i := 755) (by decide +kernel), List.mem_of_getElem? (i := 756) (by decide +kernel)⟩
def lw_privs_1 : List (MethodName × Nat) := [(⟨"java/lang/Throwable", "fillInStackTrace", "(I)Ljava/lang/Throwable;"⟩, 6), (⟨"SedgeBarges", "needBed", "(I)V"⟩, 2), (⟨"SedgeBarges$Beds", "isCreptInto", "(I)Z"⟩, 10), (⟨"SedgeBarges", "needBarge", "(I)V"⟩, 2), (⟨"SedgeBarges$Waterway", "passDay", "()V"⟩, 7), (⟨"SedgeBargesModel", "no", "(I)I"⟩, 14), (⟨"SedgeBargesModel", "isBed", "(I)Z"⟩, 14), (⟨"SedgeBargesModel", "tieOf", "(II)I"⟩, 14), (⟨"SedgeBargesModel", "bedTold", "(II)I"⟩, 14), (⟨"SedgeBargesModel", "lookAhead", "()V"⟩, 14), (⟨"SedgeBargesModel", "endYear", "([I)V"⟩, 14), (⟨"SedgeBargesModel", "hasReedBeside", "([II)Z"⟩, 14), (⟨"SedgeBargesModel", "isBarge", "(I)Z"⟩, 14), (⟨"SedgeBargesModel", "loadOf", "(III)I"⟩, 14), (⟨"SedgeBargesModel", "aboard", "(I)I"⟩, 14), (⟨"SedgeBargesModel", "brings", "(III)I"⟩, 14)]
theorem lw_r1 : ∀ q ∈ lw_privs_1, lw_okq q := List.forall_mem_cons.mpr ⟨lw_p0, List.forall_mem_cons.mpr ⟨lw_p1, List.forall_mem_cons.mpr ⟨lw_p2, List.forall_mem_cons.mpr ⟨lw_p3, List.forall_mem_cons.mpr ⟨lw_p4, List.forall_mem_cons.mpr ⟨lw_p5, List.forall_mem_cons.mpr ⟨lw_p6, List.forall_mem_cons.mpr ⟨lw_p7, List.forall_mem_cons.mpr ⟨lw_p8, List.forall_mem_cons.mpr ⟨lw_p9, List.forall_mem_cons.mpr ⟨lw_p10, List.forall_mem_cons.mpr ⟨lw_p11, List.forall_mem_cons.mpr ⟨lw_p12, List.forall_mem_cons.mpr ⟨lw_p13, List.forall_mem_cons.mpr ⟨lw_p14, List.forall_mem_cons.mpr ⟨lw_p15, fun _ h => absurd h List.not_mem_nil⟩⟩⟩⟩⟩⟩⟩⟩⟩⟩⟩⟩⟩⟩⟩⟩
theorem lw_p16 : lw_okq (⟨"SedgeBargesModel", "bargeTold", "(II)I"⟩, 14) := ⟨⟨by decide +kernel, by decide +kernel⟩, List.mem_of_getElem? (i := 597) (by decide +kernel), List.mem_of_getElem? (i := 771) (by decide +kernel), List.mem_of_getElem? (i := 772) (by decide +kernel)⟩
theorem lw_p17 : lw_okq (⟨"SedgeBargesModel", "landingTold", "(II)I"⟩, 14) := ⟨⟨by decide +kernel, by decide +kernel⟩, List.mem_of_getElem? (i := 597) (by decide +kernel), List.mem_of_getElem? (i := 779) (by decide +kernel), List.mem_of_getElem? (i := 780) (by decide +kernel)⟩
theorem lw_p18 : lw_okq (⟨"SedgeBargesModel", "wouldBring", "(II)I"⟩, 14) := ⟨⟨by decide +kernel, by decide +kernel⟩, List.mem_of_getElem? (i := 597) (by decide +kernel), List.mem_of_getElem? (i := 787) (by decide +kernel), List.mem_of_getElem? (i := 788) (by decide +kernel)⟩
theorem lw_p19 : lw_okq (⟨"SedgeBargesModel", "pass", "([I[I[II)I"⟩, 14) := ⟨⟨by decide +kernel, by decide +kernel⟩, List.mem_of_getElem? (i := 597) (by decide +kernel), List.mem_of_getElem? (i := 802) (by decide +kernel), List.mem_of_getElem? (i := 803) (by decide +kernel)⟩
theorem lw_p20 : lw_okq (⟨"SedgeBargesModel", "sailOn", "([II)V"⟩, 14) := ⟨⟨by decide +kernel, by decide +kernel⟩, List.mem_of_getElem? (i := 597) (by decide +kernel), List.mem_of_getElem? (i := 806) (by decide +kernel), List.mem_of_getElem? (i := 807) (by decide +kernel)⟩
theorem lw_p21 : lw_okq (⟨"SedgeBargesModel", "counted", "(I)I"⟩, 14) := ⟨⟨by decide +kernel, by decide +kernel⟩, List.mem_of_getElem? (i := 597) (by decide +kernel), List.mem_of_getElem? (i := 817) (by decide +kernel), List.mem_of_getElem? (i := 818) (by decide +kernel)⟩
theorem lw_p22 : lw_okq (⟨"SedgeBargesModel", "sum", "([II)I"⟩, 14) := ⟨⟨by decide +kernel, by decide +kernel⟩, List.mem_of_getElem? (i := 597) (by decide +kernel), List.mem_of_getElem? (i := 821) (by decide +kernel), List.mem_of_getElem? (i := 822) (by decide +kernel)⟩
theorem lw_p23 : lw_okq (⟨"SedgeBargesModel", "aboardAll", "()I"⟩, 14) := ⟨⟨by decide +kernel, by decide +kernel⟩, List.mem_of_getElem? (i := 597) (by decide +kernel), List.mem_of_getElem? (i := 825) (by decide +kernel), List.mem_of_getElem? (i := 826) (by decide +kernel)⟩
theorem lw_p24 : lw_okq (⟨"SedgeBargesModel", "summed", "([I[III)I"⟩, 14) := ⟨⟨by decide +kernel, by decide +kernel⟩, List.mem_of_getElem? (i := 597) (by decide +kernel), List.mem_of_getElem? (i := 829) (by decide +kernel), List.mem_of_getElem? (i := 830) (by decide +kernel)⟩
theorem lw_p25 : lw_okq (⟨"SedgeBargesModel", "giveAll", "([I)I"⟩, 14) := ⟨⟨by decide +kernel, by decide +kernel⟩, List.mem_of_getElem? (i := 597) (by decide +kernel), List.mem_of_getElem? (i := 833) (by decide +kernel), List.mem_of_getElem? (i := 834) (by decide +kernel)⟩
def lw_privs_2 : List (MethodName × Nat) := [(⟨"SedgeBargesModel", "bargeTold", "(II)I"⟩, 14), (⟨"SedgeBargesModel", "landingTold", "(II)I"⟩, 14), (⟨"SedgeBargesModel", "wouldBring", "(II)I"⟩, 14), (⟨"SedgeBargesModel", "pass", "([I[I[II)I"⟩, 14), (⟨"SedgeBargesModel", "sailOn", "([II)V"⟩, 14), (⟨"SedgeBargesModel", "counted", "(I)I"⟩, 14), (⟨"SedgeBargesModel", "sum", "([II)I"⟩, 14), (⟨"SedgeBargesModel", "aboardAll", "()I"⟩, 14), (⟨"SedgeBargesModel", "summed", "([I[III)I"⟩, 14), (⟨"SedgeBargesModel", "giveAll", "([I)I"⟩, 14)]
theorem lw_r2 : ∀ q ∈ lw_privs_2, lw_okq q := List.forall_mem_cons.mpr ⟨lw_p16, List.forall_mem_cons.mpr ⟨lw_p17, List.forall_mem_cons.mpr ⟨lw_p18, List.forall_mem_cons.mpr ⟨lw_p19, List.forall_mem_cons.mpr ⟨lw_p20, List.forall_mem_cons.mpr ⟨lw_p21, List.forall_mem_cons.mpr ⟨lw_p22, List.forall_mem_cons.mpr ⟨lw_p23, List.forall_mem_cons.mpr ⟨lw_p24, List.forall_mem_cons.mpr ⟨lw_p25, fun _ h => absurd h List.not_mem_nil⟩⟩⟩⟩⟩⟩⟩⟩⟩⟩
def lw_privs : List (MethodName × Nat) := lw_privs_1 ++ (lw_privs_2)
def lw_tbl : List Cond := k2_sels lw_privs ++ tables_1
theorem lw_privs_ok : ∀ q ∈ lw_privs, lw_okq q := by
  show ∀ q ∈ lw_privs_1 ++ (lw_privs_2), lw_okq q
  exact List.forall_mem_append.mpr ⟨lw_r1, lw_r2⟩
/-- the streams that the claim lets the run draw from -/
abbrev lw_cs : List Choice := [Jvm.Choice.named "NaN.bits"]
theorem lw_bits : nanBits ∈ lw_cs := by first | decide | exact List.mem_cons_self | simp [lw_cs, nanBits]
-- ===== end of PART A; then your names; then what follows =====
end
section
/-! ===== BEGIN words of one list among another's, by their places ===== -/
theorem goodIn_r {big : List Cond} (ws : List Cond) (ps : List Nat) (hp : ws = ps.filterMap (fun i => big[i]?)) (h : ws.all goodWord = true) : GoodIn big ws := by
  intro w hw
  have h1 := List.all_eq_true.mp h w hw
  rw [hp] at hw
  obtain ⟨i, -, hi⟩ := List.mem_filterMap.mp hw
  have hm : w ∈ big := by first | exact List.mem_of_getElem? hi | exact List.getElem?_mem hi
  exact ⟨hm, good_of_word h1⟩
theorem goodIn_app {big a b : List Cond} (ha : GoodIn big a) (hb : GoodIn big b) : GoodIn big (a ++ b) := fun w h => (List.mem_append.mp h).elim (ha w) (hb w)
theorem goodIn_ca {big a b : List Cond} {c : Cond} (ha : GoodIn big (c :: a)) (hb : GoodIn big b) : GoodIn big (c :: (a ++ b)) := fun w h => (List.mem_cons.mp h).elim (fun e => ha w (List.mem_cons.mpr (Or.inl e))) (fun h => (List.mem_append.mp h).elim (fun h => ha w (List.mem_cons.mpr (Or.inr h))) (hb w))
theorem goodIn_sub {big ws : List Cond} (hm : ∀ w ∈ ws, w ∈ big) (h : ws.all goodWord = true) : GoodIn big ws := fun w hw => ⟨hm w hw, good_of_word (List.all_eq_true.mp h w hw)⟩
/-! ===== END ===== -/

/-! ===== BEGIN exceptions that leave a method, and their catching by the caller (launches without stack traces) ===== -/
section VXA
/-! The laws vx_back, vx_callV, vx_callS, vx_callSW, vx_throw0, vx_throwS follow proofs of the library, with one case more: JvmDerived/Free/Laws.lean (Back.of_free), Shelf42/LK1.lean (callV, callS), Shelf/KitTraced.lean (throwNew0V, throwNewS). -/
/-- where a method has thrown q: the class by its name, the cell, what was written, the world -/
def vx_T (XC : String → State → State → Prop) (st : State) (q : Addr) (t : State) (mc ms : Nat) (free : Addr → Prop) : Prop :=
  ∃ (E : String) (ce : Cell) (L : List Loc), XC E st t ∧ t.heap[q]? = some ce ∧ ce.vm = .none ∧ st.vm.findClass E = some ce.cls ∧ st.WarmedH t.vm ∧ st.sameButNew ({ t with vm := st.vm } : State) L mc ms ∧ ∀ z ∈ L, free z.base
def vx_Q (Qc : Array Value → State → Outcome → State → Prop) (XC : String → State → State → Prop) (mc ms : Nat) (free : Addr → Prop) : Array Value → State → Outcome → State → Prop := fun a st o t =>
  (Qc a st o t ∧ ∃ L, FrameEnd st o t L mc ms ∧ ∀ q ∈ L, free q.base) ∨ ∃ q, o = .threw q ∧ vx_T XC st q t mc ms free
/-- a callee that returns or throws -/
def vx_Met (l : Launch) (y : MethodName) (ws : List Cond) (rm : Room) (Pc : Array Value → State → Prop) (Qc : Array Value → State → Outcome → State → Prop) (XC : String → State → State → Prop) (mc ms : Nat) (free : Addr → Prop) : Prop :=
  MetFree l y (headSpec ws rm) Pc (fun _ _ _ _ _ => True) (vx_Q Qc XC mc ms free)
def vx_Post (XC : String → State → State → Prop) (mc ms : Nat) (free : Addr → Prop) : Pt → Array Value → Addr → Pt → Prop := fun A a q B =>
  ∃ (g : JFrame) (mk : MethodId) (t : State) (L : List Loc) (E : String) (ce : Cell), B.U.heap = t.heap ∧ B.U.vm = t.vm ∧ XC E (A.U.calling g mk a) t ∧ t.heap[q]? = some ce ∧ ce.vm = .none ∧ A.U.vm.findClass E = some ce.cls ∧ B.locs = A.locs ++ L ∧ (∀ z ∈ L, free z.base) ∧ B.cells = A.cells + mc ∧ B.slots = A.slots + ms
def vx_Back (l : Launch) (R : Room) (p : Program) (e : Env) (below : List Frame) (s : State) (sargs : Array Value) (y : MethodName) (len W9 : Nat)
    (Pre : Pt → Array Value → Prop) (Post : Pt → Array Value → Option Value → Pt → Prop) (PostX : Pt → Array Value → Addr → Pt → Prop) : Prop :=
  ∀ (m : MethodId) (meth : Method) (c : Code) (A : Pt) (g : JFrame) (ig : Instr) (mk : MethodId) (a : Array Value),
    Stand p l e R s m sargs below meth c A.U A.locs A.cells A.slots → g.method = m → g.locals.size = c.maxLocals → decode c.code g.pc = .ok (ig, len) →
    2 * g.monitorRoom + (g.stack.map fun v => v.category).sum ≤ W9 → A.U.methodNamed? y = some mk → Pre A a →
    (∃ (v : Option Value) (B : Pt), Stand p l e R s m sargs below meth c B.U B.locs B.cells B.slots ∧ Post A a v B ∧
      Steps p.tables e below (doInvoke e (A.U.setTop g) [] mk a).1 (B.U.setTop { g with pc := g.pc + len, stack := v.toList ++ g.stack })) ∨
    (∃ (q : Addr) (B : Pt), Stand p l e R s m sargs below meth c B.U B.locs B.cells B.slots ∧ PostX A a q B ∧
      Steps p.tables e below (doInvoke e (A.U.setTop g) [] mk a).1 ((B.U.setTop g).pushFrame (.throwing q)))
section Payer
variable {l : Launch} {R : Room} {p : Program} {e : Env} {below : List Frame} {s : State} {sargs : Array Value} {y : MethodName} {len W9 : Nat}
theorem vx_back {ws : List Cond} {rm : Room} {Pc : Array Value → State → Prop} {Qc : Array Value → State → Outcome → State → Prop} {XC : String → State → State → Prop} {mc ms : Nat} {free : Addr → Prop} {bytes : ByteArray} {maxL : Nat} {ret : Option FieldType}
    (hM : vx_Met l y ws rm Pc Qc XC mc ms free) (hblind : FrameBlind Pc) (hrc : rm.cells = mc) (hrs : rm.slots = ms)
    (hframes : rm.frames + 1 ≤ R.frames) (hlocals : W9 + (maxL + 11) + rm.locals ≤ R.locals)
    (hws : ∀ w ∈ ws, ∀ a' U, s.WarmedH U.vm → w.before a' U = true) (hcode : Cond.code y bytes maxL ret ∈ ws) (hinit : ∀ a' U, s.WarmedH U.vm → (Cond.initialized y.cls).before a' U = true) :
    vx_Back l R p e below s sargs y len W9 (PreOf R mc ms Pc) (PostOf Qc mc ms free) (vx_Post XC mc ms free) := by
  intro m meth c A g ig mk a X hg hsize hdg hW hn hp
  have h1 : (headSpec ws rm).pre.before a A.U = true := atoms_intro fun w hw => hws w hw _ _ X.warmed
  have h2 : (Cond.code y bytes maxL ret).before a A.U = true := hws _ hcode _ _ X.warmed
  have h3 : (Cond.initialized y.cls).before a A.U = true := hinit _ _ X.warmed
  have h4 : A.cells + (headSpec ws rm).room.cells ≤ R.cells := by rw [show (headSpec ws rm).room.cells = mc from hrc]; exact hp.1
  have h5 : A.slots + (headSpec ws rm).room.slots ≤ R.slots := by rw [show (headSpec ws rm).room.slots = ms from hrs]; exact hp.2.1
  have hPc : Pc a (A.U.calling g mk a) := hblind _ _ _ _ hp.2.2
  obtain ⟨U, Ls, c0, s0⟩ := A
  dsimp only [Pt.U, Pt.locs, Pt.cells, Pt.slots] at h1 h2 h3 h4 h5 X hn hPc ⊢
  obtain ⟨methY, cY, hmY, hcY, -, hlY, -, -, -, -⟩ := Cond.code_spec hn h2
  obtain ⟨kY, hkY, -⟩ := className_of_methodNamed hn
  have hinitY : kY.init = .initialized := Cond.initialized_spec (findClass_of_methodNamed hn) hkY h3
  have h : At U g.method c below := by rw [hg]; exact X.here
  have hlocals9 : W9 + (maxL + 11) + (headSpec ws rm).room.locals ≤ R.locals := hlocals
  have happ : (headSpec ws rm).appliesLoose y e.platform (U.calling g mk a) = true :=
    Spec.appliesLoose_calling (g := g) h hdg hn hkY hinitY
      (X.room_calling (g := g) (R' := (headSpec ws rm).room) hsize hmY hcY hframes (by rw [hlY]; omega) h4 h5) h1
  obtain ⟨mid, hmid⟩ := h.above
  have hfr : (U.setTop g).frames = (.java g :: mid) ++ below := by rw [State.frames_setTop' g h.top, hmid]; rfl
  obtain ⟨o, s₂, hsteps, -, hend, hq⟩ := Steps.callFree hM p X.admits X.cas X.clock (acts := []) hfr happ hPc trivial
  have hq' : vx_Q Qc XC mc ms free a (U.calling g mk a) o s₂ := hq
  rw [State.frames_setTop' g h.top] at hend
  obtain ⟨g₀, hg0⟩ := Option.isSome_iff_exists.mp h.top
  obtain ⟨r, hr⟩ := State.topJava?_eq_some.mp hg0
  have hr' : (({ U with heap := s₂.heap, slotsUsed := s₂.slotsUsed } : State).setVm s₂.vm).frames = .java g₀ :: r := hr
  rcases hq' with ⟨hqc, L, hfe, hL⟩ | ⟨q, rfl, E, ce, L, hx, hce, hcv, hcl, hW₂, hsm, hL⟩
  · obtain ⟨⟨v, rfl⟩, hW₂, e2, q2, q3, q4, q5, q6⟩ := id hfe
    have e3 : s₂ = ({ (U.calling g mk a).setFrames s₂.frames with heap := s₂.heap, slotsUsed := s₂.slotsUsed } : State).setVm s₂.vm := by
      have : s₂ = ({ s₂ with vm := (U.calling g mk a).vm } : State).setVm s₂.vm := rfl
      rw [e2] at this
      exact this
    obtain ⟨c₂, i₂, len₂, hc₂, hd₂, hf₂⟩ := hend
    have hW' : U.WarmedH s₂.vm := hW₂
    have hcc : c₂ = c := by
      have h1 : s₂.code? g.method = U.code? g.method := by
        rw [State.code?_eq, State.code?_eq, hW'.alike.method?]
      exact Option.some.inj (hc₂.symm.trans (h1.trans h.code))
    subst hcc
    have hlen : len₂ = len := by rw [hdg] at hd₂; cases hd₂; rfl
    subst hlen
    have hs₂ : s₂ = (({ U with heap := s₂.heap, slotsUsed := s₂.slotsUsed } : State).setVm s₂.vm).setTop { g with pc := g.pc + len₂, stack := v.toList ++ g.stack } := by
      refine e3.trans ?_
      rw [hf₂, State.calling_eq h.top, State.setFrames_setFrames, State.setTop_of_frames _ hr', hr]
      rfl
    have hsame : U.sameButNew ({ U with heap := s₂.heap, slotsUsed := s₂.slotsUsed } : State) L mc ms := by
      refine ⟨?_, q2, q3, q4, q5, q6⟩
      obtain ⟨t, ht, -⟩ := State.frames_cons hr
      show ({ U with heap := s₂.heap, slotsUsed := s₂.slotsUsed } : State) = { U.setFrames U.frames with heap := s₂.heap, slotsUsed := s₂.slotsUsed }
      rw [State.setFrames_self ht]
    subst hg
    refine Or.inl ⟨v, ⟨(({ U with heap := s₂.heap, slotsUsed := s₂.slotsUsed } : State).setVm s₂.vm), Ls ++ L, c0 + mc, s0 + ms⟩,
      ⟨X.admits, X.cas, X.clock, X.frames, X.room, X.hears, X.method, X.code, (X.here.setHeapUsed s₂.heap s₂.slotsUsed).setVm hW'.alike, X.tail, State.WarmedH.trans X.warmed hW', X.limits, X.bytes, X.same.trans (hsame.setVm s.vm)⟩,
      ⟨g, mk, s₂, L, rfl, rfl, hqc, rfl, hL, rfl, rfl⟩, ?_⟩
    show Steps p.tables e below _ ((({ U with heap := s₂.heap, slotsUsed := s₂.slotsUsed } : State).setVm s₂.vm).setTop { g with pc := g.pc + len₂, stack := v.toList ++ g.stack })
    rw [← hs₂]
    exact hsteps
  · obtain ⟨e2, q2, q3, q4, q5, q6⟩ := id hsm
    have e3 : s₂ = ({ (U.calling g mk a).setFrames s₂.frames with heap := s₂.heap, slotsUsed := s₂.slotsUsed } : State).setVm s₂.vm := by
      have : s₂ = ({ s₂ with vm := (U.calling g mk a).vm } : State).setVm s₂.vm := rfl
      rw [e2] at this
      exact this
    have hf₂ : s₂.frames = .throwing q :: .java g :: U.frames.tail := hend
    have hW' : U.WarmedH s₂.vm := hW₂
    have hs₂ : s₂ = ((({ U with heap := s₂.heap, slotsUsed := s₂.slotsUsed } : State).setVm s₂.vm).setTop g).pushFrame (.throwing q) := by
      refine e3.trans ?_
      rw [hf₂, State.calling_eq h.top, State.setFrames_setFrames, State.pushFrame, State.frames_setTop _ hr', State.setTop_of_frames _ hr', State.setFrames_setFrames, hr]
      rfl
    have hsame : U.sameButNew ({ U with heap := s₂.heap, slotsUsed := s₂.slotsUsed } : State) L mc ms := by
      refine ⟨?_, q2, q3, q4, q5, q6⟩
      obtain ⟨t, ht, -⟩ := State.frames_cons hr
      show ({ U with heap := s₂.heap, slotsUsed := s₂.slotsUsed } : State) = { U.setFrames U.frames with heap := s₂.heap, slotsUsed := s₂.slotsUsed }
      rw [State.setFrames_self ht]
    subst hg
    refine Or.inr ⟨q, ⟨(({ U with heap := s₂.heap, slotsUsed := s₂.slotsUsed } : State).setVm s₂.vm), Ls ++ L, c0 + mc, s0 + ms⟩,
      ⟨X.admits, X.cas, X.clock, X.frames, X.room, X.hears, X.method, X.code, (X.here.setHeapUsed s₂.heap s₂.slotsUsed).setVm hW'.alike, X.tail, State.WarmedH.trans X.warmed hW', X.limits, X.bytes, X.same.trans (hsame.setVm s.vm)⟩,
      ⟨g, mk, s₂, L, E, ce, rfl, rfl, hx, hce, hcv, hcl, rfl, hL, rfl, rfl⟩, ?_⟩
    show Steps p.tables e below _ (((({ U with heap := s₂.heap, slotsUsed := s₂.slotsUsed } : State).setVm s₂.vm).setTop g).pushFrame (.throwing q))
    rw [← hs₂]
    exact hsteps
end Payer
section Calls
variable {p : Program} {l : Launch} {e : Env} {R : Room} {s : State} {m : MethodId} {args : Array Value} {below : List Frame} {meth : Method} {c : Code} {T : State} {locs : List Loc} {cells slots : Nat}
theorem vx_callV (X : Stand p l e R s m args below meth c T locs cells slots) (hexec : p.tables.exec = Jvm.exec) {own C : String} {index : Nat} {y : MethodName} {bytes : ByteArray} {maxL : Nat} {ret : Option FieldType}
    (hown : s.vm.findClass own = some m.cls) (hlink : (Cond.methodLink own index y).before args s = true) (hinst : (Cond.instanceMethod y).before args s = true) (hsel : (Cond.selects C y y).before args s = true)
    (hcode : (Cond.code y bytes maxL ret).before args s = true) (hy : y.cls ≠ "java/lang/invoke/MethodHandle" ∧ y.cls ≠ "java/lang/invoke/VarHandle")
    {W9 : Nat} {Pre : Pt → Array Value → Prop} {Post : Pt → Array Value → Option Value → Pt → Prop} {PostX : Pt → Array Value → Addr → Pt → Prop} (hK : vx_Back l R p e below s args y 3 W9 Pre Post PostX)
    {b : Addr} {cellB : Cell} (hcell : T.heap[b]? = some cellB) (hobj : cellB.vm.isStatics = false) (hcls : s.vm.findClass C = some cellB.cls)
    {g : JFrame} (hg : g.method = m) (hsize : g.locals.size = c.maxLocals) {argsL rest : List Value} (hlen : ∀ sig, parseMethodDescriptor y.desc = some sig → argsL.length = sig.parameters.length)
    (hstack : g.stack = argsL.reverse ++ .ref b :: rest) (hW : 2 * g.monitorRoom + (rest.map fun v => v.category).sum ≤ W9) (hdg : decode c.code g.pc = .ok (.invokevirtual index, 3))
    (hpre : ∀ vm₁, s.WarmedH vm₁ → Pre ⟨T.setVm vm₁, locs, cells, slots⟩ (Value.ref b :: argsL).toArray) :
    (∃ (v : Option Value) (vm₁ : Vm) (B : Pt), s.WarmedH vm₁ ∧ Stand p l e R s m args below meth c B.U B.locs B.cells B.slots ∧ Post ⟨T.setVm vm₁, locs, cells, slots⟩ (Value.ref b :: argsL).toArray v B ∧
      ∀ target, Steps p.tables e below (B.U.setTop { g with pc := g.pc + 3, stack := v.toList ++ rest }) target → Steps p.tables e below (T.setTop g) target) ∨
    (∃ (q : Addr) (vm₁ : Vm) (B : Pt), s.WarmedH vm₁ ∧ Stand p l e R s m args below meth c B.U B.locs B.cells B.slots ∧ PostX ⟨T.setVm vm₁, locs, cells, slots⟩ (Value.ref b :: argsL).toArray q B ∧
      Steps p.tables e below (T.setTop g) ((B.U.setTop { g with stack := rest }).pushFrame (.throwing q))) := by
  obtain ⟨mk, methM, hnamed, hmethM, hstM, habM⟩ := Cond.instanceMethod_spec hinst
  obtain ⟨methM', cM, hmethM', -, -, -, -, -, -, hsigM⟩ := Cond.code_spec hnamed hcode
  cases hmethM.symm.trans hmethM'
  obtain ⟨c2, r2, m2, q1, q2, q3, q4, kP, hkP, hkPi⟩ := Cond.selects_spec hsel
  cases hcls.symm.trans q1
  cases (State.methodFound?_of_named hnamed hy).symm.trans q2
  cases hnamed.symm.trans q3
  have hselP : selectMethod e.platform s.vm cellB.cls mk = .method mk := by rw [Launch.admits_selectMethod X.admits]; exact q4
  obtain ⟨vm₁, X₁, hstep₁⟩ := X.invokevirtual hexec hown hlink hnamed hmethM hstM hkP hkPi hy (a := b) (cell := cellB) hcell
    (fun z h => by rw [h] at hobj; cases hobj) hselP hmethM habM hkP hkPi (g := g) hg (argsL := argsL) (rest := rest) (hlen _ hsigM) hstack hdg
  rcases hK m meth c ⟨T.setVm vm₁, locs, cells, slots⟩ { g with stack := rest } (.invokevirtual index) mk (Value.ref b :: argsL).toArray X₁ hg hsize hdg hW (X₁.named hnamed) (hpre vm₁ X₁.warmed) with ⟨v, B, X', hpost, hsteps⟩ | ⟨q, B, X', hpost, hsteps⟩
  · exact Or.inl ⟨v, vm₁, B, X₁.warmed, X', hpost, fun target h => hstep₁ _ fun acts => by rw [doInvoke_state]; exact hsteps.trans h⟩
  · exact Or.inr ⟨q, vm₁, B, X₁.warmed, X', hpost, hstep₁ _ fun acts => by rw [doInvoke_state]; exact hsteps⟩
theorem vx_callS (X : Stand p l e R s m args below meth c T locs cells slots) (hexec : p.tables.exec = Jvm.exec) {own : String} {index : Nat} {y : MethodName} {bytes : ByteArray} {maxL : Nat} {ret : Option FieldType}
    (hown : s.vm.findClass own = some m.cls) (hlink : (Cond.methodLink own index y).before args s = true) (hstat : (Cond.static y).before args s = true) (hinit : (Cond.initialized y.cls).before args s = true)
    (hcode : (Cond.code y bytes maxL ret).before args s = true) (hy : y.cls ≠ "java/lang/invoke/MethodHandle" ∧ y.cls ≠ "java/lang/invoke/VarHandle")
    {W9 : Nat} {Pre : Pt → Array Value → Prop} {Post : Pt → Array Value → Option Value → Pt → Prop} {PostX : Pt → Array Value → Addr → Pt → Prop} (hK : vx_Back l R p e below s args y 3 W9 Pre Post PostX)
    {g : JFrame} (hg : g.method = m) (hsize : g.locals.size = c.maxLocals) {argsL rest : List Value} (hlen : ∀ sig, parseMethodDescriptor y.desc = some sig → argsL.length = sig.parameters.length)
    (hstack : g.stack = argsL.reverse ++ rest) (hW : 2 * g.monitorRoom + (rest.map fun v => v.category).sum ≤ W9) (hdg : decode c.code g.pc = .ok (.invokestatic index, 3))
    (hpre : ∀ vm₁, s.WarmedH vm₁ → Pre ⟨T.setVm vm₁, locs, cells, slots⟩ argsL.toArray) :
    (∃ (v : Option Value) (vm₁ : Vm) (B : Pt), s.WarmedH vm₁ ∧ Stand p l e R s m args below meth c B.U B.locs B.cells B.slots ∧ Post ⟨T.setVm vm₁, locs, cells, slots⟩ argsL.toArray v B ∧
      ∀ target, Steps p.tables e below (B.U.setTop { g with pc := g.pc + 3, stack := v.toList ++ rest }) target → Steps p.tables e below (T.setTop g) target) ∨
    (∃ (q : Addr) (vm₁ : Vm) (B : Pt), s.WarmedH vm₁ ∧ Stand p l e R s m args below meth c B.U B.locs B.cells B.slots ∧ PostX ⟨T.setVm vm₁, locs, cells, slots⟩ argsL.toArray q B ∧
      Steps p.tables e below (T.setTop g) ((B.U.setTop { g with stack := rest }).pushFrame (.throwing q))) := by
  obtain ⟨mk, hnamed⟩ := Cond.code_named hcode
  obtain ⟨methM, cM, hmethM, -, -, -, -, -, -, hsigM⟩ := Cond.code_spec hnamed hcode
  have hstatic : methM.isStatic = true := Cond.static_spec hnamed hmethM hstat
  obtain ⟨kP, hkP, -⟩ := className_of_methodNamed hnamed
  have hinitP : kP.init = .initialized := Cond.initialized_spec (findClass_of_methodNamed hnamed) hkP hinit
  obtain ⟨vm₁, X₁, hstep₁⟩ := X.invokestatic hexec hown hlink hnamed hmethM hstatic hkP hinitP hy (g := g) hg (argsL := argsL) (rest := rest) (hlen _ hsigM) hstack hdg
  rcases hK m meth c ⟨T.setVm vm₁, locs, cells, slots⟩ { g with stack := rest } (.invokestatic index) mk argsL.toArray X₁ hg hsize hdg hW (X₁.named hnamed) (hpre vm₁ X₁.warmed) with ⟨v, B, X', hpost, hsteps⟩ | ⟨q, B, X', hpost, hsteps⟩
  · exact Or.inl ⟨v, vm₁, B, X₁.warmed, X', hpost, fun target h => hstep₁ _ fun acts => by rw [doInvoke_state]; exact hsteps.trans h⟩
  · exact Or.inr ⟨q, vm₁, B, X₁.warmed, X', hpost, hstep₁ _ fun acts => by rw [doInvoke_state]; exact hsteps⟩
end Calls
theorem vx_cls {s : State} {T : State} {vm₁ : Vm} {E : String} {k : ClassId} (hW : s.WarmedH vm₁) (h : (T.setVm vm₁).vm.findClass E = some k) : s.vm.findClass E = some k := by
  have h1 : vm₁.findClass E = some k := h
  rw [hW.alike.findClass] at h1
  exact h1
/-- the method's frame g, with q thrown over it -/
def vx_W (p : Program) (l : Launch) (e : Env) (R : Room) (s : State) (m : MethodId) (args : Array Value) (below : List Frame) (meth : Method) (c : Code) (H : Heap) (locs : List Loc) (cells slots : Nat) (Q : State → Prop) (g : JFrame) (q : Addr) : Prop :=
  ∀ T : State, T.heap = H → Stand p l e R s m args below meth c T locs cells slots → ∃ t, Steps p.tables e below ((T.setTop g).pushFrame (.throwing q)) t ∧ Q t
def vx_Run (p : Program) (l : Launch) (e : Env) (R : Room) (s : State) (m : MethodId) (args : Array Value) (below : List Frame) (meth : Method) (c : Code) (H : Heap) (locs : List Loc) (cells slots mc ms : Nat) (g : JFrame) (rest : List Value) (Qa : State → Outcome → State → Prop) (XC : String → State → State → Prop) (free : Addr → Prop) : Prop :=
  ∀ T : State, T.heap = H → Stand p l e R s m args below meth c T locs cells slots →
    (∃ (v : Option Value) (st₀ t T' : State) (L : List Loc), st₀.heap = H ∧ Stand p l e R s m args below meth c T' (locs ++ L) (cells + mc) (slots + ms) ∧ (∀ q ∈ L, free q.base) ∧ T'.heap = t.heap ∧ T'.vm = t.vm ∧ Qa st₀ (.returned v) t ∧
      Goes p e below T g T' { g with pc := g.pc + 3, stack := v.toList ++ rest }) ∨
    (∃ (q : Addr) (st₀ t T' : State) (L : List Loc) (E : String) (ce : Cell), st₀.heap = H ∧ Stand p l e R s m args below meth c T' (locs ++ L) (cells + mc) (slots + ms) ∧ (∀ z ∈ L, free z.base) ∧ T'.heap = t.heap ∧ T'.vm = t.vm ∧ XC E st₀ t ∧ t.heap[q]? = some ce ∧ ce.vm = .none ∧ s.vm.findClass E = some ce.cls ∧
      Steps p.tables e below (T.setTop g) ((T'.setTop { g with stack := rest }).pushFrame (.throwing q)))
def vx_X {S : Type} (px : S → Prop) (B : String → S → State → Prop) (A : Nat → Prop) : String → State → State → Prop := fun E st t => ∃ u : S, px u ∧ B E u t ∧ va_F A st t
section Runs
variable {p : Program} {l : Launch} {e : Env} {R : Room} {s : State} {m : MethodId} {args : Array Value} {below : List Frame} {meth : Method} {c : Code} {H : Heap} {locs : List Loc} {cells slots : Nat}
variable {y : MethodName} {bytes cc : ByteArray} {maxL nL mc ms n index : Nat} {ret : Option FieldType} {ws : List Cond} {rm : Room} {Pc : Array Value → State → Prop} {Qc : Array Value → State → Outcome → State → Prop} {XC : String → State → State → Prop} {free : Addr → Prop} {Ts : List Cond} {own C : String} {b : Addr} {As rest : List Value} {g : JFrame}
theorem vx_callBack (cb : CallB R s args own index y bytes maxL ret ws rm mc ms n) (hM : vx_Met l y ws rm Pc Qc XC mc ms free) (hbl : FrameBlind Pc) : vx_Back l R p e below s args y 3 8 (PreOf R mc ms Pc) (PostOf Qc mc ms free) (vx_Post XC mc ms free) := by
  obtain ⟨hrc, hrs, hfr, hlo, hws, hcw, -, hini, -⟩ := cb
  exact vx_back (bytes := bytes) (maxL := maxL) (ret := ret) hM hbl hrc hrs hfr hlo hws hcw (fun a' U hW => word_at hW (Or.inl (by first | rfl | simp [Cond.onTables, Cond.keeps, Cond.steady])) hini)
theorem vx_runV (S : CallFix p m c cc nL s args Ts own) (hM : vx_Met l y ws rm Pc Qc XC mc ms free) (cw : CallW R s args own C index y bytes maxL ret ws rm mc ms n) (hp : PreV s H C b Pc As)
    (hg : g.method = m) (hn : As.length = n) (hsize : g.locals.size = nL) (hstack : g.stack = As.reverse ++ .ref b :: rest) (hW : 2 * g.monitorRoom + (rest.map fun v => v.category).sum ≤ 8) (hdg : decode cc g.pc = .ok (.invokevirtual index, 3)) (hf : cells + mc ≤ R.cells ∧ slots + ms ≤ R.slots) :
    vx_Run p l e R s m args below meth c H locs cells slots mc ms g rest (Qc (Value.ref b :: As).toArray) XC free := by
  have hK : vx_Back l R p e below s args y 3 8 (PreOf R mc ms Pc) (PostOf Qc mc ms free) (vx_Post XC mc ms free) := vx_callBack cw.1 hM hp.1
  obtain ⟨⟨-, -, -, -, -, -, hcode, -, hy, hlen, hl⟩, hin, hse⟩ := cw
  obtain ⟨hx, hb, hml, ho, -⟩ := S
  obtain ⟨-, ⟨cellB, hcB, hoB, hclB⟩, hPc⟩ := hp
  intro T hT X
  rcases vx_callV X hx (C := C) (bytes := bytes) (maxL := maxL) (ret := ret) ho hl hin hse hcode hy hK (by rw [hT]; exact hcB) hoB hclB hg (hsize.trans hml.symm) (argsL := As) (rest := rest) (fun sig h => hn.trans (hlen sig h)) hstack hW (by rw [hb]; exact hdg)
    (fun vm₁ hW₁ => ⟨hf.1, hf.2, hPc (T.setVm vm₁) hT hW₁⟩) with ⟨v, vm₁, ⟨U', l2, c2, s2⟩, hW₁, X', ⟨g', mk, t, L, e1, e2, hq, h1, hL, h2, h3⟩, st⟩ | ⟨q, vm₁, ⟨U', l2, c2, s2⟩, hW₁, X', ⟨g', mk, t, L, E, ce, e1, e2, hq, hce, hcv, hcl, h1, hL, h2, h3⟩, st⟩
  · dsimp only [Pt.U, Pt.locs, Pt.cells, Pt.slots] at X' e1 e2 h1 h2 h3 st
    subst h1; subst h2; subst h3
    exact Or.inl ⟨v, (T.setVm vm₁).calling g' mk (Value.ref b :: As).toArray, t, U', L, hT, X', hL, e1, e2, hq, st⟩
  · dsimp only [Pt.U, Pt.locs, Pt.cells, Pt.slots] at X' e1 e2 h1 h2 h3 st hcl
    subst h1; subst h2; subst h3
    exact Or.inr ⟨q, (T.setVm vm₁).calling g' mk (Value.ref b :: As).toArray, t, U', L, E, ce, hT, X', hL, e1, e2, hq, hce, hcv, vx_cls hW₁ hcl, st⟩
theorem vx_runS (S : CallFix p m c cc nL s args Ts own) (hM : vx_Met l y ws rm Pc Qc XC mc ms free) (cw : CallB R s args own index y bytes maxL ret ws rm mc ms n ∧ (Cond.static y).before args s = true) (hp : PreS s H Pc As)
    (hg : g.method = m) (hn : As.length = n) (hsize : g.locals.size = nL) (hstack : g.stack = As.reverse ++ rest) (hW : 2 * g.monitorRoom + (rest.map fun v => v.category).sum ≤ 8) (hdg : decode cc g.pc = .ok (.invokestatic index, 3)) (hf : cells + mc ≤ R.cells ∧ slots + ms ≤ R.slots) :
    vx_Run p l e R s m args below meth c H locs cells slots mc ms g rest (Qc As.toArray) XC free := by
  have hK : vx_Back l R p e below s args y 3 8 (PreOf R mc ms Pc) (PostOf Qc mc ms free) (vx_Post XC mc ms free) := vx_callBack cw.1 hM hp.1
  obtain ⟨⟨-, -, -, -, -, -, hcode, hini, hy, hlen, hl⟩, hstt⟩ := cw
  obtain ⟨hx, hb, hml, ho, -⟩ := S
  intro T hT X
  rcases vx_callS X hx (bytes := bytes) (maxL := maxL) (ret := ret) ho hl hstt hini hcode hy hK hg (hsize.trans hml.symm) (argsL := As) (rest := rest) (fun sig h => hn.trans (hlen sig h)) hstack hW (by rw [hb]; exact hdg)
    (fun vm₁ hW₁ => ⟨hf.1, hf.2, hp.2 (T.setVm vm₁) hT hW₁⟩) with ⟨v, vm₁, ⟨U', l2, c2, s2⟩, hW₁, X', ⟨g', mk, t, L, e1, e2, hq, h1, hL, h2, h3⟩, st⟩ | ⟨q, vm₁, ⟨U', l2, c2, s2⟩, hW₁, X', ⟨g', mk, t, L, E, ce, e1, e2, hq, hce, hcv, hcl, h1, hL, h2, h3⟩, st⟩
  · dsimp only [Pt.U, Pt.locs, Pt.cells, Pt.slots] at X' e1 e2 h1 h2 h3 st
    subst h1; subst h2; subst h3
    exact Or.inl ⟨v, (T.setVm vm₁).calling g' mk As.toArray, t, U', L, hT, X', hL, e1, e2, hq, st⟩
  · dsimp only [Pt.U, Pt.locs, Pt.cells, Pt.slots] at X' e1 e2 h1 h2 h3 st hcl
    subst h1; subst h2; subst h3
    exact Or.inr ⟨q, (T.setVm vm₁).calling g' mk As.toArray, t, U', L, E, ce, hT, X', hL, e1, e2, hq, hce, hcv, vx_cls hW₁ hcl, st⟩
end Runs
section Rows
variable {p : Program} {l : Launch} {e : Env} {R : Room} {s : State} {m : MethodId} {args : Array Value} {below : List Frame} {meth : Method} {c : Code} {H : Heap} {locs : List Loc} {cells slots : Nat} {Q : State → Prop}
variable {mc ms : Nat} {free : Addr → Prop} {A0 A1 : Nat → Prop} {H0 : Heap} {a : Array Value} {pc : Nat} {ls : Array Slot} {st0 rest : List Value}
theorem vx_keep {st₀ t T' : State} {L : List Loc} (h0 : st₀.heap = H) (e1 : T'.heap = t.heap) (hS : va_S A0 H0 H locs) (hA : ∀ q, q < H.size → A1 q → A0 q) (hf : ∀ q, free q → A0 q) (hL : ∀ q ∈ L, free q.base) (hF : va_F A1 st₀ t) :
    H.size ≤ T'.heap.size ∧ (∀ q : Nat, q < H.size → ¬ A1 q → T'.heap[q]? = H[q]?) ∧ va_S A0 H0 T'.heap (locs ++ L) := by
  obtain ⟨hz, hk⟩ := hF
  rw [h0] at hz hk
  exact ⟨by rw [e1]; exact hz, fun q h1 h2 => by rw [e1]; exact hk q h1 h2,
    ⟨Nat.le_trans hS.1 (by rw [e1]; exact hz), fun q h1 h2 => by rw [e1, hk q (Nat.lt_of_lt_of_le h1 hS.1) (fun z => h2 (hA q (Nat.lt_of_lt_of_le h1 hS.1) z))]; exact hS.2.1 q h1 h2, fun q hq => by
      rcases List.mem_append.mp hq with h | h
      · exact hS.2.2 q h
      · exact hf _ (hL q h)⟩⟩
theorem vx_calli {S SX : Type} {post : Int32 → S → Prop} {px : SX → Prop} {B : S → State → Prop} {BX : String → SX → State → Prop} {AX : Nat → Prop} (hr : vx_Run p l e R s m args below meth c H locs cells slots mc ms (F0 m pc ls st0) rest (va_Qi post B A1 a) (vx_X px BX AX) free) (hS : va_S A0 H0 H locs) (hA : ∀ q, q < H.size → A1 q → A0 q) (hf : ∀ q, free q → A0 q) (hAX : ∀ q, q < H.size → AX q → A0 q)
    (kx : ∀ (E : String) (ce : Cell) (q9 : Addr) (u : SX) (t : State) (H1 : Heap) (locs1 : List Loc), t.heap = H1 → s.vm.Alike t.vm → px u → BX E u t → H.size ≤ H1.size → (∀ q : Nat, q < H.size → ¬ AX q → H1[q]? = H[q]?) → va_S A0 H0 H1 locs1 → H1[q9]? = some ce → ce.vm = .none → s.vm.findClass E = some ce.cls → vx_W p l e R s m args below meth c H1 locs1 (cells + mc) (slots + ms) Q (F0 m pc ls rest) q9)
    (kk : ∀ (r : Int32) (u : S) (t : State) (H1 : Heap) (locs1 : List Loc), t.heap = H1 → s.vm.Alike t.vm → post r u → B u t → H.size ≤ H1.size → (∀ q : Nat, q < H.size → ¬ A1 q → H1[q]? = H[q]?) → va_S A0 H0 H1 locs1 → W p l e R s m args below meth c H1 locs1 (cells + mc) (slots + ms) Q (F0 m (pc + 3) ls (.int r :: rest))) : W p l e R s m args below meth c H locs cells slots Q (F0 m pc ls st0) := by
  intro T hT X
  rcases hr T hT X with ⟨v, st₀, t, T', L, h0, X', hL, e1, e2, ⟨⟨r, u, hv, hp, hb⟩, hF⟩, st⟩ | ⟨q, st₀, t, T', L, E, ce, h0, X', hL, e1, e2, ⟨u, hp, hb, hF⟩, hce, hcv, hcl, st⟩
  · cases hv
    obtain ⟨k1, k2, k3⟩ := vx_keep h0 e1 hS hA hf hL hF
    obtain ⟨t2, a1, b1⟩ := kk r u t T'.heap (locs ++ L) e1.symm (by rw [← e2]; exact X'.warmed.alike) hp hb k1 k2 k3 T' rfl X'
    exact ⟨t2, st t2 a1, b1⟩
  · obtain ⟨k1, k2, k3⟩ := vx_keep h0 e1 hS hAX hf hL hF
    obtain ⟨t2, a1, b1⟩ := kx E ce q u t T'.heap (locs ++ L) e1.symm (by rw [← e2]; exact X'.warmed.alike) hp hb k1 k2 k3 (by rw [e1]; exact hce) hcv hcl T' rfl X'
    exact ⟨t2, st.trans a1, b1⟩
theorem vx_calll {S SX : Type} {post : Int64 → S → Prop} {px : SX → Prop} {B : S → State → Prop} {BX : String → SX → State → Prop} {AX : Nat → Prop} (hr : vx_Run p l e R s m args below meth c H locs cells slots mc ms (F0 m pc ls st0) rest (va_Ql post B A1 a) (vx_X px BX AX) free) (hS : va_S A0 H0 H locs) (hA : ∀ q, q < H.size → A1 q → A0 q) (hf : ∀ q, free q → A0 q) (hAX : ∀ q, q < H.size → AX q → A0 q)
    (kx : ∀ (E : String) (ce : Cell) (q9 : Addr) (u : SX) (t : State) (H1 : Heap) (locs1 : List Loc), t.heap = H1 → s.vm.Alike t.vm → px u → BX E u t → H.size ≤ H1.size → (∀ q : Nat, q < H.size → ¬ AX q → H1[q]? = H[q]?) → va_S A0 H0 H1 locs1 → H1[q9]? = some ce → ce.vm = .none → s.vm.findClass E = some ce.cls → vx_W p l e R s m args below meth c H1 locs1 (cells + mc) (slots + ms) Q (F0 m pc ls rest) q9)
    (kk : ∀ (r : Int64) (u : S) (t : State) (H1 : Heap) (locs1 : List Loc), t.heap = H1 → s.vm.Alike t.vm → post r u → B u t → H.size ≤ H1.size → (∀ q : Nat, q < H.size → ¬ A1 q → H1[q]? = H[q]?) → va_S A0 H0 H1 locs1 → W p l e R s m args below meth c H1 locs1 (cells + mc) (slots + ms) Q (F0 m (pc + 3) ls (.long r :: rest))) : W p l e R s m args below meth c H locs cells slots Q (F0 m pc ls st0) := by
  intro T hT X
  rcases hr T hT X with ⟨v, st₀, t, T', L, h0, X', hL, e1, e2, ⟨⟨r, u, hv, hp, hb⟩, hF⟩, st⟩ | ⟨q, st₀, t, T', L, E, ce, h0, X', hL, e1, e2, ⟨u, hp, hb, hF⟩, hce, hcv, hcl, st⟩
  · cases hv
    obtain ⟨k1, k2, k3⟩ := vx_keep h0 e1 hS hA hf hL hF
    obtain ⟨t2, a1, b1⟩ := kk r u t T'.heap (locs ++ L) e1.symm (by rw [← e2]; exact X'.warmed.alike) hp hb k1 k2 k3 T' rfl X'
    exact ⟨t2, st t2 a1, b1⟩
  · obtain ⟨k1, k2, k3⟩ := vx_keep h0 e1 hS hAX hf hL hF
    obtain ⟨t2, a1, b1⟩ := kx E ce q u t T'.heap (locs ++ L) e1.symm (by rw [← e2]; exact X'.warmed.alike) hp hb k1 k2 k3 (by rw [e1]; exact hce) hcv hcl T' rfl X'
    exact ⟨t2, st.trans a1, b1⟩
theorem vx_callf {S SX : Type} {post : UInt32 → S → Prop} {px : SX → Prop} {B : S → State → Prop} {BX : String → SX → State → Prop} {AX : Nat → Prop} (hr : vx_Run p l e R s m args below meth c H locs cells slots mc ms (F0 m pc ls st0) rest (va_Qf post B A1 a) (vx_X px BX AX) free) (hS : va_S A0 H0 H locs) (hA : ∀ q, q < H.size → A1 q → A0 q) (hf : ∀ q, free q → A0 q) (hAX : ∀ q, q < H.size → AX q → A0 q)
    (kx : ∀ (E : String) (ce : Cell) (q9 : Addr) (u : SX) (t : State) (H1 : Heap) (locs1 : List Loc), t.heap = H1 → s.vm.Alike t.vm → px u → BX E u t → H.size ≤ H1.size → (∀ q : Nat, q < H.size → ¬ AX q → H1[q]? = H[q]?) → va_S A0 H0 H1 locs1 → H1[q9]? = some ce → ce.vm = .none → s.vm.findClass E = some ce.cls → vx_W p l e R s m args below meth c H1 locs1 (cells + mc) (slots + ms) Q (F0 m pc ls rest) q9)
    (kk : ∀ (r : UInt32) (u : S) (t : State) (H1 : Heap) (locs1 : List Loc), t.heap = H1 → s.vm.Alike t.vm → post r u → B u t → H.size ≤ H1.size → (∀ q : Nat, q < H.size → ¬ A1 q → H1[q]? = H[q]?) → va_S A0 H0 H1 locs1 → W p l e R s m args below meth c H1 locs1 (cells + mc) (slots + ms) Q (F0 m (pc + 3) ls (.float r :: rest))) : W p l e R s m args below meth c H locs cells slots Q (F0 m pc ls st0) := by
  intro T hT X
  rcases hr T hT X with ⟨v, st₀, t, T', L, h0, X', hL, e1, e2, ⟨⟨r, u, hv, hp, hb⟩, hF⟩, st⟩ | ⟨q, st₀, t, T', L, E, ce, h0, X', hL, e1, e2, ⟨u, hp, hb, hF⟩, hce, hcv, hcl, st⟩
  · cases hv
    obtain ⟨k1, k2, k3⟩ := vx_keep h0 e1 hS hA hf hL hF
    obtain ⟨t2, a1, b1⟩ := kk r u t T'.heap (locs ++ L) e1.symm (by rw [← e2]; exact X'.warmed.alike) hp hb k1 k2 k3 T' rfl X'
    exact ⟨t2, st t2 a1, b1⟩
  · obtain ⟨k1, k2, k3⟩ := vx_keep h0 e1 hS hAX hf hL hF
    obtain ⟨t2, a1, b1⟩ := kx E ce q u t T'.heap (locs ++ L) e1.symm (by rw [← e2]; exact X'.warmed.alike) hp hb k1 k2 k3 (by rw [e1]; exact hce) hcv hcl T' rfl X'
    exact ⟨t2, st.trans a1, b1⟩
theorem vx_calld {S SX : Type} {post : UInt64 → S → Prop} {px : SX → Prop} {B : S → State → Prop} {BX : String → SX → State → Prop} {AX : Nat → Prop} (hr : vx_Run p l e R s m args below meth c H locs cells slots mc ms (F0 m pc ls st0) rest (va_Qd post B A1 a) (vx_X px BX AX) free) (hS : va_S A0 H0 H locs) (hA : ∀ q, q < H.size → A1 q → A0 q) (hf : ∀ q, free q → A0 q) (hAX : ∀ q, q < H.size → AX q → A0 q)
    (kx : ∀ (E : String) (ce : Cell) (q9 : Addr) (u : SX) (t : State) (H1 : Heap) (locs1 : List Loc), t.heap = H1 → s.vm.Alike t.vm → px u → BX E u t → H.size ≤ H1.size → (∀ q : Nat, q < H.size → ¬ AX q → H1[q]? = H[q]?) → va_S A0 H0 H1 locs1 → H1[q9]? = some ce → ce.vm = .none → s.vm.findClass E = some ce.cls → vx_W p l e R s m args below meth c H1 locs1 (cells + mc) (slots + ms) Q (F0 m pc ls rest) q9)
    (kk : ∀ (r : UInt64) (u : S) (t : State) (H1 : Heap) (locs1 : List Loc), t.heap = H1 → s.vm.Alike t.vm → post r u → B u t → H.size ≤ H1.size → (∀ q : Nat, q < H.size → ¬ A1 q → H1[q]? = H[q]?) → va_S A0 H0 H1 locs1 → W p l e R s m args below meth c H1 locs1 (cells + mc) (slots + ms) Q (F0 m (pc + 3) ls (.double r :: rest))) : W p l e R s m args below meth c H locs cells slots Q (F0 m pc ls st0) := by
  intro T hT X
  rcases hr T hT X with ⟨v, st₀, t, T', L, h0, X', hL, e1, e2, ⟨⟨r, u, hv, hp, hb⟩, hF⟩, st⟩ | ⟨q, st₀, t, T', L, E, ce, h0, X', hL, e1, e2, ⟨u, hp, hb, hF⟩, hce, hcv, hcl, st⟩
  · cases hv
    obtain ⟨k1, k2, k3⟩ := vx_keep h0 e1 hS hA hf hL hF
    obtain ⟨t2, a1, b1⟩ := kk r u t T'.heap (locs ++ L) e1.symm (by rw [← e2]; exact X'.warmed.alike) hp hb k1 k2 k3 T' rfl X'
    exact ⟨t2, st t2 a1, b1⟩
  · obtain ⟨k1, k2, k3⟩ := vx_keep h0 e1 hS hAX hf hL hF
    obtain ⟨t2, a1, b1⟩ := kx E ce q u t T'.heap (locs ++ L) e1.symm (by rw [← e2]; exact X'.warmed.alike) hp hb k1 k2 k3 (by rw [e1]; exact hce) hcv hcl T' rfl X'
    exact ⟨t2, st.trans a1, b1⟩
theorem vx_callv {S SX : Type} {post : S → Prop} {px : SX → Prop} {B : S → State → Prop} {BX : String → SX → State → Prop} {AX : Nat → Prop} (hr : vx_Run p l e R s m args below meth c H locs cells slots mc ms (F0 m pc ls st0) rest (va_Qv post B A1 a) (vx_X px BX AX) free) (hS : va_S A0 H0 H locs) (hA : ∀ q, q < H.size → A1 q → A0 q) (hf : ∀ q, free q → A0 q) (hAX : ∀ q, q < H.size → AX q → A0 q)
    (kx : ∀ (E : String) (ce : Cell) (q9 : Addr) (u : SX) (t : State) (H1 : Heap) (locs1 : List Loc), t.heap = H1 → s.vm.Alike t.vm → px u → BX E u t → H.size ≤ H1.size → (∀ q : Nat, q < H.size → ¬ AX q → H1[q]? = H[q]?) → va_S A0 H0 H1 locs1 → H1[q9]? = some ce → ce.vm = .none → s.vm.findClass E = some ce.cls → vx_W p l e R s m args below meth c H1 locs1 (cells + mc) (slots + ms) Q (F0 m pc ls rest) q9)
    (kk : ∀ (u : S) (t : State) (H1 : Heap) (locs1 : List Loc), t.heap = H1 → s.vm.Alike t.vm → post u → B u t → H.size ≤ H1.size → (∀ q : Nat, q < H.size → ¬ A1 q → H1[q]? = H[q]?) → va_S A0 H0 H1 locs1 → W p l e R s m args below meth c H1 locs1 (cells + mc) (slots + ms) Q (F0 m (pc + 3) ls (rest))) : W p l e R s m args below meth c H locs cells slots Q (F0 m pc ls st0) := by
  intro T hT X
  rcases hr T hT X with ⟨v, st₀, t, T', L, h0, X', hL, e1, e2, ⟨⟨u, hv, hp, hb⟩, hF⟩, st⟩ | ⟨q, st₀, t, T', L, E, ce, h0, X', hL, e1, e2, ⟨u, hp, hb, hF⟩, hce, hcv, hcl, st⟩
  · cases hv
    obtain ⟨k1, k2, k3⟩ := vx_keep h0 e1 hS hA hf hL hF
    obtain ⟨t2, a1, b1⟩ := kk u t T'.heap (locs ++ L) e1.symm (by rw [← e2]; exact X'.warmed.alike) hp hb k1 k2 k3 T' rfl X'
    exact ⟨t2, st t2 a1, b1⟩
  · obtain ⟨k1, k2, k3⟩ := vx_keep h0 e1 hS hAX hf hL hF
    obtain ⟨t2, a1, b1⟩ := kx E ce q u t T'.heap (locs ++ L) e1.symm (by rw [← e2]; exact X'.warmed.alike) hp hb k1 k2 k3 (by rw [e1]; exact hce) hcv hcl T' rfl X'
    exact ⟨t2, st.trans a1, b1⟩
/-- caught by the row x of this method's table; the rows ahead don't take it -/
theorem vx_catch {own name : String} {E : String} {ce : Cell} {q : Addr} (hown : s.vm.findClass own = some m.cls) (pre : List ExceptionTableEntry) (x : ExceptionTableEntry) (suf : List ExceptionTableEntry) (hsplit : c.exceptionTable.toList = pre ++ x :: suf)
    (hpass : ∀ z ∈ pre, covers z pc = false ∨ (z.catchType ≠ 0 ∧ ∃ nm : String, (Cond.classLink own z.catchType nm).before args s = true ∧ va_Nc E nm s)) (hx : covers x pc = true) (h0 : x.catchType ≠ 0)
    (hlink : (Cond.classLink own x.catchType name).before args s = true) (hcast : (Cond.castable E name).before args s = true) (hcell : H[q]? = some ce) (hv : ce.vm = .none) (hcl : s.vm.findClass E = some ce.cls)
    (kk : W p l e R s m args below meth c H locs cells slots Q (F0 m x.handlerPc ls [.ref q])) : vx_W p l e R s m args below meth c H locs cells slots Q (F0 m pc ls rest) q := by
  intro T hT X
  have hpl : e.platform.magicAccessors = ({} : Platform).magicAccessors := by rw [X.admits.platform]
  obtain ⟨c3, c4, hc3, hc4, hasg⟩ := Cond.castable_spec hcast
  cases Option.some.inj (hc3.symm.trans hcl)
  obtain ⟨c5, hc5, hcl5⟩ := Cond.classLink_spec hown hlink e.platform hpl
  cases Option.some.inj (hc4.symm.trans hc5)
  obtain ⟨vm', X', st⟩ := X.thenCaughtThrough q (g := F0 m pc ls rest) rfl (Steps.refl _) (by rw [hT]; exact hcell) (by rw [hv]; rfl) (by obtain ⟨k9, h9, -⟩ := Vm.findClass_spec hcl; exact ⟨k9, h9⟩) pre x suf hsplit
    (fun z hz => by
      rcases hpass z hz with h | ⟨hz0, nm, hl1, hn1⟩
      · exact Or.inl h
      · obtain ⟨c6, hc6, hcl6⟩ := Cond.classLink_spec hown hl1 e.platform hpl
        obtain ⟨a8, b8, h1, h2, h3⟩ := hn1
        cases Option.some.inj (h1.symm.trans hcl)
        cases Option.some.inj (h2.symm.trans hc6)
        exact Or.inr ⟨hz0, _, hcl6, h3⟩) hx (Or.inr ⟨h0, c4, hcl5, hasg⟩)
  obtain ⟨t, a1, b1⟩ := kk (T.setVm vm') hT X'
  exact ⟨t, st.trans a1, b1⟩
end Rows
section Ends
variable {p : Program} {l : Launch} {e : Env} {R : Room} {s : State} {m : MethodId} {args : Array Value} {below : List Frame} {meth : Method} {c : Code} {H : Heap} {locs : List Loc} {cells slots : Nat} {Q : State → Prop}
variable {mc ms : Nat} {free : Addr → Prop} {A0 A1 : Nat → Prop} {H0 : Heap} {a : Array Value} {ls : Array Slot} {st0 rest : List Value}
variable {Qc : Array Value → State → Outcome → State → Prop} {XC : String → State → State → Prop}
/-- what a body that may throw owes at its end -/
def vx_MQ (below : List Frame) (Qc : Array Value → State → Outcome → State → Prop) (XC : String → State → State → Prop) (a : Array Value) (s : State) (mc ms : Nat) (free : Addr → Prop) : State → Prop := fun t =>
  ∃ o, t.status = .running ∧ Ended t below o ∧ vx_Q Qc XC mc ms free a s o t
theorem vx_ret {g : JFrame} {mc ms : Nat} (k : W p l e R s m args below meth c H locs cells slots (MQ below Qc args s mc ms free) g) : W p l e R s m args below meth c H locs cells slots (vx_MQ below Qc XC args s mc ms free) g := by
  intro T hT X
  obtain ⟨t, a1, o, b1, b2, b3, b4⟩ := k T hT X
  exact ⟨t, a1, o, b1, b2, Or.inl ⟨b3, b4⟩⟩
/-- not caught here: it goes on to the caller -/
theorem vx_widen {g : JFrame} {q : Addr} {k n : Nat} (h1 : cells ≤ k) (h2 : slots ≤ n) (kk : vx_W p l e R s m args below meth c H locs k n Q g q) : vx_W p l e R s m args below meth c H locs cells slots Q g q := fun T hT X => kk T hT (stand_widen X h1 h2)
theorem vx_out {pc : Nat} {E : String} {ce : Cell} {q : Addr} {mc ms : Nat} (hout : ∀ x ∈ c.exceptionTable.toList, covers x pc = false) (hlocks : meth.locks = false) (hcell : H[q]? = some ce) (hv : ce.vm = .none) (hcl : s.vm.findClass E = some ce.cls)
    (hx : ∀ t : State, t.heap = H → s.vm.Alike t.vm → XC E s t) (hf : ∀ z ∈ locs, free z.base) (hc : cells ≤ mc) (hs : slots ≤ ms) :
    vx_W p l e R s m args below meth c H locs cells slots (vx_MQ below Qc XC args s mc ms free) (F0 m pc ls rest) q := by
  intro T hT X
  obtain ⟨st1, hrun, hend, hW, hsm⟩ := X.leaveThrown q (g := F0 m pc ls rest) rfl rfl rfl hout hlocks
  have hcell9 : (T.setFrames (.throwing q :: below)).heap[q]? = some ce := by
    show T.heap[q]? = some ce
    rw [hT]; exact hcell
  exact ⟨_, st1, .threw q, hrun, hend, Or.inr ⟨q, rfl, E, ce, locs, hx _ hT hW.alike, hcell9, hv, hcl, hW, hsm.mono hc hs, hf⟩⟩
theorem vx_frame {U : State} {k n : Nat} (h : s.sameButNew ({ U with vm := s.vm } : State) locs k n) : s.heap.size ≤ U.heap.size ∧ ∀ q : Nat, q < s.heap.size → (∀ z ∈ locs, z.base ≠ q) → U.heap[q]? = s.heap[q]? := by
  obtain ⟨-, h2, -, -, -, h6⟩ := h
  refine ⟨h2, fun q hq hz => ?_⟩
  obtain ⟨c9, e1, e2, e3, e4⟩ := h6 q _ (Array.getElem?_eq_getElem hq)
  have hs : c9.slots = (s.heap[q]).slots := Array.ext_getElem? fun i => e4 i fun hm => hz _ hm rfl
  have h9 : c9 = s.heap[q] := by
    rw [hs] at e2
    exact e2
  have e5 : U.heap[q]? = some c9 := e1
  rw [e5, h9, Array.getElem?_eq_getElem hq]
/-- the words of a throw but the four that speak of the heap -/
def vx_no (w : Cond) : Bool := decide (w ≠ .isRef (.static Bundle.tN "UNASSIGNED_STACK" Bundle.steD)) && decide (w ≠ .isRef (.static Bundle.tN "SUPPRESSED_SENTINEL" Bundle.listD)) && decide (w ≠ .laysStatic Bundle.tN "UNASSIGNED_STACK" Bundle.steD) && decide (w ≠ .laysStatic Bundle.tN "SUPPRESSED_SENTINEL" Bundle.listD)
def vx_at0 (own : String) (ic : Nat) (X : String) (names : List String) : List Cond := (Bundle.ownAtoms0 own ic X names).filter vx_no
def vx_atS (own : String) (ic : Nat) (X : String) (names : List String) : List Cond := (Bundle.ownAtoms own ic X names).filter vx_no
/-- a word that the tables alone decide, or a good one -/
def vx_ot (w : Cond) : Bool := w.onTables || goodWord w
theorem vx_ot_at {args a' : Array Value} {s U : State} {w : Cond} (hW : s.WarmedH U.vm) (hvm : s.vm = U.vm) (hg : vx_ot w = true) (h : w.before args s = true) : w.before a' U = true := by
  simp only [vx_ot, Bool.or_eq_true] at hg
  rcases hg with hg | hg
  · exact va_tabs hg hvm h
  · exact word_at hW (good_of_word hg) h
/-- a list's words: the good ones out of the method's own list, the others by premises of their own -/
theorem vx_hat {args : Array Value} {s : State} {L B : List Cond} (h1 : ∀ w ∈ L.filter goodWord, w.before args s = true) (h2 : ∀ w ∈ L.filter (fun w => !goodWord w), w ∈ B) (h3 : ∀ w ∈ B, w.before args s = true) : ∀ w ∈ L, w.before args s = true := by
  intro w hw
  by_cases g : goodWord w = true
  · exact h1 w (List.mem_filter.mpr ⟨hw, g⟩)
  · refine h3 w (h2 w (List.mem_filter.mpr ⟨hw, ?_⟩))
    show (!goodWord w) = true
    cases hgw : goodWord w
    · rfl
    · exact absurd hgw g
theorem vx_c {args : Array Value} {s : State} {w : Cond} {B : List Cond} (h : w.before args s = true) (t : ∀ w ∈ B, w.before args s = true) : ∀ w' ∈ w :: B, w'.before args s = true := fun w' h' => (List.mem_cons.mp h').elim (fun e => by rw [e]; exact h) (t w')
theorem vx_n {args : Array Value} {s : State} : ∀ w ∈ ([] : List Cond), w.before args s = true := fun _ h => nomatch h
theorem vx_own {args : Array Value} {s : State} {L : List Cond} (h1 : ∀ w ∈ L.filter vx_no, w.before args s = true)
    (hU : (Cond.isRef (.static Bundle.tN "UNASSIGNED_STACK" Bundle.steD)).before args s = true) (hN : (Cond.isRef (.static Bundle.tN "SUPPRESSED_SENTINEL" Bundle.listD)).before args s = true)
    (lU : (Cond.laysStatic Bundle.tN "UNASSIGNED_STACK" Bundle.steD).before args s = true) (lN : (Cond.laysStatic Bundle.tN "SUPPRESSED_SENTINEL" Bundle.listD).before args s = true) : ∀ w ∈ L, w.before args s = true := by
  intro w hw
  by_cases e1 : w = .isRef (.static Bundle.tN "UNASSIGNED_STACK" Bundle.steD)
  · rw [e1]; exact hU
  · by_cases e2 : w = .isRef (.static Bundle.tN "SUPPRESSED_SENTINEL" Bundle.listD)
    · rw [e2]; exact hN
    · by_cases e3 : w = .laysStatic Bundle.tN "UNASSIGNED_STACK" Bundle.steD
      · rw [e3]; exact lU
      · by_cases e4 : w = .laysStatic Bundle.tN "SUPPRESSED_SENTINEL" Bundle.listD
        · rw [e4]; exact lN
        · exact h1 w (List.mem_filter.mpr ⟨hw, by unfold vx_no; rw [decide_eq_true e1, decide_eq_true e2, decide_eq_true e3, decide_eq_true e4]; rfl⟩)
/-- where a static field lies, its class's statics cell in H -/
def vx_L (C n d : String) (A : Nat → Prop) (U : State) (H : Heap) : Prop := ∃ (c : ClassId) (k : Class) (i : Nat) (f : Field) (a : Nat) (cell : Cell), U.vm.findClass C = some c ∧ U.fieldFound? C n d = some (c, k, i, f) ∧ f.isStatic = true ∧ k.statics = some a ∧ H[a]? = some cell ∧ cell.vm.isStatics = true ∧ cell.cls = c ∧ f.slot < cell.slots.size ∧ k.staticTypes[f.slot]? = some f.type ∧ ¬ A a
theorem vx_L.moved {C n d : String} {A : Nat → Prop} {u U : State} {H : Heap} (hvm : u.vm.Alike U.vm) (h : vx_L C n d A u H) : vx_L C n d A U H := by
  obtain ⟨c, k, i, f, a, cell, h1, h2, h3, h4, h5, h6, h7, h8, h9, h10⟩ := h
  obtain ⟨k', hi', he⟩ := State.fieldFound?_setVm hvm h2
  exact ⟨c, k', i, f, a, cell, by rw [hvm.findClass]; exact h1, hi', h3, by rw [he]; exact h4, h5, h6, h7, h8, by rw [he]; exact h9, h10⟩
theorem vx_L.kept {C n d : String} {A : Nat → Prop} {U : State} {H H1 : Heap} (h : vx_L C n d A U H) (hq : ∀ a : Nat, a < H.size → ¬ A a → H1[a]? = H[a]?) : vx_L C n d A U H1 := by
  obtain ⟨c, k, i, f, a, cell, h1, h2, h3, h4, h5, h6, h7, h8, h9, h10⟩ := h
  exact ⟨c, k, i, f, a, cell, h1, h2, h3, h4, by rw [hq a (Array.getElem?_eq_some_iff.mp h5).1 h10]; exact h5, h6, h7, h8, h9, h10⟩
theorem vx_L.narrow {C n d : String} {A B : Nat → Prop} {U : State} {H : Heap} (h : vx_L C n d A U H) (hAB : ∀ q, B q → A q) : vx_L C n d B U H := by
  obtain ⟨c, k, i, f, a, cell, h1, h2, h3, h4, h5, h6, h7, h8, h9, h10⟩ := h
  exact ⟨c, k, i, f, a, cell, h1, h2, h3, h4, h5, h6, h7, h8, h9, fun z => h10 (hAB _ z)⟩
theorem vx_L.word {C n d : String} {A : Nat → Prop} {s : State} {args : Array Value} (h : vx_L C n d A s s.heap) : (Cond.laysStatic C n d).before args s = true := by
  obtain ⟨c, k, i, f, a, cell, h1, h2, h3, h4, h5, h6, h7, h8, h9, -⟩ := h
  show (Cond.laysStatic C n d).holds args s none s [] = true
  exact Cond.laysStatic_of h1 h2 h3 h4 h5 h6 h7 h8 h9
/-- .. and what it holds: null or some reference -/
def vx_Zq (C n d : String) (A : Nat → Prop) (U : State) (H : Heap) : Prop := va_Zq C n d A U H ∧ vx_L C n d A U H
theorem vx_Zq.moved {C n d : String} {A : Nat → Prop} {u U : State} {H : Heap} (hvm : u.vm.Alike U.vm) (h : vx_Zq C n d A u H) : vx_Zq C n d A U H := ⟨va_Zq.moved hvm h.1, vx_L.moved hvm h.2⟩
theorem vx_Zq.kept {C n d : String} {A : Nat → Prop} {U : State} {H H1 : Heap} (h : vx_Zq C n d A U H) (hq : ∀ a : Nat, a < H.size → ¬ A a → H1[a]? = H[a]?) : vx_Zq C n d A U H1 := ⟨va_Zq.kept h.1 hq, vx_L.kept h.2 hq⟩
theorem vx_Zq.narrow {C n d : String} {A B : Nat → Prop} {U : State} {H : Heap} (h : vx_Zq C n d A U H) (hAB : ∀ q, B q → A q) : vx_Zq C n d B U H := ⟨va_Zq.narrow h.1 hAB, vx_L.narrow h.2 hAB⟩
theorem vx_Zqof {args : Array Value} {s : State} {C n d : String} {A : Nat → Prop} (hl : (Cond.laysStatic C n d).before args s = true) (hini : (Cond.initialized C).before args s = true) (h : (Cond.isRef (.static C n d)).before args s = true) (hA : ∀ a : Nat, a < s.heap.size → ¬ A a) : vx_Zq C n d A s s.heap := by
  refine ⟨va_Zqof hl hini h hA, ?_⟩
  obtain ⟨c, k, i, f, a, cell, h1, h2, h3, h4, h5, h6, h7, h8, h9⟩ := Cond.laysStatic_spec hl
  exact ⟨c, k, i, f, a, cell, h1, h2, h3, h4, h5, h6, h7, h8, h9, hA a (Array.getElem?_eq_some_iff.mp h5).1⟩
theorem vx_isRef {C n d : String} {v : Value} {A : Nat → Prop} {s : State} {args : Array Value} (h : va_Z C n d v A s s.heap) (hv : v.isRef = true) : (Cond.isRef (.static C n d)).before args s = true := by
  obtain ⟨cf, kf, fi, f, a, cell, h1, h2, h3, h4, h5, h6, h7, -⟩ := h
  have he : (Term.static C n d).eval args s none [] s = some v := by
    simp [Term.eval, State.fieldNamed?, h1, h2, h4, h5, h6, h7]
  simp only [Cond.before, Cond.holds, Cond.value, he]
  cases v <;> simp_all [Value.isRef]
theorem vx_isRefq {C n d : String} {A : Nat → Prop} {s : State} {args : Array Value} (h : va_Zq C n d A s s.heap) : (Cond.isRef (.static C n d)).before args s = true := by
  rcases h with h | ⟨t, h⟩
  · exact vx_isRef h rfl
  · exact vx_isRef h rfl
/-- the same frame, seen from here: as if the method were called anew in this heap -/
theorem vx_rebase {T : State} (X : Stand p l e R s m args below meth c T locs cells slots) {R' : Room} (hf : R'.frames ≤ R.frames) (hl : R'.locals ≤ R.locals) (hc : cells + R'.cells ≤ R.cells) (hs : slots + R'.slots ≤ R.slots) :
    Stand p l e R' ((T.setVm s.vm).setFrames (.invoking m args :: below)) m args below meth c T [] 0 0 := by
  have htop : (T.setVm s.vm).topJava?.isSome := X.here.top
  have hF : ((T.setVm s.vm).setFrames (.invoking m args :: below)).frames = .invoking m args :: below := State.frames_setFrames _ (State.cur_lt_of_top htop)
  obtain ⟨g₀, hg0⟩ := Option.isSome_iff_exists.mp htop
  obtain ⟨r, hr⟩ := State.topJava?_eq_some.mp hg0
  have hl9 : e.platform.stackLimits (T.setVm s.vm).me = e.platform.stackLimits s.me := X.limits
  have hb9 : (T.setVm s.vm).me.stackBytes = s.me.stackBytes := X.bytes
  refine ⟨X.admits, X.cas, X.clock, hF, ?_, X.hears, X.method, X.code, X.here, X.tail, X.warmed, ?_, ?_, ?_⟩
  · have h := X.room
    have hU : ((T.setVm s.vm).setFrames (.invoking m args :: below)).localsInUse = s.localsInUse := by
      rw [State.localsInUse_invoking hF (meth := meth) (c := c) X.method X.code, State.localsInUse_invoking X.frames X.method X.code]
    simp only [State.hasRoom, Bool.and_eq_true, decide_eq_true_eq] at h ⊢
    obtain ⟨⟨⟨⟨h1, h2, h3, h4, h5, h6⟩, h7⟩, h8⟩, h9⟩ := h
    rw [X.frames, List.length_cons] at h2 h3
    have q1 := X.heapSize
    have q2 := X.used
    simp only [hF, hU, List.length_cons, State.stackLimits_setFrames, State.stackBytes_setFrames, hl9, hb9]
    refine ⟨⟨⟨⟨by omega, by omega, by omega, by omega, by omega, h6⟩, ?_⟩, ?_⟩, X.book⟩
    · show T.heap.size + R'.cells ≤ e.platform.maxCells
      omega
    · show T.slotsUsed + R'.slots ≤ e.platform.maxSlots
      omega
  · rw [State.stackLimits_setFrames]; rfl
  · rw [State.stackBytes_setFrames]; rfl
  · refine ⟨?_, Nat.le_refl _, Nat.le_refl _, ?_, ?_, fun a c9 h9 => ⟨c9, h9, rfl, rfl, fun _ _ => rfl⟩⟩
    · obtain ⟨t, ht, -⟩ := State.frames_cons hr
      show T.setVm s.vm = { ((T.setVm s.vm).setFrames (.invoking m args :: below)).setFrames (T.setVm s.vm).frames with heap := T.heap, slotsUsed := T.slotsUsed }
      rw [State.setFrames_setFrames, State.setFrames_self ht]
      rfl
    · show T.slotsUsed = T.slotsUsed + ((T.heap.toList.drop T.heap.size).map (·.slots.size)).sum
      rw [List.drop_eq_nil_of_le (Nat.le_of_eq Array.length_toList)]
      rfl
    · show ((T.heap.toList.drop T.heap.size).map (·.slots.size)).sum ≤ 0
      rw [List.drop_eq_nil_of_le (Nat.le_of_eq Array.length_toList)]
      exact Nat.le_refl _
/-- 'throw new E()': new; dup; invokespecial; athrow -/
theorem vx_throw0 {cc : ByteArray} {pc : Nat} (hexec : p.tables.exec = Jvm.exec) (hb : c.code = cc) (hl : l.stackTraces = false) {own cls : String} {names : List String} {ik ic mc ms : Nat} {A : Nat → Prop}
    (hown : s.vm.findClass own = some m.cls) (hcls : Bundle.fit cls = true) (hnames : ∀ n ∈ names, Bundle.fit n = true)
    (hk : (Cond.classLink own ik cls).before args s = true) (hini : (Cond.initialized cls).before args s = true) (hat : ∀ w ∈ vx_at0 own ic cls names, w.before args s = true)
    (hgood : ∀ w ∈ Cond.classLink own ik cls :: Cond.initialized cls :: vx_at0 own ic cls names, vx_ot w = true)
    (hU : vx_Zq Bundle.tN "UNASSIGNED_STACK" Bundle.steD A s s.heap) (hN : vx_Zq Bundle.tN "SUPPRESSED_SENTINEL" Bundle.listD A s s.heap) (hS : va_S A s.heap H locs) (hsize : ls.size = c.maxLocals)
    (d0 : decode cc pc = .ok (.new ik, 3)) (d3 : decode cc (pc + 3) = .ok (.dup, 1)) (d4 : decode cc (pc + 4) = .ok (.invokespecial ic, 3)) (d7 : decode cc (pc + 7) = .ok (.athrow, 1))
    (hout : ∀ x ∈ c.exceptionTable.toList, covers x (pc + 7) = false)
    (hRframes : names.length + 3 < R.frames) (hRlocals : (rest.map fun v => v.category).sum + (13 * (names.length + 1) + 42) ≤ R.locals) (hRcells : cells + 1 ≤ R.cells) (hRslots : slots + 6 ≤ R.slots) (hlocks : meth.locks = false)
    (hx : ∀ t : State, s.vm.Alike t.vm → H.size ≤ t.heap.size → (∀ q : Nat, q < H.size → t.heap[q]? = H[q]?) → XC cls s t)
    (hf : ∀ z ∈ locs, free z.base) (hc : cells + 1 ≤ mc) (hs : slots + 6 ≤ ms) :
    W p l e R s m args below meth c H locs cells slots (vx_MQ below Qc XC args s mc ms free) (F0 m pc ls rest) := by
  intro T hT X
  have htr : e.platform.stackTraces = false := (show e.platform.stackTraces = l.stackTraces by rw [X.admits.platform]).trans hl
  have Y := vx_rebase X (R' := { frames := R.frames, locals := R.locals, cells := 1, slots := 6 }) (Nat.le_refl _) (Nat.le_refl _) hRcells hRslots
  obtain ⟨s', hA⟩ : ∃ z, z = (T.setVm s.vm).setFrames (.invoking m args :: below) := ⟨_, rfl⟩
  rw [← hA] at Y
  have hvm : s'.vm = s.vm := by rw [hA]; rfl
  have hhp : s'.heap = H := by rw [hA]; exact hT
  have hW0 : s.WarmedH s'.vm := by rw [hvm]; exact State.WarmedH.refl s
  have hat' : ∀ w ∈ vx_at0 own ic cls names, w.before args s' = true := fun w hw => vx_ot_at hW0 hvm.symm (hgood w (List.mem_cons_of_mem _ (List.mem_cons_of_mem _ hw))) (hat w hw)
  have hk' : (Cond.classLink own ik cls).before args s' = true := vx_ot_at hW0 hvm.symm (hgood _ List.mem_cons_self) hk
  have hini' : (Cond.initialized cls).before args s' = true := vx_ot_at hW0 hvm.symm (hgood _ (List.mem_cons_of_mem _ List.mem_cons_self)) hini
  have hU' : vx_Zq Bundle.tN "UNASSIGNED_STACK" Bundle.steD A s' s'.heap := by rw [hhp]; exact vx_Zq.moved hW0.alike (hU.kept hS.2.1)
  have hN' : vx_Zq Bundle.tN "SUPPRESSED_SENTINEL" Bundle.listD A s' s'.heap := by rw [hhp]; exact vx_Zq.moved hW0.alike (hN.kept hS.2.1)
  have h : ∀ w ∈ Bundle.ownAtoms0 own ic cls names, w.before args s' = true := vx_own hat' (vx_isRefq hU'.1) (vx_isRefq hN'.1) hU'.2.word hN'.2.word
  have hown' : s'.vm.findClass own = some m.cls := by rw [hvm]; exact hown
  have hins : (Cond.instantiable cls 6).before args s' = true := h _ (by simp [Bundle.ownAtoms0])
  obtain ⟨vm₁, cX, kX, hfX, hkX, -, -, X₁, st1⟩ := Y.newCold hexec (own := own) (C := cls) (index := ik) (n := 6) hown' hk' hins hini'
    (g := F0 m pc ls rest) rfl (by rw [hb]; exact d0) (Nat.le_refl _) (Nat.le_refl _)
  generalize hT1 : (T.setVm vm₁).pushCell { cls := cX, slots := kX.instanceTypes.map defaultValue, vm := .none } = T1 at X₁ st1
  have hcat : (Value.ref T.heap.size).category = 1 := rfl
  have hcellA : T1.heap[T.heap.size]? = some (freshCell cX kX) := by rw [← hT1]; exact State.heap_pushCell_size _ _
  have d3' : decode c.code (pc + 3) = .ok (.dup, 1) := by rw [hb]; exact d3
  obtain ⟨U, hsteps, hrun, hend, hW, hsame, ce, hce, hO⟩ := X₁.ctorThrow0 hexec htr (own := own) (cls := cls) (names := names) (ic := ic) hown' hcls hnames h (fun x hx => nomatch hx) hfX hkX hcellA (by rw [hhp, hT]; exact Nat.le_refl _)
    (g := { method := m, pc := pc + 4, locals := ls, stack := .ref T.heap.size :: .ref T.heap.size :: rest, locked := none }) rfl hsize rfl rfl (rest := rest) rfl
    (by rw [hb]; exact d4) (by rw [hb]; exact d7) hout hRframes (by simp only [List.map_cons, List.sum_cons, hcat]; omega) hlocks
  obtain ⟨f1, f2⟩ := vx_frame hsame
  rw [hhp] at f1 f2
  have hWs : s.WarmedH U.vm := State.WarmedH.trans hW0 hW
  have hcl : s.vm.findClass cls = some ce.cls := by
    have h9 := hO.cls
    rw [hvm] at h9
    exact h9
  have hall : s.sameButNew ({ U with vm := s.vm } : State) locs mc ms := by
    subst hA
    obtain ⟨e1, e2⟩ := hsame
    rw [State.setFrames_setFrames] at e1
    have h2 : (T.setVm s.vm).sameButNew ({ U with vm := s.vm } : State) [] (0 + 1) (0 + 6) := ⟨e1, e2⟩
    have h3 := X.same.trans h2
    rw [List.append_nil] at h3
    exact h3.mono hc hs
  refine ⟨U, ?_, .threw T.heap.size, hrun, hend, Or.inr ⟨T.heap.size, rfl, cls, ce, locs, hx U hWs.alike f1 (fun q hq => f2 q hq (fun z hz => nomatch hz)), hce, hO.vm, hcl, hWs, hall, hf⟩⟩
  refine st1 _ ?_
  show Steps p.tables e below (T1.setTop { method := m, pc := pc + 3, locals := ls, stack := .ref T.heap.size :: rest, locked := none }) _
  jvm_step X₁.here [X₁.here.top, hexec, d3', Value.category]
  exact hsteps
/-- 'throw new E("text")': new; dup; ldc; invokespecial; athrow -/
theorem vx_throwS {cc : ByteArray} {pc : Nat} (hexec : p.tables.exec = Jvm.exec) (hb : c.code = cc) (hl : l.stackTraces = false) {own cls text : String} {names : List String} {ik is ic mc ms sa : Nat} {A : Nat → Prop}
    (hown : s.vm.findClass own = some m.cls) (hcls : Bundle.fit cls = true) (hnames : ∀ n ∈ names, Bundle.fit n = true)
    (hk : (Cond.classLink own ik cls).before args s = true) (hini : (Cond.initialized cls).before args s = true) (hstr : vk_R own is text sa s) (hat : ∀ w ∈ vx_atS own ic cls names, w.before args s = true)
    (hgood : ∀ w ∈ Cond.classLink own ik cls :: Cond.initialized cls :: vx_atS own ic cls names, vx_ot w = true)
    (hU : vx_Zq Bundle.tN "UNASSIGNED_STACK" Bundle.steD A s s.heap) (hN : vx_Zq Bundle.tN "SUPPRESSED_SENTINEL" Bundle.listD A s s.heap) (hS : va_S A s.heap H locs) (hsize : ls.size = c.maxLocals)
    (d0 : decode cc pc = .ok (.new ik, 3)) (d3 : decode cc (pc + 3) = .ok (.dup, 1)) (d4 : decode cc (pc + 4) = .ok (.ldc is, 2)) (d6 : decode cc (pc + 6) = .ok (.invokespecial ic, 3)) (d9 : decode cc (pc + 9) = .ok (.athrow, 1))
    (hout : ∀ x ∈ c.exceptionTable.toList, covers x (pc + 9) = false)
    (hRframes : names.length + 3 < R.frames) (hRlocals : (rest.map fun v => v.category).sum + (13 * (names.length + 1) + 43) ≤ R.locals) (hRcells : cells + 1 ≤ R.cells) (hRslots : slots + 6 ≤ R.slots) (hlocks : meth.locks = false)
    (hx : ∀ t : State, s.vm.Alike t.vm → H.size ≤ t.heap.size → (∀ q : Nat, q < H.size → t.heap[q]? = H[q]?) → XC cls s t)
    (hf : ∀ z ∈ locs, free z.base) (hc : cells + 1 ≤ mc) (hs : slots + 6 ≤ ms) :
    W p l e R s m args below meth c H locs cells slots (vx_MQ below Qc XC args s mc ms free) (F0 m pc ls rest) := by
  intro T hT X
  have htr : e.platform.stackTraces = false := (show e.platform.stackTraces = l.stackTraces by rw [X.admits.platform]).trans hl
  have Y := vx_rebase X (R' := { frames := R.frames, locals := R.locals, cells := 1, slots := 6 }) (Nat.le_refl _) (Nat.le_refl _) hRcells hRslots
  obtain ⟨s', hA⟩ : ∃ z, z = (T.setVm s.vm).setFrames (.invoking m args :: below) := ⟨_, rfl⟩
  rw [← hA] at Y
  have hvm : s'.vm = s.vm := by rw [hA]; rfl
  have hhp : s'.heap = H := by rw [hA]; exact hT
  have hW0 : s.WarmedH s'.vm := by rw [hvm]; exact State.WarmedH.refl s
  have hat' : ∀ w ∈ vx_atS own ic cls names, w.before args s' = true := fun w hw => vx_ot_at hW0 hvm.symm (hgood w (List.mem_cons_of_mem _ (List.mem_cons_of_mem _ hw))) (hat w hw)
  have hk' : (Cond.classLink own ik cls).before args s' = true := vx_ot_at hW0 hvm.symm (hgood _ List.mem_cons_self) hk
  have hini' : (Cond.initialized cls).before args s' = true := vx_ot_at hW0 hvm.symm (hgood _ (List.mem_cons_of_mem _ List.mem_cons_self)) hini
  have hU' : vx_Zq Bundle.tN "UNASSIGNED_STACK" Bundle.steD A s' s'.heap := by rw [hhp]; exact vx_Zq.moved hW0.alike (hU.kept hS.2.1)
  have hN' : vx_Zq Bundle.tN "SUPPRESSED_SENTINEL" Bundle.listD A s' s'.heap := by rw [hhp]; exact vx_Zq.moved hW0.alike (hN.kept hS.2.1)
  have h : ∀ w ∈ Bundle.ownAtoms own ic cls names, w.before args s' = true := vx_own hat' (vx_isRefq hU'.1) (vx_isRefq hN'.1) hU'.2.word hN'.2.word
  have hown' : s'.vm.findClass own = some m.cls := by rw [hvm]; exact hown
  have hins : (Cond.instantiable cls 6).before args s' = true := h _ (by simp [Bundle.ownAtoms])
  obtain ⟨vm₁, cX, kX, hfX, hkX, -, -, X₁, st1⟩ := Y.newCold hexec (own := own) (C := cls) (index := ik) (n := 6) hown' hk' hins hini'
    (g := F0 m pc ls rest) rfl (by rw [hb]; exact d0) (Nat.le_refl _) (Nat.le_refl _)
  generalize hT1 : (T.setVm vm₁).pushCell { cls := cX, slots := kX.instanceTypes.map defaultValue, vm := .none } = T1 at X₁ st1
  have hcat : (Value.ref T.heap.size).category = 1 := rfl
  have hcellA : T1.heap[T.heap.size]? = some (freshCell cX kX) := by rw [← hT1]; exact State.heap_pushCell_size _ _
  have d3' : decode c.code (pc + 3) = .ok (.dup, 1) := by rw [hb]; exact d3
  have d4' : decode c.code (pc + 4) = .ok (.ldc is, 2) := by rw [hb]; exact d4
  have hstr' : vk_R own is text sa s' := vk_R.warm hW0 hstr
  obtain ⟨U, hsteps, hrun, hend, hW, hsame, ce, hce, hO⟩ := X₁.ctorThrowS hexec htr (own := own) (cls := cls) (names := names) (ic := ic) hown' hcls hnames h (fun x hx => nomatch hx) hfX hkX hcellA (by rw [hhp, hT]; exact Nat.le_refl _) (msg := .ref sa) rfl
    (g := { method := m, pc := pc + 6, locals := ls, stack := .ref sa :: .ref T.heap.size :: .ref T.heap.size :: rest, locked := none }) rfl hsize rfl rfl (rest := rest) rfl
    (by rw [hb]; exact d6) (by rw [hb]; exact d9) hout hRframes (by simp only [List.map_cons, List.sum_cons, hcat]; omega) hlocks
  obtain ⟨f1, f2⟩ := vx_frame hsame
  rw [hhp] at f1 f2
  have hWs : s.WarmedH U.vm := State.WarmedH.trans hW0 hW
  have hcl : s.vm.findClass cls = some ce.cls := by
    have h9 := hO.cls
    rw [hvm] at h9
    exact h9
  have hall : s.sameButNew ({ U with vm := s.vm } : State) locs mc ms := by
    subst hA
    obtain ⟨e1, e2⟩ := hsame
    rw [State.setFrames_setFrames] at e1
    have h2 : (T.setVm s.vm).sameButNew ({ U with vm := s.vm } : State) [] (0 + 1) (0 + 6) := ⟨e1, e2⟩
    have h3 := X.same.trans h2
    rw [List.append_nil] at h3
    exact h3.mono hc hs
  refine ⟨U, ?_, .threw T.heap.size, hrun, hend, Or.inr ⟨T.heap.size, rfl, cls, ce, locs, hx U hWs.alike f1 (fun q hq => f2 q hq (fun z hz => nomatch hz)), hce, hO.vm, hcl, hWs, hall, hf⟩⟩
  refine st1 _ ?_
  show Steps p.tables e below (T1.setTop { method := m, pc := pc + 3, locals := ls, stack := .ref T.heap.size :: rest, locked := none }) _
  jvm_step X₁.here [X₁.here.top, hexec, d3', Value.category]
  exact X₁.ldcString hexec (own := own) (text := text) (index := is) (a := sa) hown' hstr'.1 hstr'.2
    (g := { method := m, pc := pc + 4, locals := ls, stack := .ref T.heap.size :: .ref T.heap.size :: rest, locked := none }) rfl d4' _ hsteps
/-- 'throw new E("text")', the text by a wide index -/
theorem vx_throwSW {cc : ByteArray} {pc : Nat} (hexec : p.tables.exec = Jvm.exec) (hb : c.code = cc) (hl : l.stackTraces = false) {own cls text : String} {names : List String} {ik is ic mc ms sa : Nat} {A : Nat → Prop}
    (hown : s.vm.findClass own = some m.cls) (hcls : Bundle.fit cls = true) (hnames : ∀ n ∈ names, Bundle.fit n = true)
    (hk : (Cond.classLink own ik cls).before args s = true) (hini : (Cond.initialized cls).before args s = true) (hstr : vk_R own is text sa s) (hat : ∀ w ∈ vx_atS own ic cls names, w.before args s = true)
    (hgood : ∀ w ∈ Cond.classLink own ik cls :: Cond.initialized cls :: vx_atS own ic cls names, vx_ot w = true)
    (hU : vx_Zq Bundle.tN "UNASSIGNED_STACK" Bundle.steD A s s.heap) (hN : vx_Zq Bundle.tN "SUPPRESSED_SENTINEL" Bundle.listD A s s.heap) (hS : va_S A s.heap H locs) (hsize : ls.size = c.maxLocals)
    (d0 : decode cc pc = .ok (.new ik, 3)) (d3 : decode cc (pc + 3) = .ok (.dup, 1)) (d4 : decode cc (pc + 4) = .ok (.ldc_w is, 3)) (d7 : decode cc (pc + 7) = .ok (.invokespecial ic, 3)) (d10 : decode cc (pc + 10) = .ok (.athrow, 1))
    (hout : ∀ x ∈ c.exceptionTable.toList, covers x (pc + 10) = false)
    (hRframes : names.length + 3 < R.frames) (hRlocals : (rest.map fun v => v.category).sum + (13 * (names.length + 1) + 43) ≤ R.locals) (hRcells : cells + 1 ≤ R.cells) (hRslots : slots + 6 ≤ R.slots) (hlocks : meth.locks = false)
    (hx : ∀ t : State, s.vm.Alike t.vm → H.size ≤ t.heap.size → (∀ q : Nat, q < H.size → t.heap[q]? = H[q]?) → XC cls s t)
    (hf : ∀ z ∈ locs, free z.base) (hc : cells + 1 ≤ mc) (hs : slots + 6 ≤ ms) :
    W p l e R s m args below meth c H locs cells slots (vx_MQ below Qc XC args s mc ms free) (F0 m pc ls rest) := by
  intro T hT X
  have htr : e.platform.stackTraces = false := (show e.platform.stackTraces = l.stackTraces by rw [X.admits.platform]).trans hl
  have Y := vx_rebase X (R' := { frames := R.frames, locals := R.locals, cells := 1, slots := 6 }) (Nat.le_refl _) (Nat.le_refl _) hRcells hRslots
  obtain ⟨s', hA⟩ : ∃ z, z = (T.setVm s.vm).setFrames (.invoking m args :: below) := ⟨_, rfl⟩
  rw [← hA] at Y
  have hvm : s'.vm = s.vm := by rw [hA]; rfl
  have hhp : s'.heap = H := by rw [hA]; exact hT
  have hW0 : s.WarmedH s'.vm := by rw [hvm]; exact State.WarmedH.refl s
  have hat' : ∀ w ∈ vx_atS own ic cls names, w.before args s' = true := fun w hw => vx_ot_at hW0 hvm.symm (hgood w (List.mem_cons_of_mem _ (List.mem_cons_of_mem _ hw))) (hat w hw)
  have hk' : (Cond.classLink own ik cls).before args s' = true := vx_ot_at hW0 hvm.symm (hgood _ List.mem_cons_self) hk
  have hini' : (Cond.initialized cls).before args s' = true := vx_ot_at hW0 hvm.symm (hgood _ (List.mem_cons_of_mem _ List.mem_cons_self)) hini
  have hU' : vx_Zq Bundle.tN "UNASSIGNED_STACK" Bundle.steD A s' s'.heap := by rw [hhp]; exact vx_Zq.moved hW0.alike (hU.kept hS.2.1)
  have hN' : vx_Zq Bundle.tN "SUPPRESSED_SENTINEL" Bundle.listD A s' s'.heap := by rw [hhp]; exact vx_Zq.moved hW0.alike (hN.kept hS.2.1)
  have h : ∀ w ∈ Bundle.ownAtoms own ic cls names, w.before args s' = true := vx_own hat' (vx_isRefq hU'.1) (vx_isRefq hN'.1) hU'.2.word hN'.2.word
  have hown' : s'.vm.findClass own = some m.cls := by rw [hvm]; exact hown
  have hins : (Cond.instantiable cls 6).before args s' = true := h _ (by simp [Bundle.ownAtoms])
  obtain ⟨vm₁, cX, kX, hfX, hkX, -, -, X₁, st1⟩ := Y.newCold hexec (own := own) (C := cls) (index := ik) (n := 6) hown' hk' hins hini'
    (g := F0 m pc ls rest) rfl (by rw [hb]; exact d0) (Nat.le_refl _) (Nat.le_refl _)
  generalize hT1 : (T.setVm vm₁).pushCell { cls := cX, slots := kX.instanceTypes.map defaultValue, vm := .none } = T1 at X₁ st1
  have hcat : (Value.ref T.heap.size).category = 1 := rfl
  have hcellA : T1.heap[T.heap.size]? = some (freshCell cX kX) := by rw [← hT1]; exact State.heap_pushCell_size _ _
  have d3' : decode c.code (pc + 3) = .ok (.dup, 1) := by rw [hb]; exact d3
  have d4' : decode c.code (pc + 4) = .ok (.ldc_w is, 3) := by rw [hb]; exact d4
  have hstr' : vk_R own is text sa s' := vk_R.warm hW0 hstr
  obtain ⟨U, hsteps, hrun, hend, hW, hsame, ce, hce, hO⟩ := X₁.ctorThrowS hexec htr (own := own) (cls := cls) (names := names) (ic := ic) hown' hcls hnames h (fun x hx => nomatch hx) hfX hkX hcellA (by rw [hhp, hT]; exact Nat.le_refl _) (msg := .ref sa) rfl
    (g := { method := m, pc := pc + 7, locals := ls, stack := .ref sa :: .ref T.heap.size :: .ref T.heap.size :: rest, locked := none }) rfl hsize rfl rfl (rest := rest) rfl
    (by rw [hb]; exact d7) (by rw [hb]; exact d10) hout hRframes (by simp only [List.map_cons, List.sum_cons, hcat]; omega) hlocks
  obtain ⟨f1, f2⟩ := vx_frame hsame
  rw [hhp] at f1 f2
  have hWs : s.WarmedH U.vm := State.WarmedH.trans hW0 hW
  have hcl : s.vm.findClass cls = some ce.cls := by
    have h9 := hO.cls
    rw [hvm] at h9
    exact h9
  have hall : s.sameButNew ({ U with vm := s.vm } : State) locs mc ms := by
    subst hA
    obtain ⟨e1, e2⟩ := hsame
    rw [State.setFrames_setFrames] at e1
    have h2 : (T.setVm s.vm).sameButNew ({ U with vm := s.vm } : State) [] (0 + 1) (0 + 6) := ⟨e1, e2⟩
    have h3 := X.same.trans h2
    rw [List.append_nil] at h3
    exact h3.mono hc hs
  refine ⟨U, ?_, .threw T.heap.size, hrun, hend, Or.inr ⟨T.heap.size, rfl, cls, ce, locs, hx U hWs.alike f1 (fun q hq => f2 q hq (fun z hz => nomatch hz)), hce, hO.vm, hcl, hWs, hall, hf⟩⟩
  refine st1 _ ?_
  show Steps p.tables e below (T1.setTop { method := m, pc := pc + 3, locals := ls, stack := .ref T.heap.size :: rest, locked := none }) _
  jvm_step X₁.here [X₁.here.top, hexec, d3', Value.category]
  exact X₁.ldcStringW hexec (own := own) (text := text) (index := is) (a := sa) hown' hstr'.1 hstr'.2
    (g := { method := m, pc := pc + 4, locals := ls, stack := .ref T.heap.size :: .ref T.heap.size :: rest, locked := none }) rfl d4' _ hsteps
end Ends
section Bodies
variable {l : Launch}
theorem vx_ofW {y : MethodName} {ws ws' : List Cond} {rm : Room} {Pc : Array Value → State → Prop} {Qc : Array Value → State → Outcome → State → Prop} {XC : String → State → State → Prop} {mc ms : Nat} {free : Addr → Prop} {cc : ByteArray} {maxL : Nat} {ret : Option FieldType}
    (hy : plainName y.cls = true) (hw : ws = Cond.code y cc maxL ret :: ws')
    (body : ∀ p e s m args below meth c s₁, BodyLoose p l y (headSpec ws rm) cc maxL ret e s m args below meth c s₁ → c.maxLocals = maxL → (∀ x ∈ c.exceptionTable.toList, False) → Pc args s →
      W p l e (headSpec ws rm).room s m args below meth c s.heap [] 0 0 (vx_MQ below Qc XC args s mc ms free) (entryFrame m args maxL)) : vx_Met l y ws rm Pc Qc XC mc ms free := by
  refine MetFree.of_bodyS (code := cc) (maxLocals := maxL) (ret := ret) hy ?_ ?_
  · intro args s m h hn
    obtain ⟨meth, c, h1, h2, h3, h4, h5, h6, -, -⟩ := Cond.code_spec hn (atoms_spec (ws := ws) h _ (by rw [hw]; exact List.mem_cons_self))
    exact ⟨meth, c, h1, h2, h3, h4, h5, h6⟩
  · intro p e s m args below meth c s₁ B hml hP _
    have hh0 : s₁.heap = s.heap := by rw [B.state]; rfl
    have ht : ∀ x ∈ c.exceptionTable.toList, False := by
      obtain ⟨meth9, c9, h1, h2, -, -, -, -, h7, -⟩ := Cond.code_spec B.named (atoms_spec (ws := ws) B.pre _ (by rw [hw]; exact List.mem_cons_self))
      cases Option.some.inj (h1.symm.trans B.method)
      cases Option.some.inj (h2.symm.trans (Stand.of_body B).code)
      intro x hx
      rw [Array.isEmpty_iff.mp h7] at hx
      cases hx
    obtain ⟨t, a1, o, b1, b2, b3⟩ := body p e s m args below meth c s₁ B hml ht hP s₁ hh0 (Stand.of_body B)
    exact ⟨t, o, a1, b1, b2, b3⟩
/-- the table of a body with handlers -/
theorem vx_table {p : Program} {x y : MethodName} {S : Spec} {cc bytes : ByteArray} {maxL maxL' : Nat} {ret ret' : Option FieldType} {e : Env} {s s₁ : State} {m : MethodId} {args : Array Value} {below : List Frame} {meth : Method} {c : Code} {hh : List (Nat × Nat × Nat × Nat)}
    (B : BodyLoose p l y S cc maxL ret e s m args below meth c s₁) (h : (Cond.codeWith y bytes maxL' ret' hh).before args s = true) : c.exceptionTable.toList = tableOf hh := by
  obtain ⟨m9, meth9, c9, hn9, h1, h2, -, -, h6, -⟩ := Cond.codeWith_spec h
  cases Option.some.inj (hn9.symm.trans B.named)
  cases Option.some.inj (h1.symm.trans B.method)
  cases Option.some.inj (h2.symm.trans (Stand.of_body B).code)
  rw [← h6, table_eq]
end Bodies
end VXA
/-! ===== END ===== -/
/-! ===== BEGIN a static call of a method with an exception table ===== -/
section VXS
variable {p : Program} {l : Launch} {e : Env} {R : Room} {s : State} {m : MethodId} {args : Array Value} {below : List Frame} {meth : Method} {c : Code} {T : State} {H : Heap} {locs : List Loc} {cells slots : Nat}
abbrev vx_CSW (R : Room) (s : State) (args : Array Value) (own : String) (index : Nat) (y : MethodName) (bytes : ByteArray) (maxL : Nat) (ret : Option FieldType) (hh : List (Nat × Nat × Nat × Nat)) (ws : List Cond) (rm : Room) (mc ms n : Nat) : Prop :=
  (rm.cells = mc ∧ rm.slots = ms ∧ rm.frames + 1 ≤ R.frames ∧ 8 + (maxL + 11) + rm.locals ≤ R.locals ∧ (∀ w ∈ ws, ∀ (a' : Array Value) (U : State), s.WarmedH U.vm → w.before a' U = true) ∧ Cond.codeWith y bytes maxL ret hh ∈ ws) ∧
  (Cond.codeWith y bytes maxL ret hh).before args s = true ∧ (Cond.initialized y.cls).before args s = true ∧ (y.cls ≠ "java/lang/invoke/MethodHandle" ∧ y.cls ≠ "java/lang/invoke/VarHandle") ∧
  (∀ sig, parseMethodDescriptor y.desc = some sig → n = sig.parameters.length) ∧ (Cond.methodLink own index y).before args s = true ∧ (Cond.static y).before args s = true
theorem vx_cwSW {own : String} {index maxL mc ms : Nat} {y : MethodName} {bytes : ByteArray} {ret : Option FieldType} {hh : List (Nat × Nat × Nat × Nat)} {Ts ws ws' : List Cond} {rm : Room} (n : Nat) (ht : ∀ w ∈ Ts, w.before args s = true) (hT : GoodIn Ts (va_wsS own index y ws)) (hw : ws = Cond.codeWith y bytes maxL ret hh :: ws') (hrc : rm.cells = mc) (hrs : rm.slots = ms)
    (hd : y.cls ≠ "java/lang/invoke/MethodHandle" ∧ y.cls ≠ "java/lang/invoke/VarHandle" ∧ (parseMethodDescriptor y.desc).map (fun d => d.parameters.length) = some n) (hR : rm.frames + 1 ≤ R.frames ∧ 8 + (maxL + 11) + rm.locals ≤ R.locals) :
    vx_CSW R s args own index y bytes maxL ret hh ws rm mc ms n := by
  have ok : ∀ w ∈ va_wsS own index y ws, w.before args s = true := fun w h => ht w (hT w h).1
  have hG : GoodIn Ts ws := fun w h => hT w (by unfold va_wsS; exact List.mem_append_right _ h)
  have hc : Cond.codeWith y bytes maxL ret hh ∈ ws := by rw [hw]; exact List.mem_cons_self
  refine ⟨⟨hrc, hrs, hR.1, hR.2, pay_in ht hG, hc⟩, ht _ (hG _ hc).1, ok _ (by simp [va_wsS]), ⟨hd.1, hd.2.1⟩, fun sig h => ?_, ok _ (by simp [va_wsS]), ok _ (by simp [va_wsS])⟩
  have h2 := hd.2.2
  rw [h] at h2
  exact (Option.some.inj h2).symm
theorem vx_callSW (X : Stand p l e R s m args below meth c T locs cells slots) (hexec : p.tables.exec = Jvm.exec) {own : String} {index : Nat} {y : MethodName} {bytes : ByteArray} {maxL : Nat} {ret : Option FieldType} {hh : List (Nat × Nat × Nat × Nat)}
    (hown : s.vm.findClass own = some m.cls) (hlink : (Cond.methodLink own index y).before args s = true) (hstat : (Cond.static y).before args s = true) (hinit : (Cond.initialized y.cls).before args s = true)
    (hcode : (Cond.codeWith y bytes maxL ret hh).before args s = true) (hy : y.cls ≠ "java/lang/invoke/MethodHandle" ∧ y.cls ≠ "java/lang/invoke/VarHandle")
    {W9 : Nat} {Pre : Pt → Array Value → Prop} {Post : Pt → Array Value → Option Value → Pt → Prop} (hK : Back l R p e below s args y 3 W9 Pre Post)
    {g : JFrame} (hg : g.method = m) (hsize : g.locals.size = c.maxLocals) {argsL rest : List Value} (hlen : ∀ sig, parseMethodDescriptor y.desc = some sig → argsL.length = sig.parameters.length)
    (hstack : g.stack = argsL.reverse ++ rest) (hW : 2 * g.monitorRoom + (rest.map fun v => v.category).sum ≤ W9) (hdg : decode c.code g.pc = .ok (.invokestatic index, 3))
    (hpre : ∀ vm₁, s.WarmedH vm₁ → Pre ⟨T.setVm vm₁, locs, cells, slots⟩ argsL.toArray) :
    ∃ (v : Option Value) (vm₁ : Vm) (B : Pt), s.WarmedH vm₁ ∧ Stand p l e R s m args below meth c B.U B.locs B.cells B.slots ∧ Post ⟨T.setVm vm₁, locs, cells, slots⟩ argsL.toArray v B ∧
      ∀ target, Steps p.tables e below (B.U.setTop { g with pc := g.pc + 3, stack := v.toList ++ rest }) target → Steps p.tables e below (T.setTop g) target := by
  obtain ⟨mk, methM, cM, hnamed, hmethM, -, -, -, -, -, -, hsigM⟩ := Cond.codeWith_spec hcode
  have hstatic : methM.isStatic = true := Cond.static_spec hnamed hmethM hstat
  obtain ⟨kP, hkP, -⟩ := className_of_methodNamed hnamed
  have hinitP : kP.init = .initialized := Cond.initialized_spec (findClass_of_methodNamed hnamed) hkP hinit
  obtain ⟨vm₁, X₁, hstep₁⟩ := X.invokestatic hexec hown hlink hnamed hmethM hstatic hkP hinitP hy (g := g) hg (argsL := argsL) (rest := rest) (hlen _ hsigM) hstack hdg
  obtain ⟨v, B, X', hpost, hsteps⟩ := hK m meth c ⟨T.setVm vm₁, locs, cells, slots⟩ { g with stack := rest } (.invokestatic index) mk argsL.toArray X₁ hg hsize hdg hW (X₁.named hnamed) (hpre vm₁ X₁.warmed)
  exact ⟨v, vm₁, B, X₁.warmed, X', hpost, fun target h => hstep₁ _ fun acts => by rw [doInvoke_state]; exact hsteps.trans h⟩
theorem vx_runSW {y : MethodName} {bytes cc : ByteArray} {maxL nL mc ms n index : Nat} {ret : Option FieldType} {hh : List (Nat × Nat × Nat × Nat)} {ws : List Cond} {rm : Room} {Pc : Array Value → State → Prop} {Qc : Array Value → State → Outcome → State → Prop} {free : Addr → Prop} {Ts : List Cond} {own : String} {As rest : List Value} {g : JFrame}
    (S : CallFix p m c cc nL s args Ts own) (hM : Met l y ws rm Pc Qc mc ms free) (cw : vx_CSW R s args own index y bytes maxL ret hh ws rm mc ms n) (hp : PreS s H Pc As)
    (hg : g.method = m) (hn : As.length = n) (hsize : g.locals.size = nL) (hstack : g.stack = As.reverse ++ rest) (hW : 2 * g.monitorRoom + (rest.map fun v => v.category).sum ≤ 8) (hdg : decode cc g.pc = .ok (.invokestatic index, 3)) (hf : cells + mc ≤ R.cells ∧ slots + ms ≤ R.slots) :
    va_Run p l e R s m args below meth c H locs cells slots mc ms g rest (Qc As.toArray) (free) := by
  obtain ⟨⟨hrc, hrs, hfr, hlo, hws, hcw⟩, hcode, hini, hy, hlen, hl, hstt⟩ := cw
  have hK : Back l R p e below s args y 3 8 (PreOf R mc ms Pc) (PostOf Qc mc ms free) := va_backW (hh := hh) (bytes := bytes) (maxL := maxL) (ret := ret) hM hp.1 hrc hrs hfr hlo hws hcw (fun a' U hW => word_at hW (Or.inl (by first | rfl | simp [Cond.onTables, Cond.keeps, Cond.steady])) hini)
  obtain ⟨hx, hb, hml, ho, -⟩ := S
  intro T hT X
  obtain ⟨v, vm₁, ⟨U', l2, c2, s2⟩, hW₁, X', ⟨g', mk, t, L, e1, e2, hq, h1, hL, h2, h3⟩, st⟩ := vx_callSW X hx (hh := hh) (bytes := bytes) (maxL := maxL) (ret := ret) ho hl hstt hini hcode hy hK hg (hsize.trans hml.symm) (argsL := As) (rest := rest) (fun sig h => hn.trans (hlen sig h)) hstack hW (by rw [hb]; exact hdg)
    (fun vm₁ hW₁ => ⟨hf.1, hf.2, hp.2 (T.setVm vm₁) hT hW₁⟩)
  dsimp only [Pt.U, Pt.locs, Pt.cells, Pt.slots] at X' e1 e2 h1 h2 h3 st
  subst h1; subst h2; subst h3
  exact ⟨v, (T.setVm vm₁).calling g' mk As.toArray, t, U', L, hT, X', hL, e1, e2, hq, st⟩
/-- not caught here, past rows that name other classes: it goes on to the caller -/
theorem vx_outP {p : Program} {l : Launch} {e : Env} {R : Room} {s : State} {m : MethodId} {args : Array Value} {below : List Frame} {meth : Method} {c : Code} {H : Heap} {locs : List Loc} {cells slots : Nat} {free : Addr → Prop} {ls : Array Slot} {rest : List Value} {Qc : Array Value → State → Outcome → State → Prop} {XC : String → State → State → Prop}
    {pc : Nat} {own E : String} {ce : Cell} {q : Addr} {mc ms : Nat} (hown : s.vm.findClass own = some m.cls) (hlocks : meth.locks = false)
    (hpass : ∀ z ∈ c.exceptionTable.toList, covers z pc = false ∨ (z.catchType ≠ 0 ∧ ∃ nm : String, (Cond.classLink own z.catchType nm).before args s = true ∧ va_Nc E nm s)) (hcell : H[q]? = some ce) (hv : ce.vm = .none) (hcl : s.vm.findClass E = some ce.cls)
    (hx : ∀ t : State, t.heap = H → s.vm.Alike t.vm → XC E s t) (hf : ∀ z ∈ locs, free z.base) (hc : cells ≤ mc) (hs : slots ≤ ms) :
    vx_W p l e R s m args below meth c H locs cells slots (vx_MQ below Qc XC args s mc ms free) (F0 m pc ls rest) q := by
  intro T hT X
  have hpl : e.platform.magicAccessors = ({} : Platform).magicAccessors := by rw [X.admits.platform]
  obtain ⟨vm', hW', X', st⟩ := X.outThrough hlocks q (g := F0 m pc ls rest) rfl rfl rfl (cell := ce) (by rw [hT]; exact hcell) (by rw [hv]; rfl)
    (by obtain ⟨k9, h9, -⟩ := Vm.findClass_spec hcl; exact ⟨k9, h9⟩) (fun z hz => by
      rcases hpass z hz with h | ⟨hz0, nm, hl1, hn1⟩
      · exact Or.inl h
      · obtain ⟨c6, hc6, hcl6⟩ := Cond.classLink_spec hown hl1 e.platform hpl
        obtain ⟨a8, b8, h1, h2, h3⟩ := hn1
        cases Option.some.inj (h1.symm.trans hcl)
        cases Option.some.inj (h2.symm.trans hc6)
        exact Or.inr ⟨hz0, _, hcl6, h3⟩)
  obtain ⟨g₀, hfr⟩ := X'.frames_eq
  have hcell9 : ((T.setVm vm').setFrames (.throwing q :: below)).heap[q]? = some ce := by
    show T.heap[q]? = some ce
    rw [hT]; exact hcell
  have hend : Ended ((T.setVm vm').setFrames (.throwing q :: below)) below (.threw q) := State.frames_setFrames _ (State.cur_lt_of_frames hfr)
  refine ⟨(T.setVm vm').setFrames (.throwing q :: below), ?_, .threw q, X'.here.running, hend, Or.inr ⟨q, rfl, E, ce, locs, hx _ hT (X'.ends _).1.alike, hcell9, hv, hcl, (X'.ends _).1, (X'.ends _).2.mono hc hs, hf⟩⟩
  rw [X.pushThrowing_eq]
  exact st
/-- a thing of a world lies in the heap -/
theorem vx_lt {D : va_G} {cl : List vw_C} {ws : va_W} {H1 : Heap} (h : va_P D cl ws H1) {k : Nat} {q : Nat × va_E} (hk : ws[k]? = some q) : q.1 < H1.size := (h k q hk).lt
end VXS
/-! ===== END ===== -/
/-! ===== BEGIN methods with a table of their own: called by a name, returning or throwing ===== -/
section VXH
/-! vx_backW, vx_callVX, vx_callSX, vx_callVW, vx_runVW, vx_runVX, vx_runSX, vx_ofWH follow the same proofs as their sisters above (Free/Laws.lean, Shelf42/LK1.lean); vx_outP calls Shelf42/NT130.lean (outThrough). -/
section
variable {l : Launch} {R : Room} {p : Program} {e : Env} {below : List Frame} {s : State} {sargs : Array Value} {y : MethodName} {len W9 : Nat}
theorem vx_backW {ws : List Cond} {rm : Room} {Pc : Array Value → State → Prop} {Qc : Array Value → State → Outcome → State → Prop} {XC : String → State → State → Prop} {mc ms : Nat} {free : Addr → Prop} {bytes : ByteArray} {maxL : Nat} {ret : Option FieldType} {hh : List (Nat × Nat × Nat × Nat)}
    (hM : vx_Met l y ws rm Pc Qc XC mc ms free) (hblind : FrameBlind Pc) (hrc : rm.cells = mc) (hrs : rm.slots = ms)
    (hframes : rm.frames + 1 ≤ R.frames) (hlocals : W9 + (maxL + 11) + rm.locals ≤ R.locals)
    (hws : ∀ w ∈ ws, ∀ a' U, s.WarmedH U.vm → w.before a' U = true) (hcode : Cond.codeWith y bytes maxL ret hh ∈ ws) (hinit : ∀ a' U, s.WarmedH U.vm → (Cond.initialized y.cls).before a' U = true) :
    vx_Back l R p e below s sargs y len W9 (PreOf R mc ms Pc) (PostOf Qc mc ms free) (vx_Post XC mc ms free) := by
  intro m meth c A g ig mk a X hg hsize hdg hW hn hp
  have h1 : (headSpec ws rm).pre.before a A.U = true := atoms_intro fun w hw => hws w hw _ _ X.warmed
  have h2 : (Cond.codeWith y bytes maxL ret hh).before a A.U = true := hws _ hcode _ _ X.warmed
  have h3 : (Cond.initialized y.cls).before a A.U = true := hinit _ _ X.warmed
  have h4 : A.cells + (headSpec ws rm).room.cells ≤ R.cells := by rw [show (headSpec ws rm).room.cells = mc from hrc]; exact hp.1
  have h5 : A.slots + (headSpec ws rm).room.slots ≤ R.slots := by rw [show (headSpec ws rm).room.slots = ms from hrs]; exact hp.2.1
  have hPc : Pc a (A.U.calling g mk a) := hblind _ _ _ _ hp.2.2
  obtain ⟨U, Ls, c0, s0⟩ := A
  dsimp only [Pt.U, Pt.locs, Pt.cells, Pt.slots] at h1 h2 h3 h4 h5 X hn hPc ⊢
  obtain ⟨m9, methY, cY, hn9, hmY, hcY, -, hlY, -⟩ := Cond.codeWith_spec h2
  cases Option.some.inj (hn9.symm.trans hn)
  obtain ⟨kY, hkY, -⟩ := className_of_methodNamed hn
  have hinitY : kY.init = .initialized := Cond.initialized_spec (findClass_of_methodNamed hn) hkY h3
  have h : At U g.method c below := by rw [hg]; exact X.here
  have hlocals9 : W9 + (maxL + 11) + (headSpec ws rm).room.locals ≤ R.locals := hlocals
  have happ : (headSpec ws rm).appliesLoose y e.platform (U.calling g mk a) = true :=
    Spec.appliesLoose_calling (g := g) h hdg hn hkY hinitY
      (X.room_calling (g := g) (R' := (headSpec ws rm).room) hsize hmY hcY hframes (by rw [hlY]; omega) h4 h5) h1
  obtain ⟨mid, hmid⟩ := h.above
  have hfr : (U.setTop g).frames = (.java g :: mid) ++ below := by rw [State.frames_setTop' g h.top, hmid]; rfl
  obtain ⟨o, s₂, hsteps, -, hend, hq⟩ := Steps.callFree hM p X.admits X.cas X.clock (acts := []) hfr happ hPc trivial
  have hq' : vx_Q Qc XC mc ms free a (U.calling g mk a) o s₂ := hq
  rw [State.frames_setTop' g h.top] at hend
  obtain ⟨g₀, hg0⟩ := Option.isSome_iff_exists.mp h.top
  obtain ⟨r, hr⟩ := State.topJava?_eq_some.mp hg0
  have hr' : (({ U with heap := s₂.heap, slotsUsed := s₂.slotsUsed } : State).setVm s₂.vm).frames = .java g₀ :: r := hr
  rcases hq' with ⟨hqc, L, hfe, hL⟩ | ⟨q, rfl, E, ce, L, hx, hce, hcv, hcl, hW₂, hsm, hL⟩
  · obtain ⟨⟨v, rfl⟩, hW₂, e2, q2, q3, q4, q5, q6⟩ := id hfe
    have e3 : s₂ = ({ (U.calling g mk a).setFrames s₂.frames with heap := s₂.heap, slotsUsed := s₂.slotsUsed } : State).setVm s₂.vm := by
      have : s₂ = ({ s₂ with vm := (U.calling g mk a).vm } : State).setVm s₂.vm := rfl
      rw [e2] at this
      exact this
    obtain ⟨c₂, i₂, len₂, hc₂, hd₂, hf₂⟩ := hend
    have hW' : U.WarmedH s₂.vm := hW₂
    have hcc : c₂ = c := by
      have h1 : s₂.code? g.method = U.code? g.method := by
        rw [State.code?_eq, State.code?_eq, hW'.alike.method?]
      exact Option.some.inj (hc₂.symm.trans (h1.trans h.code))
    subst hcc
    have hlen : len₂ = len := by rw [hdg] at hd₂; cases hd₂; rfl
    subst hlen
    have hs₂ : s₂ = (({ U with heap := s₂.heap, slotsUsed := s₂.slotsUsed } : State).setVm s₂.vm).setTop { g with pc := g.pc + len₂, stack := v.toList ++ g.stack } := by
      refine e3.trans ?_
      rw [hf₂, State.calling_eq h.top, State.setFrames_setFrames, State.setTop_of_frames _ hr', hr]
      rfl
    have hsame : U.sameButNew ({ U with heap := s₂.heap, slotsUsed := s₂.slotsUsed } : State) L mc ms := by
      refine ⟨?_, q2, q3, q4, q5, q6⟩
      obtain ⟨t, ht, -⟩ := State.frames_cons hr
      show ({ U with heap := s₂.heap, slotsUsed := s₂.slotsUsed } : State) = { U.setFrames U.frames with heap := s₂.heap, slotsUsed := s₂.slotsUsed }
      rw [State.setFrames_self ht]
    subst hg
    refine Or.inl ⟨v, ⟨(({ U with heap := s₂.heap, slotsUsed := s₂.slotsUsed } : State).setVm s₂.vm), Ls ++ L, c0 + mc, s0 + ms⟩,
      ⟨X.admits, X.cas, X.clock, X.frames, X.room, X.hears, X.method, X.code, (X.here.setHeapUsed s₂.heap s₂.slotsUsed).setVm hW'.alike, X.tail, State.WarmedH.trans X.warmed hW', X.limits, X.bytes, X.same.trans (hsame.setVm s.vm)⟩,
      ⟨g, mk, s₂, L, rfl, rfl, hqc, rfl, hL, rfl, rfl⟩, ?_⟩
    show Steps p.tables e below _ ((({ U with heap := s₂.heap, slotsUsed := s₂.slotsUsed } : State).setVm s₂.vm).setTop { g with pc := g.pc + len₂, stack := v.toList ++ g.stack })
    rw [← hs₂]
    exact hsteps
  · obtain ⟨e2, q2, q3, q4, q5, q6⟩ := id hsm
    have e3 : s₂ = ({ (U.calling g mk a).setFrames s₂.frames with heap := s₂.heap, slotsUsed := s₂.slotsUsed } : State).setVm s₂.vm := by
      have : s₂ = ({ s₂ with vm := (U.calling g mk a).vm } : State).setVm s₂.vm := rfl
      rw [e2] at this
      exact this
    have hf₂ : s₂.frames = .throwing q :: .java g :: U.frames.tail := hend
    have hW' : U.WarmedH s₂.vm := hW₂
    have hs₂ : s₂ = ((({ U with heap := s₂.heap, slotsUsed := s₂.slotsUsed } : State).setVm s₂.vm).setTop g).pushFrame (.throwing q) := by
      refine e3.trans ?_
      rw [hf₂, State.calling_eq h.top, State.setFrames_setFrames, State.pushFrame, State.frames_setTop _ hr', State.setTop_of_frames _ hr', State.setFrames_setFrames, hr]
      rfl
    have hsame : U.sameButNew ({ U with heap := s₂.heap, slotsUsed := s₂.slotsUsed } : State) L mc ms := by
      refine ⟨?_, q2, q3, q4, q5, q6⟩
      obtain ⟨t, ht, -⟩ := State.frames_cons hr
      show ({ U with heap := s₂.heap, slotsUsed := s₂.slotsUsed } : State) = { U.setFrames U.frames with heap := s₂.heap, slotsUsed := s₂.slotsUsed }
      rw [State.setFrames_self ht]
    subst hg
    refine Or.inr ⟨q, ⟨(({ U with heap := s₂.heap, slotsUsed := s₂.slotsUsed } : State).setVm s₂.vm), Ls ++ L, c0 + mc, s0 + ms⟩,
      ⟨X.admits, X.cas, X.clock, X.frames, X.room, X.hears, X.method, X.code, (X.here.setHeapUsed s₂.heap s₂.slotsUsed).setVm hW'.alike, X.tail, State.WarmedH.trans X.warmed hW', X.limits, X.bytes, X.same.trans (hsame.setVm s.vm)⟩,
      ⟨g, mk, s₂, L, E, ce, rfl, rfl, hx, hce, hcv, hcl, rfl, hL, rfl, rfl⟩, ?_⟩
    show Steps p.tables e below _ (((({ U with heap := s₂.heap, slotsUsed := s₂.slotsUsed } : State).setVm s₂.vm).setTop g).pushFrame (.throwing q))
    rw [← hs₂]
    exact hsteps
end
variable {p : Program} {l : Launch} {e : Env} {R : Room} {s : State} {m : MethodId} {args : Array Value} {below : List Frame} {meth : Method} {c : Code} {T : State} {H : Heap} {locs : List Loc} {cells slots : Nat}
theorem vx_callVX (X : Stand p l e R s m args below meth c T locs cells slots) (hexec : p.tables.exec = Jvm.exec) {own C : String} {index : Nat} {y : MethodName} {bytes : ByteArray} {maxL : Nat} {ret : Option FieldType} {hh : List (Nat × Nat × Nat × Nat)}
    (hown : s.vm.findClass own = some m.cls) (hlink : (Cond.methodLink own index y).before args s = true) (hinst : (Cond.instanceMethod y).before args s = true) (hsel : (Cond.selects C y y).before args s = true)
    (hcode : (Cond.codeWith y bytes maxL ret hh).before args s = true) (hy : y.cls ≠ "java/lang/invoke/MethodHandle" ∧ y.cls ≠ "java/lang/invoke/VarHandle")
    {W9 : Nat} {Pre : Pt → Array Value → Prop} {Post : Pt → Array Value → Option Value → Pt → Prop} {PostX : Pt → Array Value → Addr → Pt → Prop} (hK : vx_Back l R p e below s args y 3 W9 Pre Post PostX)
    {b : Addr} {cellB : Cell} (hcell : T.heap[b]? = some cellB) (hobj : cellB.vm.isStatics = false) (hcls : s.vm.findClass C = some cellB.cls)
    {g : JFrame} (hg : g.method = m) (hsize : g.locals.size = c.maxLocals) {argsL rest : List Value} (hlen : ∀ sig, parseMethodDescriptor y.desc = some sig → argsL.length = sig.parameters.length)
    (hstack : g.stack = argsL.reverse ++ .ref b :: rest) (hW : 2 * g.monitorRoom + (rest.map fun v => v.category).sum ≤ W9) (hdg : decode c.code g.pc = .ok (.invokevirtual index, 3))
    (hpre : ∀ vm₁, s.WarmedH vm₁ → Pre ⟨T.setVm vm₁, locs, cells, slots⟩ (Value.ref b :: argsL).toArray) :
    (∃ (v : Option Value) (vm₁ : Vm) (B : Pt), s.WarmedH vm₁ ∧ Stand p l e R s m args below meth c B.U B.locs B.cells B.slots ∧ Post ⟨T.setVm vm₁, locs, cells, slots⟩ (Value.ref b :: argsL).toArray v B ∧
      ∀ target, Steps p.tables e below (B.U.setTop { g with pc := g.pc + 3, stack := v.toList ++ rest }) target → Steps p.tables e below (T.setTop g) target) ∨
    (∃ (q : Addr) (vm₁ : Vm) (B : Pt), s.WarmedH vm₁ ∧ Stand p l e R s m args below meth c B.U B.locs B.cells B.slots ∧ PostX ⟨T.setVm vm₁, locs, cells, slots⟩ (Value.ref b :: argsL).toArray q B ∧
      Steps p.tables e below (T.setTop g) ((B.U.setTop { g with stack := rest }).pushFrame (.throwing q))) := by
  obtain ⟨mk, methM, hnamed, hmethM, hstM, habM⟩ := Cond.instanceMethod_spec hinst
  obtain ⟨m8, methM', cM, hn8, hmethM', -, -, -, -, -, -, hsigM⟩ := Cond.codeWith_spec hcode
  cases Option.some.inj (hn8.symm.trans hnamed)
  cases hmethM.symm.trans hmethM'
  obtain ⟨c2, r2, m2, q1, q2, q3, q4, kP, hkP, hkPi⟩ := Cond.selects_spec hsel
  cases hcls.symm.trans q1
  cases (State.methodFound?_of_named hnamed hy).symm.trans q2
  cases hnamed.symm.trans q3
  have hselP : selectMethod e.platform s.vm cellB.cls mk = .method mk := by rw [Launch.admits_selectMethod X.admits]; exact q4
  obtain ⟨vm₁, X₁, hstep₁⟩ := X.invokevirtual hexec hown hlink hnamed hmethM hstM hkP hkPi hy (a := b) (cell := cellB) hcell
    (fun z h => by rw [h] at hobj; cases hobj) hselP hmethM habM hkP hkPi (g := g) hg (argsL := argsL) (rest := rest) (hlen _ hsigM) hstack hdg
  rcases hK m meth c ⟨T.setVm vm₁, locs, cells, slots⟩ { g with stack := rest } (.invokevirtual index) mk (Value.ref b :: argsL).toArray X₁ hg hsize hdg hW (X₁.named hnamed) (hpre vm₁ X₁.warmed) with ⟨v, B, X', hpost, hsteps⟩ | ⟨q, B, X', hpost, hsteps⟩
  · exact Or.inl ⟨v, vm₁, B, X₁.warmed, X', hpost, fun target h => hstep₁ _ fun acts => by rw [doInvoke_state]; exact hsteps.trans h⟩
  · exact Or.inr ⟨q, vm₁, B, X₁.warmed, X', hpost, hstep₁ _ fun acts => by rw [doInvoke_state]; exact hsteps⟩
theorem vx_callSX (X : Stand p l e R s m args below meth c T locs cells slots) (hexec : p.tables.exec = Jvm.exec) {own : String} {index : Nat} {y : MethodName} {bytes : ByteArray} {maxL : Nat} {ret : Option FieldType} {hh : List (Nat × Nat × Nat × Nat)}
    (hown : s.vm.findClass own = some m.cls) (hlink : (Cond.methodLink own index y).before args s = true) (hstat : (Cond.static y).before args s = true) (hinit : (Cond.initialized y.cls).before args s = true)
    (hcode : (Cond.codeWith y bytes maxL ret hh).before args s = true) (hy : y.cls ≠ "java/lang/invoke/MethodHandle" ∧ y.cls ≠ "java/lang/invoke/VarHandle")
    {W9 : Nat} {Pre : Pt → Array Value → Prop} {Post : Pt → Array Value → Option Value → Pt → Prop} {PostX : Pt → Array Value → Addr → Pt → Prop} (hK : vx_Back l R p e below s args y 3 W9 Pre Post PostX)
    {g : JFrame} (hg : g.method = m) (hsize : g.locals.size = c.maxLocals) {argsL rest : List Value} (hlen : ∀ sig, parseMethodDescriptor y.desc = some sig → argsL.length = sig.parameters.length)
    (hstack : g.stack = argsL.reverse ++ rest) (hW : 2 * g.monitorRoom + (rest.map fun v => v.category).sum ≤ W9) (hdg : decode c.code g.pc = .ok (.invokestatic index, 3))
    (hpre : ∀ vm₁, s.WarmedH vm₁ → Pre ⟨T.setVm vm₁, locs, cells, slots⟩ argsL.toArray) :
    (∃ (v : Option Value) (vm₁ : Vm) (B : Pt), s.WarmedH vm₁ ∧ Stand p l e R s m args below meth c B.U B.locs B.cells B.slots ∧ Post ⟨T.setVm vm₁, locs, cells, slots⟩ argsL.toArray v B ∧
      ∀ target, Steps p.tables e below (B.U.setTop { g with pc := g.pc + 3, stack := v.toList ++ rest }) target → Steps p.tables e below (T.setTop g) target) ∨
    (∃ (q : Addr) (vm₁ : Vm) (B : Pt), s.WarmedH vm₁ ∧ Stand p l e R s m args below meth c B.U B.locs B.cells B.slots ∧ PostX ⟨T.setVm vm₁, locs, cells, slots⟩ argsL.toArray q B ∧
      Steps p.tables e below (T.setTop g) ((B.U.setTop { g with stack := rest }).pushFrame (.throwing q))) := by
  obtain ⟨mk, methM, cM, hnamed, hmethM, -, -, -, -, -, -, hsigM⟩ := Cond.codeWith_spec hcode
  have hstatic : methM.isStatic = true := Cond.static_spec hnamed hmethM hstat
  obtain ⟨kP, hkP, -⟩ := className_of_methodNamed hnamed
  have hinitP : kP.init = .initialized := Cond.initialized_spec (findClass_of_methodNamed hnamed) hkP hinit
  obtain ⟨vm₁, X₁, hstep₁⟩ := X.invokestatic hexec hown hlink hnamed hmethM hstatic hkP hinitP hy (g := g) hg (argsL := argsL) (rest := rest) (hlen _ hsigM) hstack hdg
  rcases hK m meth c ⟨T.setVm vm₁, locs, cells, slots⟩ { g with stack := rest } (.invokestatic index) mk argsL.toArray X₁ hg hsize hdg hW (X₁.named hnamed) (hpre vm₁ X₁.warmed) with ⟨v, B, X', hpost, hsteps⟩ | ⟨q, B, X', hpost, hsteps⟩
  · exact Or.inl ⟨v, vm₁, B, X₁.warmed, X', hpost, fun target h => hstep₁ _ fun acts => by rw [doInvoke_state]; exact hsteps.trans h⟩
  · exact Or.inr ⟨q, vm₁, B, X₁.warmed, X', hpost, hstep₁ _ fun acts => by rw [doInvoke_state]; exact hsteps⟩
theorem vx_callVW (X : Stand p l e R s m args below meth c T locs cells slots) (hexec : p.tables.exec = Jvm.exec) {own C : String} {index : Nat} {y : MethodName} {bytes : ByteArray} {maxL : Nat} {ret : Option FieldType} {hh : List (Nat × Nat × Nat × Nat)}
    (hown : s.vm.findClass own = some m.cls) (hlink : (Cond.methodLink own index y).before args s = true) (hinst : (Cond.instanceMethod y).before args s = true) (hsel : (Cond.selects C y y).before args s = true)
    (hcode : (Cond.codeWith y bytes maxL ret hh).before args s = true) (hy : y.cls ≠ "java/lang/invoke/MethodHandle" ∧ y.cls ≠ "java/lang/invoke/VarHandle")
    {W9 : Nat} {Pre : Pt → Array Value → Prop} {Post : Pt → Array Value → Option Value → Pt → Prop} (hK : Back l R p e below s args y 3 W9 Pre Post)
    {b : Addr} {cellB : Cell} (hcell : T.heap[b]? = some cellB) (hobj : cellB.vm.isStatics = false) (hcls : s.vm.findClass C = some cellB.cls)
    {g : JFrame} (hg : g.method = m) (hsize : g.locals.size = c.maxLocals) {argsL rest : List Value} (hlen : ∀ sig, parseMethodDescriptor y.desc = some sig → argsL.length = sig.parameters.length)
    (hstack : g.stack = argsL.reverse ++ .ref b :: rest) (hW : 2 * g.monitorRoom + (rest.map fun v => v.category).sum ≤ W9) (hdg : decode c.code g.pc = .ok (.invokevirtual index, 3))
    (hpre : ∀ vm₁, s.WarmedH vm₁ → Pre ⟨T.setVm vm₁, locs, cells, slots⟩ (Value.ref b :: argsL).toArray) :
    ∃ (v : Option Value) (vm₁ : Vm) (B : Pt), s.WarmedH vm₁ ∧ Stand p l e R s m args below meth c B.U B.locs B.cells B.slots ∧ Post ⟨T.setVm vm₁, locs, cells, slots⟩ (Value.ref b :: argsL).toArray v B ∧
      ∀ target, Steps p.tables e below (B.U.setTop { g with pc := g.pc + 3, stack := v.toList ++ rest }) target → Steps p.tables e below (T.setTop g) target := by
  obtain ⟨mk, methM, hnamed, hmethM, hstM, habM⟩ := Cond.instanceMethod_spec hinst
  obtain ⟨m8, methM', cM, hn8, hmethM', -, -, -, -, -, -, hsigM⟩ := Cond.codeWith_spec hcode
  cases Option.some.inj (hn8.symm.trans hnamed)
  cases hmethM.symm.trans hmethM'
  obtain ⟨c2, r2, m2, q1, q2, q3, q4, kP, hkP, hkPi⟩ := Cond.selects_spec hsel
  cases hcls.symm.trans q1
  cases (State.methodFound?_of_named hnamed hy).symm.trans q2
  cases hnamed.symm.trans q3
  have hselP : selectMethod e.platform s.vm cellB.cls mk = .method mk := by rw [Launch.admits_selectMethod X.admits]; exact q4
  obtain ⟨vm₁, X₁, hstep₁⟩ := X.invokevirtual hexec hown hlink hnamed hmethM hstM hkP hkPi hy (a := b) (cell := cellB) hcell
    (fun z h => by rw [h] at hobj; cases hobj) hselP hmethM habM hkP hkPi (g := g) hg (argsL := argsL) (rest := rest) (hlen _ hsigM) hstack hdg
  obtain ⟨v, B, X', hpost, hsteps⟩ := hK m meth c ⟨T.setVm vm₁, locs, cells, slots⟩ { g with stack := rest } (.invokevirtual index) mk (Value.ref b :: argsL).toArray X₁ hg hsize hdg hW (X₁.named hnamed) (hpre vm₁ X₁.warmed)
  exact ⟨v, vm₁, B, X₁.warmed, X', hpost, fun target h => hstep₁ _ fun acts => by rw [doInvoke_state]; exact hsteps.trans h⟩
abbrev vx_CVW (R : Room) (s : State) (args : Array Value) (own C : String) (index : Nat) (y : MethodName) (bytes : ByteArray) (maxL : Nat) (ret : Option FieldType) (hh : List (Nat × Nat × Nat × Nat)) (ws : List Cond) (rm : Room) (mc ms n : Nat) : Prop :=
  (rm.cells = mc ∧ rm.slots = ms ∧ rm.frames + 1 ≤ R.frames ∧ 8 + (maxL + 11) + rm.locals ≤ R.locals ∧ (∀ w ∈ ws, ∀ (a' : Array Value) (U : State), s.WarmedH U.vm → w.before a' U = true) ∧ Cond.codeWith y bytes maxL ret hh ∈ ws) ∧
  (Cond.codeWith y bytes maxL ret hh).before args s = true ∧ (Cond.initialized y.cls).before args s = true ∧ (y.cls ≠ "java/lang/invoke/MethodHandle" ∧ y.cls ≠ "java/lang/invoke/VarHandle") ∧
  (∀ sig, parseMethodDescriptor y.desc = some sig → n = sig.parameters.length) ∧ (Cond.methodLink own index y).before args s = true ∧ (Cond.instanceMethod y).before args s = true ∧ (Cond.selects C y y).before args s = true
theorem vx_cwVW {own C : String} {index maxL mc ms : Nat} {y : MethodName} {bytes : ByteArray} {ret : Option FieldType} {hh : List (Nat × Nat × Nat × Nat)} {Ts ws ws' : List Cond} {rm : Room} (n : Nat) (ht : ∀ w ∈ Ts, w.before args s = true) (hT : GoodIn Ts (wsV own index C y ws)) (hw : ws = Cond.codeWith y bytes maxL ret hh :: ws') (hrc : rm.cells = mc) (hrs : rm.slots = ms)
    (hd : y.cls = C ∧ y.cls ≠ "java/lang/invoke/MethodHandle" ∧ y.cls ≠ "java/lang/invoke/VarHandle" ∧ (parseMethodDescriptor y.desc).map (fun d => d.parameters.length) = some n) (hR : rm.frames + 1 ≤ R.frames ∧ 8 + (maxL + 11) + rm.locals ≤ R.locals) :
    vx_CVW R s args own C index y bytes maxL ret hh ws rm mc ms n := by
  obtain ⟨hC, hd⟩ := hd
  subst hC
  have ok : ∀ w ∈ wsV own index y.cls y ws, w.before args s = true := fun w h => ht w (hT w h).1
  have hG : GoodIn Ts ws := fun w h => hT w (by unfold wsV; exact List.mem_append_right _ h)
  have hc : Cond.codeWith y bytes maxL ret hh ∈ ws := by rw [hw]; exact List.mem_cons_self
  refine ⟨⟨hrc, hrs, hR.1, hR.2, pay_in ht hG, hc⟩, ht _ (hG _ hc).1, ok _ (by simp [wsV]), ⟨hd.1, hd.2.1⟩, fun sig h => ?_, ok _ (by simp [wsV]), ok _ (by simp [wsV]), ok _ (by simp [wsV])⟩
  have h2 := hd.2.2
  rw [h] at h2
  exact (Option.some.inj h2).symm
theorem vx_runVW {y : MethodName} {bytes cc : ByteArray} {maxL nL mc ms n index : Nat} {ret : Option FieldType} {hh : List (Nat × Nat × Nat × Nat)} {ws : List Cond} {rm : Room} {Pc : Array Value → State → Prop} {Qc : Array Value → State → Outcome → State → Prop} {free : Addr → Prop} {Ts : List Cond} {own C : String} {b : Addr} {As rest : List Value} {g : JFrame}
    (S : CallFix p m c cc nL s args Ts own) (hM : Met l y ws rm Pc Qc mc ms free) (cw : vx_CVW R s args own C index y bytes maxL ret hh ws rm mc ms n) (hp : PreV s H C b Pc As)
    (hg : g.method = m) (hn : As.length = n) (hsize : g.locals.size = nL) (hstack : g.stack = As.reverse ++ .ref b :: rest) (hW : 2 * g.monitorRoom + (rest.map fun v => v.category).sum ≤ 8) (hdg : decode cc g.pc = .ok (.invokevirtual index, 3)) (hf : cells + mc ≤ R.cells ∧ slots + ms ≤ R.slots) :
    va_Run p l e R s m args below meth c H locs cells slots mc ms g rest (Qc (Value.ref b :: As).toArray) free := by
  obtain ⟨⟨hrc, hrs, hfr, hlo, hws, hcw⟩, hcode, hini, hy, hlen, hl, hin, hse⟩ := cw
  have hK : Back l R p e below s args y 3 8 (PreOf R mc ms Pc) (PostOf Qc mc ms free) := va_backW (hh := hh) (bytes := bytes) (maxL := maxL) (ret := ret) hM hp.1 hrc hrs hfr hlo hws hcw (fun a' U hW => word_at hW (Or.inl (by first | rfl | simp [Cond.onTables, Cond.keeps, Cond.steady])) hini)
  obtain ⟨hx, hb, hml, ho, -⟩ := S
  obtain ⟨-, ⟨cellB, hcB, hoB, hclB⟩, hPc⟩ := hp
  intro T hT X
  obtain ⟨v, vm₁, ⟨U', l2, c2, s2⟩, hW₁, X', ⟨g', mk, t, L, e1, e2, hq, h1, hL, h2, h3⟩, st⟩ := vx_callVW X hx (C := C) (hh := hh) (bytes := bytes) (maxL := maxL) (ret := ret) ho hl hin hse hcode hy hK (by rw [hT]; exact hcB) hoB hclB hg (hsize.trans hml.symm) (argsL := As) (rest := rest) (fun sig h => hn.trans (hlen sig h)) hstack hW (by rw [hb]; exact hdg)
    (fun vm₁ hW₁ => ⟨hf.1, hf.2, hPc (T.setVm vm₁) hT hW₁⟩)
  dsimp only [Pt.U, Pt.locs, Pt.cells, Pt.slots] at X' e1 e2 h1 h2 h3 st
  subst h1; subst h2; subst h3
  exact ⟨v, (T.setVm vm₁).calling g' mk (Value.ref b :: As).toArray, t, U', L, hT, X', hL, e1, e2, hq, st⟩
section
variable {y : MethodName} {bytes cc : ByteArray} {maxL nL mc ms n index : Nat} {ret : Option FieldType} {ws : List Cond} {rm : Room} {Pc : Array Value → State → Prop} {Qc : Array Value → State → Outcome → State → Prop} {XC : String → State → State → Prop} {free : Addr → Prop} {Ts : List Cond} {own C : String} {b : Addr} {As rest : List Value} {g : JFrame}
theorem vx_runVX {hh : List (Nat × Nat × Nat × Nat)} (S : CallFix p m c cc nL s args Ts own) (hM : vx_Met l y ws rm Pc Qc XC mc ms free) (cw : vx_CVW R s args own C index y bytes maxL ret hh ws rm mc ms n) (hp : PreV s H C b Pc As)
    (hg : g.method = m) (hn : As.length = n) (hsize : g.locals.size = nL) (hstack : g.stack = As.reverse ++ .ref b :: rest) (hW : 2 * g.monitorRoom + (rest.map fun v => v.category).sum ≤ 8) (hdg : decode cc g.pc = .ok (.invokevirtual index, 3)) (hf : cells + mc ≤ R.cells ∧ slots + ms ≤ R.slots) :
    vx_Run p l e R s m args below meth c H locs cells slots mc ms g rest (Qc (Value.ref b :: As).toArray) XC free := by
  obtain ⟨⟨hrc, hrs, hfr, hlo, hws, hcw⟩, hcode, hini, hy, hlen, hl, hin, hse⟩ := cw
  have hK : vx_Back l R p e below s args y 3 8 (PreOf R mc ms Pc) (PostOf Qc mc ms free) (vx_Post XC mc ms free) := vx_backW (hh := hh) (bytes := bytes) (maxL := maxL) (ret := ret) hM hp.1 hrc hrs hfr hlo hws hcw (fun a' U hW => word_at hW (Or.inl (by first | rfl | simp [Cond.onTables, Cond.keeps, Cond.steady])) hini)
  obtain ⟨hx, hb, hml, ho, -⟩ := S
  obtain ⟨-, ⟨cellB, hcB, hoB, hclB⟩, hPc⟩ := hp
  intro T hT X
  rcases vx_callVX X hx (C := C) (hh := hh) (bytes := bytes) (maxL := maxL) (ret := ret) ho hl hin hse hcode hy hK (by rw [hT]; exact hcB) hoB hclB hg (hsize.trans hml.symm) (argsL := As) (rest := rest) (fun sig h => hn.trans (hlen sig h)) hstack hW (by rw [hb]; exact hdg)
    (fun vm₁ hW₁ => ⟨hf.1, hf.2, hPc (T.setVm vm₁) hT hW₁⟩) with ⟨v, vm₁, ⟨U', l2, c2, s2⟩, hW₁, X', ⟨g', mk, t, L, e1, e2, hq, h1, hL, h2, h3⟩, st⟩ | ⟨q, vm₁, ⟨U', l2, c2, s2⟩, hW₁, X', ⟨g', mk, t, L, E, ce, e1, e2, hq, hce, hcv, hcl, h1, hL, h2, h3⟩, st⟩
  · dsimp only [Pt.U, Pt.locs, Pt.cells, Pt.slots] at X' e1 e2 h1 h2 h3 st
    subst h1; subst h2; subst h3
    exact Or.inl ⟨v, (T.setVm vm₁).calling g' mk (Value.ref b :: As).toArray, t, U', L, hT, X', hL, e1, e2, hq, st⟩
  · dsimp only [Pt.U, Pt.locs, Pt.cells, Pt.slots] at X' e1 e2 h1 h2 h3 st hcl
    subst h1; subst h2; subst h3
    exact Or.inr ⟨q, (T.setVm vm₁).calling g' mk (Value.ref b :: As).toArray, t, U', L, E, ce, hT, X', hL, e1, e2, hq, hce, hcv, vx_cls hW₁ hcl, st⟩
theorem vx_runSX {hh : List (Nat × Nat × Nat × Nat)} (S : CallFix p m c cc nL s args Ts own) (hM : vx_Met l y ws rm Pc Qc XC mc ms free) (cw : vx_CSW R s args own index y bytes maxL ret hh ws rm mc ms n) (hp : PreS s H Pc As)
    (hg : g.method = m) (hn : As.length = n) (hsize : g.locals.size = nL) (hstack : g.stack = As.reverse ++ rest) (hW : 2 * g.monitorRoom + (rest.map fun v => v.category).sum ≤ 8) (hdg : decode cc g.pc = .ok (.invokestatic index, 3)) (hf : cells + mc ≤ R.cells ∧ slots + ms ≤ R.slots) :
    vx_Run p l e R s m args below meth c H locs cells slots mc ms g rest (Qc As.toArray) XC free := by
  obtain ⟨⟨hrc, hrs, hfr, hlo, hws, hcw⟩, hcode, hini, hy, hlen, hl, hstt⟩ := cw
  have hK : vx_Back l R p e below s args y 3 8 (PreOf R mc ms Pc) (PostOf Qc mc ms free) (vx_Post XC mc ms free) := vx_backW (hh := hh) (bytes := bytes) (maxL := maxL) (ret := ret) hM hp.1 hrc hrs hfr hlo hws hcw (fun a' U hW => word_at hW (Or.inl (by first | rfl | simp [Cond.onTables, Cond.keeps, Cond.steady])) hini)
  obtain ⟨hx, hb, hml, ho, -⟩ := S
  intro T hT X
  rcases vx_callSX X hx (hh := hh) (bytes := bytes) (maxL := maxL) (ret := ret) ho hl hstt hini hcode hy hK hg (hsize.trans hml.symm) (argsL := As) (rest := rest) (fun sig h => hn.trans (hlen sig h)) hstack hW (by rw [hb]; exact hdg)
    (fun vm₁ hW₁ => ⟨hf.1, hf.2, hp.2 (T.setVm vm₁) hT hW₁⟩) with ⟨v, vm₁, ⟨U', l2, c2, s2⟩, hW₁, X', ⟨g', mk, t, L, e1, e2, hq, h1, hL, h2, h3⟩, st⟩ | ⟨q, vm₁, ⟨U', l2, c2, s2⟩, hW₁, X', ⟨g', mk, t, L, E, ce, e1, e2, hq, hce, hcv, hcl, h1, hL, h2, h3⟩, st⟩
  · dsimp only [Pt.U, Pt.locs, Pt.cells, Pt.slots] at X' e1 e2 h1 h2 h3 st
    subst h1; subst h2; subst h3
    exact Or.inl ⟨v, (T.setVm vm₁).calling g' mk As.toArray, t, U', L, hT, X', hL, e1, e2, hq, st⟩
  · dsimp only [Pt.U, Pt.locs, Pt.cells, Pt.slots] at X' e1 e2 h1 h2 h3 st hcl
    subst h1; subst h2; subst h3
    exact Or.inr ⟨q, (T.setVm vm₁).calling g' mk As.toArray, t, U', L, E, ce, hT, X', hL, e1, e2, hq, hce, hcv, vx_cls hW₁ hcl, st⟩
end
end VXH
theorem vx_ofWH {l : Launch} {y : MethodName} {ws ws' : List Cond} {rm : Room} {Pc : Array Value → State → Prop} {Qc : Array Value → State → Outcome → State → Prop} {XC : String → State → State → Prop} {mc ms : Nat} {free : Addr → Prop} {cc : ByteArray} {maxL : Nat} {ret : Option FieldType} {hh : List (Nat × Nat × Nat × Nat)}
    (hy : plainName y.cls = true) (hw : ws = Cond.codeWith y cc maxL ret hh :: ws')
    (body : ∀ p e s m args below meth c s₁, BodyLoose p l y (headSpec ws rm) cc maxL ret e s m args below meth c s₁ → c.maxLocals = maxL → Pc args s →
      W p l e (headSpec ws rm).room s m args below meth c s.heap [] 0 0 (vx_MQ below Qc XC args s mc ms free) (entryFrame m args maxL)) : vx_Met l y ws rm Pc Qc XC mc ms free := by
  refine MetFree.of_bodyS (code := cc) (maxLocals := maxL) (ret := ret) hy ?_ ?_
  · intro args s m h hn
    obtain ⟨m9, meth, c, hn9, h1, h2, h3, h4, -, h5, h6, -⟩ := Cond.codeWith_spec (atoms_spec (ws := ws) h _ (by rw [hw]; exact List.mem_cons_self))
    cases hn.symm.trans hn9
    exact ⟨meth, c, h1, h2, h3, h4, h5, h6⟩
  · intro p e s m args below meth c s₁ B hml hP _
    have hh0 : s₁.heap = s.heap := by rw [B.state]; rfl
    obtain ⟨t, a1, o, b1, b2, b3⟩ := body p e s m args below meth c s₁ B hml hP s₁ hh0 (Stand.of_body B)
    exact ⟨t, o, a1, b1, b2, b3⟩
/-! ===== END ===== -/

/-! ===== BEGIN printed: names, fields, word lists, decode rows ===== -/
def RX0 : String := "SedgeBarges$Barges"
def TX0 : u_T := fun k => match k with
  | 0 => ("SedgeBarges$Barges", "number", "I", false)
  | 1 => ("SedgeBarges$Barges", "place", "[I", true)
  | 2 => ("SedgeBarges$Barges", "goal", "[I", true)
  | 3 => ("SedgeBarges$Barges", "sedge", "[I", true)
  | 4 => ("SedgeBarges$Barges", "reed", "[I", true)
  | _ => ("SedgeBarges$Barges", "brought", "[I", true)
def tyX0 : Nat → FieldType := fun k => match k with
  | 0 => .int
  | 1 => .array .int
  | 2 => .array .int
  | 3 => .array .int
  | 4 => .array .int
  | _ => .array .int
abbrev wsX00 : List Cond := u_ws RX0 TX0 6
theorem nmX0 : ∀ a, a < 6 → ∀ b, b < 6 → a ≠ b → (TX0 a).2.1 ≠ (TX0 b).2.1 := by decide +kernel
theorem tyX0_ok : ∀ k, k < 6 → parseFieldDescriptor (TX0 k).2.2.1 = some (tyX0 k) := by decide +kernel
abbrev cX0_init : ByteArray := prog_2_method_1_code
def yX0_init : MethodName := ⟨RX0, "<init>", "()V"⟩
abbrev cX0_areFull : ByteArray := prog_2_method_2_code
def yX0_areFull : MethodName := ⟨RX0, "areFull", "()Z"⟩
abbrev cX0_add : ByteArray := prog_2_method_3_code
def yX0_add : MethodName := ⟨RX0, "add", "(I)I"⟩
abbrev cX0_copyFrom : ByteArray := prog_2_method_4_code
def yX0_copyFrom : MethodName := ⟨RX0, "copyFrom", "(LSedgeBarges$Barges;)V"⟩
abbrev cX0_send : ByteArray := prog_2_method_5_code
def yX0_send : MethodName := ⟨RX0, "send", "(II)I"⟩
abbrev cX0_sailOn : ByteArray := prog_2_method_6_code
def yX0_sailOn : MethodName := ⟨RX0, "sailOn", "()V"⟩
abbrev cX0_aboard : ByteArray := prog_2_method_7_code
def yX0_aboard : MethodName := ⟨RX0, "aboard", "(I)I"⟩
abbrev cX0_tell : ByteArray := prog_2_method_8_code
def yX0_tell : MethodName := ⟨RX0, "tell", "(II)I"⟩
abbrev cX0_aboardAll : ByteArray := prog_2_method_9_code
def yX0_aboardAll : MethodName := ⟨RX0, "aboardAll", "()I"⟩
def RX1 : String := "SedgeBarges$Beds"
def TX1 : u_T := fun k => match k with
  | 0 => ("SedgeBarges$Beds", "number", "I", false)
  | 1 => ("SedgeBarges$Beds", "place", "[I", true)
  | 2 => ("SedgeBarges$Beds", "size", "[I", true)
  | 3 => ("SedgeBarges$Beds", "age", "[I", true)
  | 4 => ("SedgeBarges$Beds", "sedge", "[I", true)
  | 5 => ("SedgeBarges$Beds", "untiedSedge", "[I", true)
  | 6 => ("SedgeBarges$Beds", "untiedReed", "[I", true)
  | 7 => ("SedgeBarges$Beds", "tiedSedge", "[I", true)
  | 8 => ("SedgeBarges$Beds", "tiedReed", "[I", true)
  | _ => ("SedgeBarges$Beds", "change", "[I", true)
def tyX1 : Nat → FieldType := fun k => match k with
  | 0 => .int
  | 1 => .array .int
  | 2 => .array .int
  | 3 => .array .int
  | 4 => .array .int
  | 5 => .array .int
  | 6 => .array .int
  | 7 => .array .int
  | 8 => .array .int
  | _ => .array .int
abbrev wsX10 : List Cond := u_ws RX1 TX1 10
theorem nmX1 : ∀ a, a < 10 → ∀ b, b < 10 → a ≠ b → (TX1 a).2.1 ≠ (TX1 b).2.1 := by decide +kernel
theorem tyX1_ok : ∀ k, k < 10 → parseFieldDescriptor (TX1 k).2.2.1 = some (tyX1 k) := by decide +kernel
abbrev cX1_init : ByteArray := prog_3_method_1_code
def yX1_init : MethodName := ⟨RX1, "<init>", "()V"⟩
abbrev cX1_areFull : ByteArray := prog_3_method_2_code
def yX1_areFull : MethodName := ⟨RX1, "areFull", "()Z"⟩
abbrev cX1_add : ByteArray := prog_3_method_3_code
def yX1_add : MethodName := ⟨RX1, "add", "(III)I"⟩
abbrev cX1_copyFrom : ByteArray := prog_3_method_4_code
def yX1_copyFrom : MethodName := ⟨RX1, "copyFrom", "(LSedgeBarges$Beds;)V"⟩
abbrev cX1_given : ByteArray := prog_3_method_5_code
def yX1_given : MethodName := ⟨RX1, "given", "(I)I"⟩
abbrev cX1_sedgeGiven : ByteArray := prog_3_method_6_code
def yX1_sedgeGiven : MethodName := ⟨RX1, "sedgeGiven", "(I)I"⟩
abbrev cX1_cutDown : ByteArray := prog_3_method_7_code
def yX1_cutDown : MethodName := ⟨RX1, "cutDown", "(I)I"⟩
abbrev cX1_tieUp : ByteArray := prog_3_method_8_code
def yX1_tieUp : MethodName := ⟨RX1, "tieUp", "(II)I"⟩
abbrev cX1_rot : ByteArray := prog_3_method_9_code
def yX1_rot : MethodName := ⟨RX1, "rot", "()I"⟩
abbrev cX1_endYear : ByteArray := prog_3_method_10_code
def yX1_endYear : MethodName := ⟨RX1, "endYear", "()V"⟩
abbrev cX1_changeByAge : ByteArray := prog_3_method_11_code
def yX1_changeByAge : MethodName := ⟨RX1, "changeByAge", "(I)I"⟩
abbrev cX1_isCreptInto : ByteArray := prog_3_method_12_code
def yX1_isCreptInto : MethodName := ⟨RX1, "isCreptInto", "(I)Z"⟩
abbrev cX1_tell : ByteArray := prog_3_method_13_code
def yX1_tell : MethodName := ⟨RX1, "tell", "(II)I"⟩
abbrev cX1_sedgeOfAll : ByteArray := prog_3_method_14_code
def yX1_sedgeOfAll : MethodName := ⟨RX1, "sedgeOfAll", "()I"⟩
abbrev cX1_givenByAll : ByteArray := prog_3_method_15_code
def yX1_givenByAll : MethodName := ⟨RX1, "givenByAll", "()I"⟩
abbrev cX1_untiedOfAll : ByteArray := prog_3_method_16_code
def yX1_untiedOfAll : MethodName := ⟨RX1, "untiedOfAll", "()I"⟩
abbrev cX1_tiedOfAll : ByteArray := prog_3_method_17_code
def yX1_tiedOfAll : MethodName := ⟨RX1, "tiedOfAll", "()I"⟩
def RX2 : String := "SedgeBarges$Landings"
def TX2 : u_T := fun k => match k with
  | _ => ("SedgeBarges$Landings", "store", "[I", true)
def tyX2 : Nat → FieldType := fun k => match k with
  | _ => .array .int
abbrev wsX20 : List Cond := u_ws RX2 TX2 1
theorem nmX2 : ∀ a, a < 1 → ∀ b, b < 1 → a ≠ b → (TX2 a).2.1 ≠ (TX2 b).2.1 := by decide +kernel
theorem tyX2_ok : ∀ k, k < 1 → parseFieldDescriptor (TX2 k).2.2.1 = some (tyX2 k) := by decide +kernel
abbrev cX2_init : ByteArray := prog_4_method_1_code
def yX2_init : MethodName := ⟨RX2, "<init>", "()V"⟩
abbrev cX2_copyFrom : ByteArray := prog_4_method_2_code
def yX2_copyFrom : MethodName := ⟨RX2, "copyFrom", "(LSedgeBarges$Landings;)V"⟩
abbrev cX2_sedgePrice : ByteArray := prog_4_method_3_code
def yX2_sedgePrice : MethodName := ⟨RX2, "sedgePrice", "(I)I"⟩
abbrev cX2_reedPrice : ByteArray := prog_4_method_4_code
def yX2_reedPrice : MethodName := ⟨RX2, "reedPrice", "(I)I"⟩
abbrev cX2_thatch : ByteArray := prog_4_method_5_code
def yX2_thatch : MethodName := ⟨RX2, "thatch", "()V"⟩
abbrev cX2_tell : ByteArray := prog_4_method_6_code
def yX2_tell : MethodName := ⟨RX2, "tell", "(II)I"⟩
abbrev cX2_storeOfAll : ByteArray := prog_4_method_7_code
def yX2_storeOfAll : MethodName := ⟨RX2, "storeOfAll", "()I"⟩
def RX3 : String := "SedgeBarges$Waterway"
def TX3 : u_T := fun k => match k with
  | 0 => ("SedgeBarges$Waterway", "day", "I", false)
  | 1 => ("SedgeBarges$Waterway", "coins", "I", false)
  | 2 => ("SedgeBarges$Waterway", "ties", "I", false)
  | 3 => ("SedgeBarges$Waterway", "rotted", "I", false)
  | 4 => ("SedgeBarges$Waterway", "beds", "LSedgeBarges$Beds;", true)
  | 5 => ("SedgeBarges$Waterway", "barges", "LSedgeBarges$Barges;", true)
  | _ => ("SedgeBarges$Waterway", "landings", "LSedgeBarges$Landings;", true)
def tyX3 : Nat → FieldType := fun k => match k with
  | 0 => .int
  | 1 => .int
  | 2 => .int
  | 3 => .int
  | 4 => .object "SedgeBarges$Beds"
  | 5 => .object "SedgeBarges$Barges"
  | _ => .object "SedgeBarges$Landings"
abbrev wsX30 : List Cond := u_ws RX3 TX3 7
theorem nmX3 : ∀ a, a < 7 → ∀ b, b < 7 → a ≠ b → (TX3 a).2.1 ≠ (TX3 b).2.1 := by decide +kernel
theorem tyX3_ok : ∀ k, k < 7 → parseFieldDescriptor (TX3 k).2.2.1 = some (tyX3 k) := by decide +kernel
abbrev cX3_init : ByteArray := prog_5_method_1_code
def yX3_init : MethodName := ⟨RX3, "<init>", "()V"⟩
abbrev cX3_copyFrom : ByteArray := prog_5_method_2_code
def yX3_copyFrom : MethodName := ⟨RX3, "copyFrom", "(LSedgeBarges$Waterway;)V"⟩
abbrev cX3_takeAboard : ByteArray := prog_5_method_3_code
def yX3_takeAboard : MethodName := ⟨RX3, "takeAboard", "(II)I"⟩
abbrev cX3_sellAll : ByteArray := prog_5_method_4_code
def yX3_sellAll : MethodName := ⟨RX3, "sellAll", "(II)I"⟩
abbrev cX3_passDays : ByteArray := prog_5_method_5_code
def yX3_passDays : MethodName := ⟨RX3, "passDays", "(I)I"⟩
abbrev cX3_passDay : ByteArray := prog_5_method_6_code
def yX3_passDay : MethodName := ⟨RX3, "passDay", "()V"⟩
abbrev cX3_tell : ByteArray := prog_5_method_7_code
def yX3_tell : MethodName := ⟨RX3, "tell", "(I)I"⟩
def RX4 : String := "SedgeBarges"
def TX4 : u_T := fun k => match k with
  | 0 => ("SedgeBarges", "now", "LSedgeBarges$Waterway;", true)
  | _ => ("SedgeBarges", "ahead", "LSedgeBarges$Waterway;", true)
def tyX4 : Nat → FieldType := fun k => match k with
  | 0 => .object "SedgeBarges$Waterway"
  | _ => .object "SedgeBarges$Waterway"
abbrev wsX40 : List Cond := u_ws RX4 TX4 2
theorem nmX4 : ∀ a, a < 2 → ∀ b, b < 2 → a ≠ b → (TX4 a).2.1 ≠ (TX4 b).2.1 := by decide +kernel
theorem tyX4_ok : ∀ k, k < 2 → parseFieldDescriptor (TX4 k).2.2.1 = some (tyX4 k) := by decide +kernel
abbrev cX4_init : ByteArray := prog_1_method_1_code
def yX4_init : MethodName := ⟨RX4, "<init>", "()V"⟩
abbrev cX4_bed : ByteArray := prog_1_method_2_code
def yX4_bed : MethodName := ⟨RX4, "bed", "(III)I"⟩
abbrev cX4_cut : ByteArray := prog_1_method_3_code
def yX4_cut : MethodName := ⟨RX4, "cut", "(I)I"⟩
abbrev cX4_tie : ByteArray := prog_1_method_4_code
def yX4_tie : MethodName := ⟨RX4, "tie", "(I)I"⟩
abbrev cX4_buy : ByteArray := prog_1_method_5_code
def yX4_buy : MethodName := ⟨RX4, "buy", "(I)I"⟩
abbrev cX4_about : ByteArray := prog_1_method_6_code
def yX4_about : MethodName := ⟨RX4, "about", "(II)I"⟩
abbrev cX4_best : ByteArray := prog_1_method_7_code
def yX4_best : MethodName := ⟨RX4, "best", "(I)I"⟩
abbrev cX4_barge : ByteArray := prog_1_method_8_code
def yX4_barge : MethodName := ⟨RX4, "barge", "(I)I"⟩
abbrev cX4_sail : ByteArray := prog_1_method_9_code
def yX4_sail : MethodName := ⟨RX4, "sail", "(II)I"⟩
abbrev cX4_load : ByteArray := prog_1_method_10_code
def yX4_load : MethodName := ⟨RX4, "load", "(II)I"⟩
abbrev cX4_sell : ByteArray := prog_1_method_11_code
def yX4_sell : MethodName := ⟨RX4, "sell", "(I)I"⟩
abbrev cX4_told : ByteArray := prog_1_method_12_code
def yX4_told : MethodName := ⟨RX4, "told", "(II)I"⟩
abbrev cX4_landing : ByteArray := prog_1_method_13_code
def yX4_landing : MethodName := ⟨RX4, "landing", "(II)I"⟩
abbrev cX4_would : ByteArray := prog_1_method_14_code
def yX4_would : MethodName := ⟨RX4, "would", "(II)I"⟩
abbrev cX4_advise : ByteArray := prog_1_method_15_code
def yX4_advise : MethodName := ⟨RX4, "advise", "(I)I"⟩
abbrev cX4_count : ByteArray := prog_1_method_16_code
def yX4_count : MethodName := ⟨RX4, "count", "(I)I"⟩
abbrev cX4_pass : ByteArray := prog_1_method_17_code
def yX4_pass : MethodName := ⟨RX4, "pass", "(I)I"⟩
abbrev cX4_foresee : ByteArray := prog_1_method_18_code
def yX4_foresee : MethodName := ⟨RX4, "foresee", "(II)I"⟩
abbrev cX4_mean : ByteArray := prog_1_method_19_code
def yX4_mean : MethodName := ⟨RX4, "mean", "()D"⟩
abbrev cX4_digest : ByteArray := prog_1_method_20_code
def yX4_digest : MethodName := ⟨RX4, "digest", "()J"⟩
abbrev cX4_needBed : ByteArray := prog_1_method_21_code
def yX4_needBed : MethodName := ⟨RX4, "needBed", "(I)V"⟩
abbrev cX4_needBarge : ByteArray := prog_1_method_22_code
def yX4_needBarge : MethodName := ⟨RX4, "needBarge", "(I)V"⟩
abbrev cX4_needLanding : ByteArray := prog_1_method_23_code
def yX4_needLanding : MethodName := ⟨RX4, "needLanding", "(I)V"⟩
abbrev cX4_needPlace : ByteArray := prog_1_method_24_code
def yX4_needPlace : MethodName := ⟨RX4, "needPlace", "(I)V"⟩
abbrev cX4_needFigure : ByteArray := prog_1_method_25_code
def yX4_needFigure : MethodName := ⟨RX4, "needFigure", "(II)V"⟩
abbrev cX4_needDays : ByteArray := prog_1_method_26_code
def yX4_needDays : MethodName := ⟨RX4, "needDays", "(I)V"⟩
abbrev cX4_tenthRoundedUp : ByteArray := prog_1_method_27_code
def yX4_tenthRoundedUp : MethodName := ⟨RX4, "tenthRoundedUp", "(I)I"⟩
abbrev cX4_twentiethRoundedUp : ByteArray := prog_1_method_28_code
def yX4_twentiethRoundedUp : MethodName := ⟨RX4, "twentiethRoundedUp", "(I)I"⟩
abbrev cX4_landingAt : ByteArray := prog_1_method_29_code
def yX4_landingAt : MethodName := ⟨RX4, "landingAt", "(I)I"⟩
def RX5 : String := "SedgeBargesModel"
def TX5 : u_T := fun k => match k with
  | 0 => ("SedgeBargesModel", "thrown", "I", false)
  | 1 => ("SedgeBargesModel", "day", "I", false)
  | 2 => ("SedgeBargesModel", "coins", "I", false)
  | 3 => ("SedgeBargesModel", "ties", "I", false)
  | 4 => ("SedgeBargesModel", "rotted", "I", false)
  | 5 => ("SedgeBargesModel", "beds", "I", false)
  | 6 => ("SedgeBargesModel", "barges", "I", false)
  | 7 => ("SedgeBargesModel", "b", "[I", true)
  | 8 => ("SedgeBargesModel", "g", "[I", true)
  | 9 => ("SedgeBargesModel", "store", "[I", true)
  | 10 => ("SedgeBargesModel", "bAhead", "[I", true)
  | 11 => ("SedgeBargesModel", "gAhead", "[I", true)
  | 12 => ("SedgeBargesModel", "storeAhead", "[I", true)
  | _ => ("SedgeBargesModel", "more", "[I", true)
def tyX5 : Nat → FieldType := fun k => match k with
  | 0 => .int
  | 1 => .int
  | 2 => .int
  | 3 => .int
  | 4 => .int
  | 5 => .int
  | 6 => .int
  | 7 => .array .int
  | 8 => .array .int
  | 9 => .array .int
  | 10 => .array .int
  | 11 => .array .int
  | 12 => .array .int
  | _ => .array .int
abbrev wsX50 : List Cond := u_ws RX5 TX5 14
theorem nmX5 : ∀ a, a < 14 → ∀ b, b < 14 → a ≠ b → (TX5 a).2.1 ≠ (TX5 b).2.1 := by decide +kernel
theorem tyX5_ok : ∀ k, k < 14 → parseFieldDescriptor (TX5 k).2.2.1 = some (tyX5 k) := by decide +kernel
abbrev cX5_init : ByteArray := prog_7_method_1_code
def yX5_init : MethodName := ⟨RX5, "<init>", "()V"⟩
abbrev cX5_thrown : ByteArray := prog_7_method_2_code
def yX5_thrown : MethodName := ⟨RX5, "thrown", "()I"⟩
abbrev cX5_no : ByteArray := prog_7_method_3_code
def yX5_no : MethodName := ⟨RX5, "no", "(I)I"⟩
abbrev cX5_isIn : ByteArray := prog_7_method_4_code
def yX5_isIn : MethodName := ⟨RX5, "isIn", "(III)Z"⟩
abbrev cX5_isBed : ByteArray := prog_7_method_5_code
def yX5_isBed : MethodName := ⟨RX5, "isBed", "(I)Z"⟩
abbrev cX5_isBarge : ByteArray := prog_7_method_6_code
def yX5_isBarge : MethodName := ⟨RX5, "isBarge", "(I)Z"⟩
abbrev cX5_gives : ByteArray := prog_7_method_7_code
def yX5_gives : MethodName := ⟨RX5, "gives", "([II)I"⟩
abbrev cX5_givesSedge : ByteArray := prog_7_method_8_code
def yX5_givesSedge : MethodName := ⟨RX5, "givesSedge", "([II)I"⟩
abbrev cX5_bed : ByteArray := prog_7_method_9_code
def yX5_bed : MethodName := ⟨RX5, "bed", "(III)I"⟩
abbrev cX5_cut : ByteArray := prog_7_method_10_code
def yX5_cut : MethodName := ⟨RX5, "cut", "(I)I"⟩
abbrev cX5_tie : ByteArray := prog_7_method_11_code
def yX5_tie : MethodName := ⟨RX5, "tie", "(I)I"⟩
abbrev cX5_tieOf : ByteArray := prog_7_method_12_code
def yX5_tieOf : MethodName := ⟨RX5, "tieOf", "(II)I"⟩
abbrev cX5_buy : ByteArray := prog_7_method_13_code
def yX5_buy : MethodName := ⟨RX5, "buy", "(I)I"⟩
abbrev cX5_bedTold : ByteArray := prog_7_method_14_code
def yX5_bedTold : MethodName := ⟨RX5, "bedTold", "(II)I"⟩
abbrev cX5_about : ByteArray := prog_7_method_15_code
def yX5_about : MethodName := ⟨RX5, "about", "(II)I"⟩
abbrev cX5_best : ByteArray := prog_7_method_16_code
def yX5_best : MethodName := ⟨RX5, "best", "(I)I"⟩
abbrev cX5_barge : ByteArray := prog_7_method_17_code
def yX5_barge : MethodName := ⟨RX5, "barge", "(I)I"⟩
abbrev cX5_days : ByteArray := prog_7_method_18_code
def yX5_days : MethodName := ⟨RX5, "days", "(II)I"⟩
abbrev cX5_sail : ByteArray := prog_7_method_19_code
def yX5_sail : MethodName := ⟨RX5, "sail", "(II)I"⟩
abbrev cX5_aboard : ByteArray := prog_7_method_20_code
def yX5_aboard : MethodName := ⟨RX5, "aboard", "(I)I"⟩
abbrev cX5_load : ByteArray := prog_7_method_21_code
def yX5_load : MethodName := ⟨RX5, "load", "(II)I"⟩
abbrev cX5_loadOf : ByteArray := prog_7_method_22_code
def yX5_loadOf : MethodName := ⟨RX5, "loadOf", "(III)I"⟩
abbrev cX5_landingAt : ByteArray := prog_7_method_23_code
def yX5_landingAt : MethodName := ⟨RX5, "landingAt", "(I)I"⟩
abbrev cX5_price : ByteArray := prog_7_method_24_code
def yX5_price : MethodName := ⟨RX5, "price", "(II)I"⟩
abbrev cX5_reedPrice : ByteArray := prog_7_method_25_code
def yX5_reedPrice : MethodName := ⟨RX5, "reedPrice", "(II)I"⟩
abbrev cX5_brings : ByteArray := prog_7_method_26_code
def yX5_brings : MethodName := ⟨RX5, "brings", "(III)I"⟩
abbrev cX5_sell : ByteArray := prog_7_method_27_code
def yX5_sell : MethodName := ⟨RX5, "sell", "(I)I"⟩
abbrev cX5_bargeTold : ByteArray := prog_7_method_28_code
def yX5_bargeTold : MethodName := ⟨RX5, "bargeTold", "(II)I"⟩
abbrev cX5_told : ByteArray := prog_7_method_29_code
def yX5_told : MethodName := ⟨RX5, "told", "(II)I"⟩
abbrev cX5_landingTold : ByteArray := prog_7_method_30_code
def yX5_landingTold : MethodName := ⟨RX5, "landingTold", "(II)I"⟩
abbrev cX5_landing : ByteArray := prog_7_method_31_code
def yX5_landing : MethodName := ⟨RX5, "landing", "(II)I"⟩
abbrev cX5_left : ByteArray := prog_7_method_32_code
def yX5_left : MethodName := ⟨RX5, "left", "(I)I"⟩
abbrev cX5_wouldBring : ByteArray := prog_7_method_33_code
def yX5_wouldBring : MethodName := ⟨RX5, "wouldBring", "(II)I"⟩
abbrev cX5_would : ByteArray := prog_7_method_34_code
def yX5_would : MethodName := ⟨RX5, "would", "(II)I"⟩
abbrev cX5_advise : ByteArray := prog_7_method_35_code
def yX5_advise : MethodName := ⟨RX5, "advise", "(I)I"⟩
abbrev cX5_sailOn : ByteArray := prog_7_method_36_code
def yX5_sailOn : MethodName := ⟨RX5, "sailOn", "([II)V"⟩
abbrev cX5_rot : ByteArray := prog_7_method_37_code
def yX5_rot : MethodName := ⟨RX5, "rot", "([II)I"⟩
abbrev cX5_hasReedBeside : ByteArray := prog_7_method_38_code
def yX5_hasReedBeside : MethodName := ⟨RX5, "hasReedBeside", "([II)Z"⟩
abbrev cX5_endYear : ByteArray := prog_7_method_39_code
def yX5_endYear : MethodName := ⟨RX5, "endYear", "([I)V"⟩
abbrev cX5_pass : ByteArray := prog_7_method_40_code
def yX5_pass : MethodName := ⟨RX5, "pass", "([I[I[II)I"⟩
abbrev cX5_pass_ : ByteArray := prog_7_method_41_code
def yX5_pass_ : MethodName := ⟨RX5, "pass", "(I)I"⟩
abbrev cX5_lookAhead : ByteArray := prog_7_method_42_code
def yX5_lookAhead : MethodName := ⟨RX5, "lookAhead", "()V"⟩
abbrev cX5_sum : ByteArray := prog_7_method_43_code
def yX5_sum : MethodName := ⟨RX5, "sum", "([II)I"⟩
abbrev cX5_giveAll : ByteArray := prog_7_method_44_code
def yX5_giveAll : MethodName := ⟨RX5, "giveAll", "([I)I"⟩
abbrev cX5_aboardAll : ByteArray := prog_7_method_45_code
def yX5_aboardAll : MethodName := ⟨RX5, "aboardAll", "()I"⟩
abbrev cX5_summed : ByteArray := prog_7_method_46_code
def yX5_summed : MethodName := ⟨RX5, "summed", "([I[III)I"⟩
abbrev cX5_counted : ByteArray := prog_7_method_47_code
def yX5_counted : MethodName := ⟨RX5, "counted", "(I)I"⟩
abbrev cX5_count : ByteArray := prog_7_method_48_code
def yX5_count : MethodName := ⟨RX5, "count", "(I)I"⟩
abbrev cX5_foresee : ByteArray := prog_7_method_49_code
def yX5_foresee : MethodName := ⟨RX5, "foresee", "(II)I"⟩
abbrev cX5_mean : ByteArray := prog_7_method_50_code
def yX5_mean : MethodName := ⟨RX5, "mean", "()D"⟩
abbrev cX5_digest : ByteArray := prog_7_method_51_code
def yX5_digest : MethodName := ⟨RX5, "digest", "()J"⟩
def RJ9 : String := "java/lang/Math"
def TJ9 : u_T := fun k => match k with
  | _ => ("", "", "", false)
def tyJ9 : Nat → FieldType := fun k => match k with
  | _ => .int
abbrev wsJ90 : List Cond := u_ws RJ9 TJ9 0
theorem nmJ9 : ∀ a, a < 0 → ∀ b, b < 0 → a ≠ b → (TJ9 a).2.1 ≠ (TJ9 b).2.1 := by decide +kernel
theorem tyJ9_ok : ∀ k, k < 0 → parseFieldDescriptor (TJ9 k).2.2.1 = some (tyJ9 k) := by decide +kernel
abbrev cJ9_abs_0f7a4 : ByteArray := prog_12_method_59_code
def yJ9_abs_0f7a4 : MethodName := ⟨RJ9, "abs", "(I)I"⟩
abbrev cJ9_max_7cf53 : ByteArray := prog_12_method_65_code
def yJ9_max_7cf53 : MethodName := ⟨RJ9, "max", "(II)I"⟩
abbrev cJ9_min_7cf53 : ByteArray := prog_12_method_69_code
def yJ9_min_7cf53 : MethodName := ⟨RJ9, "min", "(II)I"⟩
def RJ0 : String := "java/lang/String"
def TJ0 : u_T := fun k => match k with
  | _ => ("", "", "", false)
def tyJ0 : Nat → FieldType := fun k => match k with
  | _ => .int
abbrev wsJ00 : List Cond := u_ws RJ0 TJ0 0
theorem nmJ0 : ∀ a, a < 0 → ∀ b, b < 0 → a ≠ b → (TJ0 a).2.1 ≠ (TJ0 b).2.1 := by decide +kernel
theorem tyJ0_ok : ∀ k, k < 0 → parseFieldDescriptor (TJ0 k).2.2.1 = some (tyJ0 k) := by decide +kernel
def RJ10 : String := "java/lang/System"
def TJ10 : u_T := fun k => match k with
  | _ => ("", "", "", false)
def tyJ10 : Nat → FieldType := fun k => match k with
  | _ => .int
abbrev wsJ100 : List Cond := u_ws RJ10 TJ10 0
theorem nmJ10 : ∀ a, a < 0 → ∀ b, b < 0 → a ≠ b → (TJ10 a).2.1 ≠ (TJ10 b).2.1 := by decide +kernel
theorem tyJ10_ok : ∀ k, k < 0 → parseFieldDescriptor (TJ10 k).2.2.1 = some (tyJ10 k) := by decide +kernel
def RL : String := "SedgeBargesLaw"
abbrev cL_bed : ByteArray := method_3_code
def yL_bed : MethodName := ⟨RL, "bed", "(LSedgeBarges;III[J)I"⟩
abbrev cL_cut : ByteArray := method_4_code
def yL_cut : MethodName := ⟨RL, "cut", "(LSedgeBarges;I[J)I"⟩
abbrev cL_tie : ByteArray := method_5_code
def yL_tie : MethodName := ⟨RL, "tie", "(LSedgeBarges;I[J)I"⟩
abbrev cL_buy : ByteArray := method_6_code
def yL_buy : MethodName := ⟨RL, "buy", "(LSedgeBarges;I[J)I"⟩
abbrev cL_about : ByteArray := method_7_code
def yL_about : MethodName := ⟨RL, "about", "(LSedgeBarges;II[J)I"⟩
abbrev cL_best : ByteArray := method_8_code
def yL_best : MethodName := ⟨RL, "best", "(LSedgeBarges;I[J)I"⟩
abbrev cL_barge : ByteArray := method_9_code
def yL_barge : MethodName := ⟨RL, "barge", "(LSedgeBarges;I[J)I"⟩
abbrev cL_sail : ByteArray := method_10_code
def yL_sail : MethodName := ⟨RL, "sail", "(LSedgeBarges;II[J)I"⟩
abbrev cL_load : ByteArray := method_11_code
def yL_load : MethodName := ⟨RL, "load", "(LSedgeBarges;II[J)I"⟩
abbrev cL_sell : ByteArray := method_12_code
def yL_sell : MethodName := ⟨RL, "sell", "(LSedgeBarges;I[J)I"⟩
abbrev cL_told : ByteArray := method_13_code
def yL_told : MethodName := ⟨RL, "told", "(LSedgeBarges;II[J)I"⟩
abbrev cL_landing : ByteArray := method_14_code
def yL_landing : MethodName := ⟨RL, "landing", "(LSedgeBarges;II[J)I"⟩
abbrev cL_would : ByteArray := method_15_code
def yL_would : MethodName := ⟨RL, "would", "(LSedgeBarges;II[J)I"⟩
abbrev cL_advise : ByteArray := method_16_code
def yL_advise : MethodName := ⟨RL, "advise", "(LSedgeBarges;I[J)I"⟩
abbrev cL_count : ByteArray := method_17_code
def yL_count : MethodName := ⟨RL, "count", "(LSedgeBarges;I[J)I"⟩
abbrev cL_pass : ByteArray := method_18_code
def yL_pass : MethodName := ⟨RL, "pass", "(LSedgeBarges;I[J)I"⟩
abbrev cL_foresee : ByteArray := method_19_code
def yL_foresee : MethodName := ⟨RL, "foresee", "(LSedgeBarges;II[J)I"⟩
abbrev cL_law : ByteArray := code
def yL_law : MethodName := ⟨RL, "law", "([I)Z"⟩
def wsX0_init : List Cond := .code yX0_init cX0_init 1 none :: ([.methodLink RX0 3 objectInit, .instanceMethod objectInit, .code objectInit ⟨#[0xb1]⟩ 1 none, .arrayClass .int, .fieldLink RX0 9 "SedgeBarges$Barges" "place" "[I", .fieldLink RX0 15 "SedgeBarges$Barges" "goal" "[I", .fieldLink RX0 18 "SedgeBarges$Barges" "sedge" "[I", .fieldLink RX0 21 "SedgeBarges$Barges" "reed" "[I", .fieldLink RX0 24 "SedgeBarges$Barges" "brought" "[I"] ++ wsX00)
def wsX0_areFull : List Cond := .code yX0_areFull cX0_areFull 1 (some .boolean) :: ([.fieldLink RX0 27 "SedgeBarges$Barges" "number" "I"] ++ wsX00)
def wsX0_add : List Cond := .code yX0_add cX0_add 3 (some .int) :: ([.fieldLink RX0 27 "SedgeBarges$Barges" "number" "I", .fieldLink RX0 9 "SedgeBarges$Barges" "place" "[I", .fieldLink RX0 15 "SedgeBarges$Barges" "goal" "[I"] ++ wsX00)
def wsX0_copyFrom : List Cond := .code yX0_copyFrom cX0_copyFrom 3 none :: ([.fieldLink RX0 27 "SedgeBarges$Barges" "number" "I", .fieldLink RX0 9 "SedgeBarges$Barges" "place" "[I", .fieldLink RX0 15 "SedgeBarges$Barges" "goal" "[I", .fieldLink RX0 18 "SedgeBarges$Barges" "sedge" "[I", .fieldLink RX0 21 "SedgeBarges$Barges" "reed" "[I", .fieldLink RX0 24 "SedgeBarges$Barges" "brought" "[I"] ++ wsX00)
def wsX0_send : List Cond := .code yX0_send cX0_send 4 (some .int) :: ([.fieldLink RX0 9 "SedgeBarges$Barges" "place" "[I", .methodLink RX0 31 Lib.Math.abs.name, .static Lib.Math.abs.name, .initialized "java/lang/Math", .code Lib.Math.abs.name Lib.Math.abs.code 1 (some .int), .fieldLink RX0 15 "SedgeBarges$Barges" "goal" "[I"] ++ wsX00)
def wsX0_sailOn : List Cond := .code yX0_sailOn cX0_sailOn 3 none :: ([.fieldLink RX0 27 "SedgeBarges$Barges" "number" "I", .fieldLink RX0 15 "SedgeBarges$Barges" "goal" "[I", .fieldLink RX0 9 "SedgeBarges$Barges" "place" "[I", .methodLink RX0 37 Lib.Math.min.name, .static Lib.Math.min.name, .initialized "java/lang/Math", .code Lib.Math.min.name Lib.Math.min.code 2 (some .int), .methodLink RX0 41 Lib.Math.max.name, .static Lib.Math.max.name, .code Lib.Math.max.name Lib.Math.max.code 2 (some .int)] ++ wsX00)
def wsX0_aboard : List Cond := .code yX0_aboard cX0_aboard 2 (some .int) :: ([.fieldLink RX0 18 "SedgeBarges$Barges" "sedge" "[I", .fieldLink RX0 21 "SedgeBarges$Barges" "reed" "[I"] ++ wsX00)
def wsX4_landingAt : List Cond := .code yX4_landingAt cX4_landingAt 2 (some .int) :: ([.fieldLink RX4 147 "SedgeBarges" "LANDING_PLACE" "[I"])
def wsX0_tell : List Cond := .code yX0_tell cX0_tell 3 (some .int) :: ([.fieldLink RX0 9 "SedgeBarges$Barges" "place" "[I", .fieldLink RX0 15 "SedgeBarges$Barges" "goal" "[I", .fieldLink RX0 18 "SedgeBarges$Barges" "sedge" "[I", .fieldLink RX0 21 "SedgeBarges$Barges" "reed" "[I", .fieldLink RX0 24 "SedgeBarges$Barges" "brought" "[I", .static yX4_landingAt, .initialized RX4, .code yX4_landingAt cX4_landingAt 2 (some .int), .fieldLink RX4 147 "SedgeBarges" "LANDING_PLACE" "[I"] ++ wsX00)
def wsX0_aboardAll : List Cond := .code yX0_aboardAll cX0_aboardAll 3 (some .int) :: ([.fieldLink RX0 27 "SedgeBarges$Barges" "number" "I", .methodLink RX0 47 yX0_aboard, .instanceMethod yX0_aboard, .selects RX0 yX0_aboard yX0_aboard, .initialized RX0, .code yX0_aboard cX0_aboard 2 (some .int), .fieldLink RX0 18 "SedgeBarges$Barges" "sedge" "[I", .fieldLink RX0 21 "SedgeBarges$Barges" "reed" "[I"] ++ wsX00)
def wsX1_init : List Cond := .code yX1_init cX1_init 1 none :: ([.methodLink RX1 3 objectInit, .instanceMethod objectInit, .code objectInit ⟨#[0xb1]⟩ 1 none, .arrayClass .int, .fieldLink RX1 9 "SedgeBarges$Beds" "place" "[I", .fieldLink RX1 15 "SedgeBarges$Beds" "size" "[I", .fieldLink RX1 18 "SedgeBarges$Beds" "age" "[I", .fieldLink RX1 21 "SedgeBarges$Beds" "sedge" "[I", .fieldLink RX1 24 "SedgeBarges$Beds" "untiedSedge" "[I", .fieldLink RX1 27 "SedgeBarges$Beds" "untiedReed" "[I", .fieldLink RX1 30 "SedgeBarges$Beds" "tiedSedge" "[I", .fieldLink RX1 33 "SedgeBarges$Beds" "tiedReed" "[I", .fieldLink RX1 36 "SedgeBarges$Beds" "change" "[I"] ++ wsX10)
def wsX1_areFull : List Cond := .code yX1_areFull cX1_areFull 1 (some .boolean) :: ([.fieldLink RX1 39 "SedgeBarges$Beds" "number" "I"] ++ wsX10)
def wsX1_add : List Cond := .code yX1_add cX1_add 5 (some .int) :: ([.fieldLink RX1 39 "SedgeBarges$Beds" "number" "I", .fieldLink RX1 9 "SedgeBarges$Beds" "place" "[I", .fieldLink RX1 15 "SedgeBarges$Beds" "size" "[I", .fieldLink RX1 18 "SedgeBarges$Beds" "age" "[I", .fieldLink RX1 21 "SedgeBarges$Beds" "sedge" "[I"] ++ wsX10)
def wsX1_copyFrom : List Cond := .code yX1_copyFrom cX1_copyFrom 3 none :: ([.fieldLink RX1 39 "SedgeBarges$Beds" "number" "I", .fieldLink RX1 9 "SedgeBarges$Beds" "place" "[I", .fieldLink RX1 15 "SedgeBarges$Beds" "size" "[I", .fieldLink RX1 18 "SedgeBarges$Beds" "age" "[I", .fieldLink RX1 21 "SedgeBarges$Beds" "sedge" "[I", .fieldLink RX1 24 "SedgeBarges$Beds" "untiedSedge" "[I", .fieldLink RX1 27 "SedgeBarges$Beds" "untiedReed" "[I", .fieldLink RX1 30 "SedgeBarges$Beds" "tiedSedge" "[I", .fieldLink RX1 33 "SedgeBarges$Beds" "tiedReed" "[I"] ++ wsX10)
def wsX1_given : List Cond := .code yX1_given cX1_given 4 (some .int) :: ([.fieldLink RX1 18 "SedgeBarges$Beds" "age" "[I", .fieldLink RX1 15 "SedgeBarges$Beds" "size" "[I"] ++ wsX10)
def wsX1_sedgeGiven : List Cond := .code yX1_sedgeGiven cX1_sedgeGiven 2 (some .int) :: ([.fieldLink RX1 21 "SedgeBarges$Beds" "sedge" "[I", .methodLink RX1 46 yX1_given, .instanceMethod yX1_given, .selects RX1 yX1_given yX1_given, .initialized RX1, .code yX1_given cX1_given 4 (some .int), .fieldLink RX1 18 "SedgeBarges$Beds" "age" "[I", .fieldLink RX1 15 "SedgeBarges$Beds" "size" "[I"] ++ wsX10)
def wsX1_cutDown : List Cond := .code yX1_cutDown cX1_cutDown 4 (some .int) :: ([.fieldLink RX1 24 "SedgeBarges$Beds" "untiedSedge" "[I", .fieldLink RX1 27 "SedgeBarges$Beds" "untiedReed" "[I", .fieldLink RX1 18 "SedgeBarges$Beds" "age" "[I", .methodLink RX1 46 yX1_given, .instanceMethod yX1_given, .selects RX1 yX1_given yX1_given, .initialized RX1, .code yX1_given cX1_given 4 (some .int), .fieldLink RX1 15 "SedgeBarges$Beds" "size" "[I", .methodLink RX1 50 yX1_sedgeGiven, .instanceMethod yX1_sedgeGiven, .selects RX1 yX1_sedgeGiven yX1_sedgeGiven, .code yX1_sedgeGiven cX1_sedgeGiven 2 (some .int), .fieldLink RX1 21 "SedgeBarges$Beds" "sedge" "[I"] ++ wsX10)
def wsX1_tieUp : List Cond := .code yX1_tieUp cX1_tieUp 5 (some .int) :: ([.fieldLink RX1 24 "SedgeBarges$Beds" "untiedSedge" "[I", .methodLink RX1 53 Lib.Math.min.name, .static Lib.Math.min.name, .initialized "java/lang/Math", .code Lib.Math.min.name Lib.Math.min.code 2 (some .int), .fieldLink RX1 27 "SedgeBarges$Beds" "untiedReed" "[I", .fieldLink RX1 30 "SedgeBarges$Beds" "tiedSedge" "[I", .fieldLink RX1 33 "SedgeBarges$Beds" "tiedReed" "[I"] ++ wsX10)
def wsX4_tenthRoundedUp : List Cond := .code yX4_tenthRoundedUp cX4_tenthRoundedUp 1 (some .int) :: ([])
def wsX1_rot : List Cond := .code yX1_rot cX1_rot 5 (some .int) :: ([.fieldLink RX1 39 "SedgeBarges$Beds" "number" "I", .fieldLink RX1 24 "SedgeBarges$Beds" "untiedSedge" "[I", .fieldLink RX1 27 "SedgeBarges$Beds" "untiedReed" "[I", .static yX4_tenthRoundedUp, .initialized RX4, .code yX4_tenthRoundedUp cX4_tenthRoundedUp 1 (some .int)] ++ wsX10)
def wsX1_changeByAge : List Cond := .code yX1_changeByAge cX1_changeByAge 1 (some .int) :: ([])
def wsX1_isCreptInto : List Cond := .code yX1_isCreptInto cX1_isCreptInto 3 (some .boolean) :: ([.fieldLink RX1 39 "SedgeBarges$Beds" "number" "I", .fieldLink RX1 9 "SedgeBarges$Beds" "place" "[I", .methodLink RX1 72 Lib.Math.abs.name, .static Lib.Math.abs.name, .initialized "java/lang/Math", .code Lib.Math.abs.name Lib.Math.abs.code 1 (some .int), .fieldLink RX1 21 "SedgeBarges$Beds" "sedge" "[I"] ++ wsX10)
def wsX1_endYear : List Cond := .code yX1_endYear cX1_endYear 2 none :: ([.fieldLink RX1 39 "SedgeBarges$Beds" "number" "I", .fieldLink RX1 36 "SedgeBarges$Beds" "change" "[I", .fieldLink RX1 18 "SedgeBarges$Beds" "age" "[I", .fieldLink RX1 21 "SedgeBarges$Beds" "sedge" "[I", .methodLink RX1 53 Lib.Math.min.name, .static Lib.Math.min.name, .initialized "java/lang/Math", .code Lib.Math.min.name Lib.Math.min.code 2 (some .int), .methodLink RX1 69 Lib.Math.max.name, .static Lib.Math.max.name, .code Lib.Math.max.name Lib.Math.max.code 2 (some .int), .methodLink RX1 62 yX1_changeByAge, .static yX1_changeByAge, .initialized RX1, .code yX1_changeByAge cX1_changeByAge 1 (some .int), .methodLink RX1 65 yX1_isCreptInto, .instanceMethod yX1_isCreptInto, .selects RX1 yX1_isCreptInto yX1_isCreptInto, .code yX1_isCreptInto cX1_isCreptInto 3 (some .boolean), .fieldLink RX1 9 "SedgeBarges$Beds" "place" "[I", .methodLink RX1 72 Lib.Math.abs.name, .static Lib.Math.abs.name, .code Lib.Math.abs.name Lib.Math.abs.code 1 (some .int)] ++ wsX10)
def wsX1_tell : List Cond := .code yX1_tell cX1_tell 3 (some .int) :: ([.fieldLink RX1 9 "SedgeBarges$Beds" "place" "[I", .fieldLink RX1 15 "SedgeBarges$Beds" "size" "[I", .fieldLink RX1 18 "SedgeBarges$Beds" "age" "[I", .fieldLink RX1 21 "SedgeBarges$Beds" "sedge" "[I", .fieldLink RX1 24 "SedgeBarges$Beds" "untiedSedge" "[I", .fieldLink RX1 27 "SedgeBarges$Beds" "untiedReed" "[I", .fieldLink RX1 30 "SedgeBarges$Beds" "tiedSedge" "[I", .fieldLink RX1 33 "SedgeBarges$Beds" "tiedReed" "[I", .methodLink RX1 46 yX1_given, .instanceMethod yX1_given, .selects RX1 yX1_given yX1_given, .initialized RX1, .code yX1_given cX1_given 4 (some .int), .methodLink RX1 50 yX1_sedgeGiven, .instanceMethod yX1_sedgeGiven, .selects RX1 yX1_sedgeGiven yX1_sedgeGiven, .code yX1_sedgeGiven cX1_sedgeGiven 2 (some .int)] ++ wsX10)
def wsX1_sedgeOfAll : List Cond := .code yX1_sedgeOfAll cX1_sedgeOfAll 3 (some .int) :: ([.fieldLink RX1 39 "SedgeBarges$Beds" "number" "I", .fieldLink RX1 21 "SedgeBarges$Beds" "sedge" "[I"] ++ wsX10)
def wsX1_givenByAll : List Cond := .code yX1_givenByAll cX1_givenByAll 3 (some .int) :: ([.fieldLink RX1 39 "SedgeBarges$Beds" "number" "I", .methodLink RX1 46 yX1_given, .instanceMethod yX1_given, .selects RX1 yX1_given yX1_given, .initialized RX1, .code yX1_given cX1_given 4 (some .int), .fieldLink RX1 18 "SedgeBarges$Beds" "age" "[I", .fieldLink RX1 15 "SedgeBarges$Beds" "size" "[I"] ++ wsX10)
def wsX1_untiedOfAll : List Cond := .code yX1_untiedOfAll cX1_untiedOfAll 3 (some .int) :: ([.fieldLink RX1 39 "SedgeBarges$Beds" "number" "I", .fieldLink RX1 24 "SedgeBarges$Beds" "untiedSedge" "[I", .fieldLink RX1 27 "SedgeBarges$Beds" "untiedReed" "[I"] ++ wsX10)
def wsX1_tiedOfAll : List Cond := .code yX1_tiedOfAll cX1_tiedOfAll 3 (some .int) :: ([.fieldLink RX1 39 "SedgeBarges$Beds" "number" "I", .fieldLink RX1 30 "SedgeBarges$Beds" "tiedSedge" "[I", .fieldLink RX1 33 "SedgeBarges$Beds" "tiedReed" "[I"] ++ wsX10)
def wsX2_init : List Cond := .code yX2_init cX2_init 1 none :: ([.methodLink RX2 3 objectInit, .instanceMethod objectInit, .code objectInit ⟨#[0xb1]⟩ 1 none, .arrayClass .int, .fieldLink RX2 9 "SedgeBarges$Landings" "store" "[I"] ++ wsX20)
def wsX2_copyFrom : List Cond := .code yX2_copyFrom cX2_copyFrom 3 none :: ([.fieldLink RX2 9 "SedgeBarges$Landings" "store" "[I"] ++ wsX20)
def wsX2_sedgePrice : List Cond := .code yX2_sedgePrice cX2_sedgePrice 2 (some .int) :: ([.fieldLink RX2 9 "SedgeBarges$Landings" "store" "[I", .methodLink RX2 18 Lib.Math.max.name, .static Lib.Math.max.name, .initialized "java/lang/Math", .code Lib.Math.max.name Lib.Math.max.code 2 (some .int)] ++ wsX20)
def wsX2_reedPrice : List Cond := .code yX2_reedPrice cX2_reedPrice 2 (some .int) :: ([.methodLink RX2 18 Lib.Math.max.name, .static Lib.Math.max.name, .initialized "java/lang/Math", .code Lib.Math.max.name Lib.Math.max.code 2 (some .int), .methodLink RX2 24 yX2_sedgePrice, .instanceMethod yX2_sedgePrice, .selects RX2 yX2_sedgePrice yX2_sedgePrice, .initialized RX2, .code yX2_sedgePrice cX2_sedgePrice 2 (some .int), .fieldLink RX2 9 "SedgeBarges$Landings" "store" "[I"] ++ wsX20)
def wsX4_twentiethRoundedUp : List Cond := .code yX4_twentiethRoundedUp cX4_twentiethRoundedUp 1 (some .int) :: ([])
def wsX2_thatch : List Cond := .code yX2_thatch cX2_thatch 2 none :: ([.fieldLink RX2 9 "SedgeBarges$Landings" "store" "[I", .static yX4_twentiethRoundedUp, .initialized RX4, .code yX4_twentiethRoundedUp cX4_twentiethRoundedUp 1 (some .int)] ++ wsX20)
def wsX2_tell : List Cond := .code yX2_tell cX2_tell 3 (some .int) :: ([.fieldLink RX2 9 "SedgeBarges$Landings" "store" "[I", .methodLink RX2 24 yX2_sedgePrice, .instanceMethod yX2_sedgePrice, .selects RX2 yX2_sedgePrice yX2_sedgePrice, .initialized RX2, .code yX2_sedgePrice cX2_sedgePrice 2 (some .int), .methodLink RX2 18 Lib.Math.max.name, .static Lib.Math.max.name, .initialized "java/lang/Math", .code Lib.Math.max.name Lib.Math.max.code 2 (some .int), .methodLink RX2 34 yX2_reedPrice, .instanceMethod yX2_reedPrice, .selects RX2 yX2_reedPrice yX2_reedPrice, .code yX2_reedPrice cX2_reedPrice 2 (some .int)] ++ wsX20)
def wsX2_storeOfAll : List Cond := .code yX2_storeOfAll cX2_storeOfAll 3 (some .int) :: ([.fieldLink RX2 9 "SedgeBarges$Landings" "store" "[I"] ++ wsX20)
def wsX3_init_r1 : List Cond := [Cond.methodLink RX3 3 objectInit, Cond.instanceMethod objectInit, Cond.code objectInit ⟨#[0xb1]⟩ 1 none, Cond.fieldLink RX3 9 "SedgeBarges$Waterway" "coins" "I", Cond.fieldLink RX3 15 "SedgeBarges$Waterway" "ties" "I", Cond.classLink RX3 18 RX1, Cond.instantiable RX1 10, Cond.initialized RX1, Cond.fieldLink RX3 21 "SedgeBarges$Waterway" "beds" "LSedgeBarges$Beds;", Cond.classLink RX3 25 RX0, Cond.instantiable RX0 6, Cond.initialized RX0, Cond.fieldLink RX3 28 "SedgeBarges$Waterway" "barges" "LSedgeBarges$Barges;", Cond.classLink RX3 32 RX2, Cond.instantiable RX2 1, Cond.initialized RX2, Cond.fieldLink RX3 35 "SedgeBarges$Waterway" "landings" "LSedgeBarges$Landings;", Cond.instanceMethod yX1_init, Cond.code yX1_init cX1_init 1 none, Cond.methodLink RX1 3 objectInit, Cond.arrayClass .int, Cond.fieldLink RX1 9 "SedgeBarges$Beds" "place" "[I", Cond.fieldLink RX1 15 "SedgeBarges$Beds" "size" "[I", Cond.fieldLink RX1 18 "SedgeBarges$Beds" "age" "[I"]
def wsX3_init_r2 : List Cond := [Cond.fieldLink RX1 21 "SedgeBarges$Beds" "sedge" "[I", Cond.fieldLink RX1 24 "SedgeBarges$Beds" "untiedSedge" "[I", Cond.fieldLink RX1 27 "SedgeBarges$Beds" "untiedReed" "[I", Cond.fieldLink RX1 30 "SedgeBarges$Beds" "tiedSedge" "[I", Cond.fieldLink RX1 33 "SedgeBarges$Beds" "tiedReed" "[I", Cond.fieldLink RX1 36 "SedgeBarges$Beds" "change" "[I", Cond.instanceMethod yX0_init, Cond.code yX0_init cX0_init 1 none, Cond.methodLink RX0 3 objectInit, Cond.fieldLink RX0 9 "SedgeBarges$Barges" "place" "[I", Cond.fieldLink RX0 15 "SedgeBarges$Barges" "goal" "[I", Cond.fieldLink RX0 18 "SedgeBarges$Barges" "sedge" "[I", Cond.fieldLink RX0 21 "SedgeBarges$Barges" "reed" "[I", Cond.fieldLink RX0 24 "SedgeBarges$Barges" "brought" "[I", Cond.instanceMethod yX2_init, Cond.code yX2_init cX2_init 1 none, Cond.methodLink RX2 3 objectInit, Cond.fieldLink RX2 9 "SedgeBarges$Landings" "store" "[I"]
def wsX3_init : List Cond := .code yX3_init cX3_init 1 none :: ((wsX3_init_r1 ++ wsX3_init_r2) ++ wsX30 ++ wsX10 ++ wsX00 ++ wsX20)
def wsX3_copyFrom_r1 : List Cond := [Cond.fieldLink RX3 39 "SedgeBarges$Waterway" "day" "I", Cond.fieldLink RX3 9 "SedgeBarges$Waterway" "coins" "I", Cond.fieldLink RX3 15 "SedgeBarges$Waterway" "ties" "I", Cond.fieldLink RX3 42 "SedgeBarges$Waterway" "rotted" "I", Cond.fieldLink RX3 21 "SedgeBarges$Waterway" "beds" "LSedgeBarges$Beds;", Cond.fieldLink RX3 28 "SedgeBarges$Waterway" "barges" "LSedgeBarges$Barges;", Cond.fieldLink RX3 35 "SedgeBarges$Waterway" "landings" "LSedgeBarges$Landings;", Cond.methodLink RX3 45 yX1_copyFrom, Cond.instanceMethod yX1_copyFrom, Cond.selects RX1 yX1_copyFrom yX1_copyFrom, Cond.initialized RX1, Cond.code yX1_copyFrom cX1_copyFrom 3 none, Cond.fieldLink RX1 39 "SedgeBarges$Beds" "number" "I", Cond.fieldLink RX1 9 "SedgeBarges$Beds" "place" "[I", Cond.fieldLink RX1 15 "SedgeBarges$Beds" "size" "[I", Cond.fieldLink RX1 18 "SedgeBarges$Beds" "age" "[I", Cond.fieldLink RX1 21 "SedgeBarges$Beds" "sedge" "[I", Cond.fieldLink RX1 24 "SedgeBarges$Beds" "untiedSedge" "[I", Cond.fieldLink RX1 27 "SedgeBarges$Beds" "untiedReed" "[I", Cond.fieldLink RX1 30 "SedgeBarges$Beds" "tiedSedge" "[I", Cond.fieldLink RX1 33 "SedgeBarges$Beds" "tiedReed" "[I", Cond.methodLink RX3 49 yX0_copyFrom, Cond.instanceMethod yX0_copyFrom, Cond.selects RX0 yX0_copyFrom yX0_copyFrom]
def wsX3_copyFrom_r2 : List Cond := [Cond.initialized RX0, Cond.code yX0_copyFrom cX0_copyFrom 3 none, Cond.fieldLink RX0 27 "SedgeBarges$Barges" "number" "I", Cond.fieldLink RX0 9 "SedgeBarges$Barges" "place" "[I", Cond.fieldLink RX0 15 "SedgeBarges$Barges" "goal" "[I", Cond.fieldLink RX0 18 "SedgeBarges$Barges" "sedge" "[I", Cond.fieldLink RX0 21 "SedgeBarges$Barges" "reed" "[I", Cond.fieldLink RX0 24 "SedgeBarges$Barges" "brought" "[I", Cond.methodLink RX3 52 yX2_copyFrom, Cond.instanceMethod yX2_copyFrom, Cond.selects RX2 yX2_copyFrom yX2_copyFrom, Cond.initialized RX2, Cond.code yX2_copyFrom cX2_copyFrom 3 none, Cond.fieldLink RX2 9 "SedgeBarges$Landings" "store" "[I"]
def wsX3_copyFrom : List Cond := .code yX3_copyFrom cX3_copyFrom 2 none :: ((wsX3_copyFrom_r1 ++ wsX3_copyFrom_r2) ++ wsX30 ++ wsX10 ++ wsX00 ++ wsX20)
def wsX3_takeAboard : List Cond := .code yX3_takeAboard cX3_takeAboard 6 (some .int) :: ([.fieldLink RX3 28 "SedgeBarges$Waterway" "barges" "LSedgeBarges$Barges;", .fieldLink RX3 21 "SedgeBarges$Waterway" "beds" "LSedgeBarges$Beds;", .methodLink RX3 63 Lib.Math.min.name, .static Lib.Math.min.name, .initialized "java/lang/Math", .code Lib.Math.min.name Lib.Math.min.code 2 (some .int), .methodLink RX3 55 yX0_aboard, .instanceMethod yX0_aboard, .selects RX0 yX0_aboard yX0_aboard, .initialized RX0, .code yX0_aboard cX0_aboard 2 (some .int), .fieldLink RX0 18 "SedgeBarges$Barges" "sedge" "[I", .fieldLink RX0 21 "SedgeBarges$Barges" "reed" "[I"] ++ wsX30 ++ wsX10 ++ wsX00)
def wsX3_sellAll_r1 : List Cond := [Cond.fieldLink RX3 28 "SedgeBarges$Waterway" "barges" "LSedgeBarges$Barges;", Cond.fieldLink RX3 35 "SedgeBarges$Waterway" "landings" "LSedgeBarges$Landings;", Cond.fieldLink RX3 9 "SedgeBarges$Waterway" "coins" "I", Cond.methodLink RX3 55 yX0_aboard, Cond.instanceMethod yX0_aboard, Cond.selects RX0 yX0_aboard yX0_aboard, Cond.initialized RX0, Cond.code yX0_aboard cX0_aboard 2 (some .int), Cond.fieldLink RX0 18 "SedgeBarges$Barges" "sedge" "[I", Cond.fieldLink RX0 21 "SedgeBarges$Barges" "reed" "[I", Cond.methodLink RX3 78 yX2_sedgePrice, Cond.instanceMethod yX2_sedgePrice, Cond.selects RX2 yX2_sedgePrice yX2_sedgePrice, Cond.initialized RX2, Cond.code yX2_sedgePrice cX2_sedgePrice 2 (some .int), Cond.fieldLink RX2 9 "SedgeBarges$Landings" "store" "[I", Cond.methodLink RX2 18 Lib.Math.max.name, Cond.static Lib.Math.max.name, Cond.initialized "java/lang/Math", Cond.code Lib.Math.max.name Lib.Math.max.code 2 (some .int), Cond.methodLink RX3 81 yX2_reedPrice, Cond.instanceMethod yX2_reedPrice, Cond.selects RX2 yX2_reedPrice yX2_reedPrice, Cond.code yX2_reedPrice cX2_reedPrice 2 (some .int)]
def wsX3_sellAll_r2 : List Cond := [Cond.methodLink RX2 24 yX2_sedgePrice]
def wsX3_sellAll : List Cond := .code yX3_sellAll cX3_sellAll 5 (some .int) :: ((wsX3_sellAll_r1 ++ wsX3_sellAll_r2) ++ wsX30 ++ wsX00 ++ wsX20)
def wsX3_passDay_r1 : List Cond := [Cond.fieldLink RX3 28 "SedgeBarges$Waterway" "barges" "LSedgeBarges$Barges;", Cond.fieldLink RX3 42 "SedgeBarges$Waterway" "rotted" "I", Cond.fieldLink RX3 21 "SedgeBarges$Waterway" "beds" "LSedgeBarges$Beds;", Cond.fieldLink RX3 35 "SedgeBarges$Waterway" "landings" "LSedgeBarges$Landings;", Cond.fieldLink RX3 39 "SedgeBarges$Waterway" "day" "I", Cond.methodLink RX3 93 yX0_sailOn, Cond.instanceMethod yX0_sailOn, Cond.selects RX0 yX0_sailOn yX0_sailOn, Cond.initialized RX0, Cond.code yX0_sailOn cX0_sailOn 3 none, Cond.fieldLink RX0 27 "SedgeBarges$Barges" "number" "I", Cond.fieldLink RX0 15 "SedgeBarges$Barges" "goal" "[I", Cond.fieldLink RX0 9 "SedgeBarges$Barges" "place" "[I", Cond.methodLink RX0 37 Lib.Math.min.name, Cond.static Lib.Math.min.name, Cond.initialized "java/lang/Math", Cond.code Lib.Math.min.name Lib.Math.min.code 2 (some .int), Cond.methodLink RX0 41 Lib.Math.max.name, Cond.static Lib.Math.max.name, Cond.code Lib.Math.max.name Lib.Math.max.code 2 (some .int), Cond.methodLink RX3 96 yX1_rot, Cond.instanceMethod yX1_rot, Cond.selects RX1 yX1_rot yX1_rot, Cond.initialized RX1]
def wsX3_passDay_r2 : List Cond := [Cond.code yX1_rot cX1_rot 5 (some .int), Cond.fieldLink RX1 39 "SedgeBarges$Beds" "number" "I", Cond.fieldLink RX1 24 "SedgeBarges$Beds" "untiedSedge" "[I", Cond.fieldLink RX1 27 "SedgeBarges$Beds" "untiedReed" "[I", Cond.static yX4_tenthRoundedUp, Cond.initialized RX4, Cond.code yX4_tenthRoundedUp cX4_tenthRoundedUp 1 (some .int), Cond.methodLink RX3 100 yX2_thatch, Cond.instanceMethod yX2_thatch, Cond.selects RX2 yX2_thatch yX2_thatch, Cond.initialized RX2, Cond.code yX2_thatch cX2_thatch 2 none, Cond.fieldLink RX2 9 "SedgeBarges$Landings" "store" "[I", Cond.static yX4_twentiethRoundedUp, Cond.code yX4_twentiethRoundedUp cX4_twentiethRoundedUp 1 (some .int), Cond.methodLink RX3 103 yX1_endYear, Cond.instanceMethod yX1_endYear, Cond.selects RX1 yX1_endYear yX1_endYear, Cond.code yX1_endYear cX1_endYear 2 none, Cond.fieldLink RX1 36 "SedgeBarges$Beds" "change" "[I", Cond.fieldLink RX1 18 "SedgeBarges$Beds" "age" "[I", Cond.fieldLink RX1 21 "SedgeBarges$Beds" "sedge" "[I", Cond.methodLink RX1 53 Lib.Math.min.name, Cond.methodLink RX1 69 Lib.Math.max.name]
def wsX3_passDay_r3 : List Cond := [Cond.methodLink RX1 62 yX1_changeByAge, Cond.static yX1_changeByAge, Cond.code yX1_changeByAge cX1_changeByAge 1 (some .int), Cond.methodLink RX1 65 yX1_isCreptInto, Cond.instanceMethod yX1_isCreptInto, Cond.selects RX1 yX1_isCreptInto yX1_isCreptInto, Cond.code yX1_isCreptInto cX1_isCreptInto 3 (some .boolean), Cond.fieldLink RX1 9 "SedgeBarges$Beds" "place" "[I", Cond.methodLink RX1 72 Lib.Math.abs.name, Cond.static Lib.Math.abs.name, Cond.code Lib.Math.abs.name Lib.Math.abs.code 1 (some .int)]
def wsX3_passDay : List Cond := .code yX3_passDay cX3_passDay 1 none :: ((wsX3_passDay_r1 ++ (wsX3_passDay_r2 ++ wsX3_passDay_r3)) ++ wsX30 ++ wsX00 ++ wsX10 ++ wsX20)
def wsX3_passDays_r1 : List Cond := [Cond.fieldLink RX3 42 "SedgeBarges$Waterway" "rotted" "I", Cond.methodLink RX3 90 yX3_passDay, Cond.instanceMethod yX3_passDay, Cond.selects RX3 yX3_passDay yX3_passDay, Cond.initialized RX3, Cond.code yX3_passDay cX3_passDay 1 none, Cond.fieldLink RX3 28 "SedgeBarges$Waterway" "barges" "LSedgeBarges$Barges;", Cond.fieldLink RX3 21 "SedgeBarges$Waterway" "beds" "LSedgeBarges$Beds;", Cond.fieldLink RX3 35 "SedgeBarges$Waterway" "landings" "LSedgeBarges$Landings;", Cond.fieldLink RX3 39 "SedgeBarges$Waterway" "day" "I", Cond.methodLink RX3 93 yX0_sailOn, Cond.instanceMethod yX0_sailOn, Cond.selects RX0 yX0_sailOn yX0_sailOn, Cond.initialized RX0, Cond.code yX0_sailOn cX0_sailOn 3 none, Cond.fieldLink RX0 27 "SedgeBarges$Barges" "number" "I", Cond.fieldLink RX0 15 "SedgeBarges$Barges" "goal" "[I", Cond.fieldLink RX0 9 "SedgeBarges$Barges" "place" "[I", Cond.methodLink RX0 37 Lib.Math.min.name, Cond.static Lib.Math.min.name, Cond.initialized "java/lang/Math", Cond.code Lib.Math.min.name Lib.Math.min.code 2 (some .int), Cond.methodLink RX0 41 Lib.Math.max.name, Cond.static Lib.Math.max.name]
def wsX3_passDays_r2 : List Cond := [Cond.code Lib.Math.max.name Lib.Math.max.code 2 (some .int), Cond.methodLink RX3 96 yX1_rot, Cond.instanceMethod yX1_rot, Cond.selects RX1 yX1_rot yX1_rot, Cond.initialized RX1, Cond.code yX1_rot cX1_rot 5 (some .int), Cond.fieldLink RX1 39 "SedgeBarges$Beds" "number" "I", Cond.fieldLink RX1 24 "SedgeBarges$Beds" "untiedSedge" "[I", Cond.fieldLink RX1 27 "SedgeBarges$Beds" "untiedReed" "[I", Cond.static yX4_tenthRoundedUp, Cond.initialized RX4, Cond.code yX4_tenthRoundedUp cX4_tenthRoundedUp 1 (some .int), Cond.methodLink RX3 100 yX2_thatch, Cond.instanceMethod yX2_thatch, Cond.selects RX2 yX2_thatch yX2_thatch, Cond.initialized RX2, Cond.code yX2_thatch cX2_thatch 2 none, Cond.fieldLink RX2 9 "SedgeBarges$Landings" "store" "[I", Cond.static yX4_twentiethRoundedUp, Cond.code yX4_twentiethRoundedUp cX4_twentiethRoundedUp 1 (some .int), Cond.methodLink RX3 103 yX1_endYear, Cond.instanceMethod yX1_endYear, Cond.selects RX1 yX1_endYear yX1_endYear, Cond.code yX1_endYear cX1_endYear 2 none]
def wsX3_passDays_r3 : List Cond := [Cond.fieldLink RX1 36 "SedgeBarges$Beds" "change" "[I", Cond.fieldLink RX1 18 "SedgeBarges$Beds" "age" "[I", Cond.fieldLink RX1 21 "SedgeBarges$Beds" "sedge" "[I", Cond.methodLink RX1 53 Lib.Math.min.name, Cond.methodLink RX1 69 Lib.Math.max.name, Cond.methodLink RX1 62 yX1_changeByAge, Cond.static yX1_changeByAge, Cond.code yX1_changeByAge cX1_changeByAge 1 (some .int), Cond.methodLink RX1 65 yX1_isCreptInto, Cond.instanceMethod yX1_isCreptInto, Cond.selects RX1 yX1_isCreptInto yX1_isCreptInto, Cond.code yX1_isCreptInto cX1_isCreptInto 3 (some .boolean), Cond.fieldLink RX1 9 "SedgeBarges$Beds" "place" "[I", Cond.methodLink RX1 72 Lib.Math.abs.name, Cond.static Lib.Math.abs.name, Cond.code Lib.Math.abs.name Lib.Math.abs.code 1 (some .int)]
def wsX3_passDays : List Cond := .code yX3_passDays cX3_passDays 4 (some .int) :: ((wsX3_passDays_r1 ++ (wsX3_passDays_r2 ++ wsX3_passDays_r3)) ++ wsX30 ++ wsX00 ++ wsX10 ++ wsX20)
def wsX3_tell_r1 : List Cond := [Cond.fieldLink RX3 39 "SedgeBarges$Waterway" "day" "I", Cond.fieldLink RX3 9 "SedgeBarges$Waterway" "coins" "I", Cond.fieldLink RX3 15 "SedgeBarges$Waterway" "ties" "I", Cond.fieldLink RX3 21 "SedgeBarges$Waterway" "beds" "LSedgeBarges$Beds;", Cond.fieldLink RX3 28 "SedgeBarges$Waterway" "barges" "LSedgeBarges$Barges;", Cond.fieldLink RX3 35 "SedgeBarges$Waterway" "landings" "LSedgeBarges$Landings;", Cond.fieldLink RX3 42 "SedgeBarges$Waterway" "rotted" "I", Cond.methodLink RX3 109 yX1_givenByAll, Cond.instanceMethod yX1_givenByAll, Cond.selects RX1 yX1_givenByAll yX1_givenByAll, Cond.initialized RX1, Cond.code yX1_givenByAll cX1_givenByAll 3 (some .int), Cond.fieldLink RX1 39 "SedgeBarges$Beds" "number" "I", Cond.methodLink RX1 46 yX1_given, Cond.instanceMethod yX1_given, Cond.selects RX1 yX1_given yX1_given, Cond.code yX1_given cX1_given 4 (some .int), Cond.fieldLink RX1 18 "SedgeBarges$Beds" "age" "[I", Cond.fieldLink RX1 15 "SedgeBarges$Beds" "size" "[I", Cond.methodLink RX3 112 yX1_untiedOfAll, Cond.instanceMethod yX1_untiedOfAll, Cond.selects RX1 yX1_untiedOfAll yX1_untiedOfAll, Cond.code yX1_untiedOfAll cX1_untiedOfAll 3 (some .int), Cond.fieldLink RX1 24 "SedgeBarges$Beds" "untiedSedge" "[I"]
def wsX3_tell_r2 : List Cond := [Cond.fieldLink RX1 27 "SedgeBarges$Beds" "untiedReed" "[I", Cond.methodLink RX3 115 yX1_tiedOfAll, Cond.instanceMethod yX1_tiedOfAll, Cond.selects RX1 yX1_tiedOfAll yX1_tiedOfAll, Cond.code yX1_tiedOfAll cX1_tiedOfAll 3 (some .int), Cond.fieldLink RX1 30 "SedgeBarges$Beds" "tiedSedge" "[I", Cond.fieldLink RX1 33 "SedgeBarges$Beds" "tiedReed" "[I", Cond.methodLink RX3 119 yX0_aboardAll, Cond.instanceMethod yX0_aboardAll, Cond.selects RX0 yX0_aboardAll yX0_aboardAll, Cond.initialized RX0, Cond.code yX0_aboardAll cX0_aboardAll 3 (some .int), Cond.fieldLink RX0 27 "SedgeBarges$Barges" "number" "I", Cond.methodLink RX0 47 yX0_aboard, Cond.instanceMethod yX0_aboard, Cond.selects RX0 yX0_aboard yX0_aboard, Cond.code yX0_aboard cX0_aboard 2 (some .int), Cond.fieldLink RX0 18 "SedgeBarges$Barges" "sedge" "[I", Cond.fieldLink RX0 21 "SedgeBarges$Barges" "reed" "[I", Cond.methodLink RX3 122 yX2_storeOfAll, Cond.instanceMethod yX2_storeOfAll, Cond.selects RX2 yX2_storeOfAll yX2_storeOfAll, Cond.initialized RX2, Cond.code yX2_storeOfAll cX2_storeOfAll 3 (some .int)]
def wsX3_tell_r3 : List Cond := [Cond.fieldLink RX2 9 "SedgeBarges$Landings" "store" "[I"]
def wsX3_tell : List Cond := .code yX3_tell cX3_tell 2 (some .int) :: ((wsX3_tell_r1 ++ (wsX3_tell_r2 ++ wsX3_tell_r3)) ++ wsX30 ++ wsX10 ++ wsX00 ++ wsX20)
def wsX4_init_r1 : List Cond := [Cond.methodLink RX4 1 objectInit, Cond.instanceMethod objectInit, Cond.code objectInit ⟨#[0xb1]⟩ 1 none, Cond.classLink RX4 7 RX3, Cond.instantiable RX3 7, Cond.initialized RX3, Cond.fieldLink RX4 10 "SedgeBarges" "now" "LSedgeBarges$Waterway;", Cond.fieldLink RX4 16 "SedgeBarges" "ahead" "LSedgeBarges$Waterway;", Cond.instanceMethod yX3_init, Cond.code yX3_init cX3_init 1 none, Cond.methodLink RX3 3 objectInit, Cond.fieldLink RX3 9 "SedgeBarges$Waterway" "coins" "I", Cond.fieldLink RX3 15 "SedgeBarges$Waterway" "ties" "I", Cond.classLink RX3 18 RX1, Cond.instantiable RX1 10, Cond.initialized RX1, Cond.fieldLink RX3 21 "SedgeBarges$Waterway" "beds" "LSedgeBarges$Beds;", Cond.classLink RX3 25 RX0, Cond.instantiable RX0 6, Cond.initialized RX0, Cond.fieldLink RX3 28 "SedgeBarges$Waterway" "barges" "LSedgeBarges$Barges;", Cond.classLink RX3 32 RX2, Cond.instantiable RX2 1, Cond.initialized RX2]
def wsX4_init_r2 : List Cond := [Cond.fieldLink RX3 35 "SedgeBarges$Waterway" "landings" "LSedgeBarges$Landings;", Cond.instanceMethod yX1_init, Cond.code yX1_init cX1_init 1 none, Cond.methodLink RX1 3 objectInit, Cond.arrayClass .int, Cond.fieldLink RX1 9 "SedgeBarges$Beds" "place" "[I", Cond.fieldLink RX1 15 "SedgeBarges$Beds" "size" "[I", Cond.fieldLink RX1 18 "SedgeBarges$Beds" "age" "[I", Cond.fieldLink RX1 21 "SedgeBarges$Beds" "sedge" "[I", Cond.fieldLink RX1 24 "SedgeBarges$Beds" "untiedSedge" "[I", Cond.fieldLink RX1 27 "SedgeBarges$Beds" "untiedReed" "[I", Cond.fieldLink RX1 30 "SedgeBarges$Beds" "tiedSedge" "[I", Cond.fieldLink RX1 33 "SedgeBarges$Beds" "tiedReed" "[I", Cond.fieldLink RX1 36 "SedgeBarges$Beds" "change" "[I", Cond.instanceMethod yX0_init, Cond.code yX0_init cX0_init 1 none, Cond.methodLink RX0 3 objectInit, Cond.fieldLink RX0 9 "SedgeBarges$Barges" "place" "[I", Cond.fieldLink RX0 15 "SedgeBarges$Barges" "goal" "[I", Cond.fieldLink RX0 18 "SedgeBarges$Barges" "sedge" "[I", Cond.fieldLink RX0 21 "SedgeBarges$Barges" "reed" "[I", Cond.fieldLink RX0 24 "SedgeBarges$Barges" "brought" "[I", Cond.instanceMethod yX2_init, Cond.code yX2_init cX2_init 1 none]
def wsX4_init_r3 : List Cond := [Cond.methodLink RX2 3 objectInit, Cond.fieldLink RX2 9 "SedgeBarges$Landings" "store" "[I"]
def wsX4_init : List Cond := .code yX4_init cX4_init 1 none :: ((wsX4_init_r1 ++ (wsX4_init_r2 ++ wsX4_init_r3)) ++ wsX30 ++ wsX40 ++ wsX10 ++ wsX00 ++ wsX20)
def wsX4_needPlace : List Cond := .code yX4_needPlace cX4_needPlace 1 none :: ([.classLink RX4 161 "java/lang/IndexOutOfBoundsException", .initialized "java/lang/IndexOutOfBoundsException"] ++ (vx_atS RX4 165 "java/lang/IndexOutOfBoundsException" ["java/lang/RuntimeException", "java/lang/Exception"]).filter goodWord)
def wsX4_bed_r1 : List Cond := [Cond.classLink RX4 23 "java/lang/IllegalArgumentException", Cond.initialized "java/lang/IllegalArgumentException", Cond.classLink RX4 42 "java/lang/IllegalStateException", Cond.initialized "java/lang/IllegalStateException", Cond.fieldLink RX4 10 "SedgeBarges" "now" "LSedgeBarges$Waterway;", Cond.methodLink RX4 19 yX4_needPlace, Cond.static yX4_needPlace, Cond.initialized RX4, Cond.code yX4_needPlace cX4_needPlace 1 none, Cond.classLink RX4 161 "java/lang/IndexOutOfBoundsException", Cond.initialized "java/lang/IndexOutOfBoundsException", Cond.methodLink RX4 36 yX1_areFull, Cond.instanceMethod yX1_areFull, Cond.selects RX1 yX1_areFull yX1_areFull, Cond.initialized RX1, Cond.code yX1_areFull cX1_areFull 1 (some .boolean), Cond.fieldLink RX1 39 "SedgeBarges$Beds" "number" "I", Cond.methodLink RX4 47 yX1_add, Cond.instanceMethod yX1_add, Cond.selects RX1 yX1_add yX1_add, Cond.code yX1_add cX1_add 5 (some .int), Cond.fieldLink RX1 9 "SedgeBarges$Beds" "place" "[I", Cond.fieldLink RX1 15 "SedgeBarges$Beds" "size" "[I", Cond.fieldLink RX1 18 "SedgeBarges$Beds" "age" "[I"]
def wsX4_bed_r2 : List Cond := [Cond.fieldLink RX1 21 "SedgeBarges$Beds" "sedge" "[I"]
def wsX4_bed : List Cond := .code yX4_bed cX4_bed 4 (some .int) :: ((wsX4_bed_r1 ++ wsX4_bed_r2) ++ wsX40 ++ wsX30 ++ wsX10 ++ (vx_atS RX4 27 "java/lang/IllegalArgumentException" ["java/lang/RuntimeException", "java/lang/Exception"]).filter goodWord ++ (vx_atS RX4 46 "java/lang/IllegalStateException" ["java/lang/RuntimeException", "java/lang/Exception"]).filter goodWord ++ (vx_atS RX4 165 "java/lang/IndexOutOfBoundsException" ["java/lang/RuntimeException", "java/lang/Exception"]).filter goodWord)
def wsX4_needBed : List Cond := .code yX4_needBed cX4_needBed 2 none :: ([.classLink RX4 161 "java/lang/IndexOutOfBoundsException", .initialized "java/lang/IndexOutOfBoundsException", .fieldLink RX4 10 "SedgeBarges" "now" "LSedgeBarges$Waterway;"] ++ wsX40 ++ wsX30 ++ wsX10 ++ (vx_atS RX4 165 "java/lang/IndexOutOfBoundsException" ["java/lang/RuntimeException", "java/lang/Exception"]).filter goodWord)
def wsX4_cut_r1 : List Cond := [Cond.classLink RX4 42 "java/lang/IllegalStateException", Cond.initialized "java/lang/IllegalStateException", Cond.fieldLink RX4 10 "SedgeBarges" "now" "LSedgeBarges$Waterway;", Cond.methodLink RX4 51 yX4_needBed, Cond.instanceMethod yX4_needBed, Cond.selects RX4 yX4_needBed yX4_needBed, Cond.initialized RX4, Cond.code yX4_needBed cX4_needBed 2 none, Cond.classLink RX4 161 "java/lang/IndexOutOfBoundsException", Cond.initialized "java/lang/IndexOutOfBoundsException", Cond.methodLink RX4 60 yX1_cutDown, Cond.instanceMethod yX1_cutDown, Cond.selects RX1 yX1_cutDown yX1_cutDown, Cond.initialized RX1, Cond.code yX1_cutDown cX1_cutDown 4 (some .int), Cond.fieldLink RX1 24 "SedgeBarges$Beds" "untiedSedge" "[I", Cond.fieldLink RX1 27 "SedgeBarges$Beds" "untiedReed" "[I", Cond.fieldLink RX1 18 "SedgeBarges$Beds" "age" "[I", Cond.methodLink RX1 46 yX1_given, Cond.instanceMethod yX1_given, Cond.selects RX1 yX1_given yX1_given, Cond.code yX1_given cX1_given 4 (some .int), Cond.fieldLink RX1 15 "SedgeBarges$Beds" "size" "[I", Cond.methodLink RX1 50 yX1_sedgeGiven]
def wsX4_cut_r2 : List Cond := [Cond.instanceMethod yX1_sedgeGiven, Cond.selects RX1 yX1_sedgeGiven yX1_sedgeGiven, Cond.code yX1_sedgeGiven cX1_sedgeGiven 2 (some .int), Cond.fieldLink RX1 21 "SedgeBarges$Beds" "sedge" "[I"]
def wsX4_cut : List Cond := .code yX4_cut cX4_cut 2 (some .int) :: ((wsX4_cut_r1 ++ wsX4_cut_r2) ++ wsX40 ++ wsX30 ++ wsX10 ++ (vx_atS RX4 46 "java/lang/IllegalStateException" ["java/lang/RuntimeException", "java/lang/Exception"]).filter goodWord ++ (vx_atS RX4 165 "java/lang/IndexOutOfBoundsException" ["java/lang/RuntimeException", "java/lang/Exception"]).filter goodWord)
def wsX4_tie : List Cond := .code yX4_tie cX4_tie 3 (some .int) :: ([.fieldLink RX4 10 "SedgeBarges" "now" "LSedgeBarges$Waterway;", .methodLink RX4 51 yX4_needBed, .instanceMethod yX4_needBed, .selects RX4 yX4_needBed yX4_needBed, .initialized RX4, .code yX4_needBed cX4_needBed 2 none, .classLink RX4 161 "java/lang/IndexOutOfBoundsException", .initialized "java/lang/IndexOutOfBoundsException", .methodLink RX4 68 yX1_tieUp, .instanceMethod yX1_tieUp, .selects RX1 yX1_tieUp yX1_tieUp, .initialized RX1, .code yX1_tieUp cX1_tieUp 5 (some .int), .fieldLink RX1 24 "SedgeBarges$Beds" "untiedSedge" "[I", .methodLink RX1 53 Lib.Math.min.name, .static Lib.Math.min.name, .initialized "java/lang/Math", .code Lib.Math.min.name Lib.Math.min.code 2 (some .int), .fieldLink RX1 27 "SedgeBarges$Beds" "untiedReed" "[I", .fieldLink RX1 30 "SedgeBarges$Beds" "tiedSedge" "[I", .fieldLink RX1 33 "SedgeBarges$Beds" "tiedReed" "[I"] ++ wsX40 ++ wsX30 ++ wsX10 ++ (vx_atS RX4 165 "java/lang/IndexOutOfBoundsException" ["java/lang/RuntimeException", "java/lang/Exception"]).filter goodWord)
def wsX4_buy : List Cond := .code yX4_buy cX4_buy 3 (some .int) :: ([.classLink RX4 23 "java/lang/IllegalArgumentException", .initialized "java/lang/IllegalArgumentException", .classLink RX4 42 "java/lang/IllegalStateException", .initialized "java/lang/IllegalStateException", .fieldLink RX4 10 "SedgeBarges" "now" "LSedgeBarges$Waterway;", .methodLink RX4 74 yX4_tenthRoundedUp, .static yX4_tenthRoundedUp, .initialized RX4, .code yX4_tenthRoundedUp cX4_tenthRoundedUp 1 (some .int)] ++ wsX40 ++ wsX30 ++ (vx_atS RX4 27 "java/lang/IllegalArgumentException" ["java/lang/RuntimeException", "java/lang/Exception"]).filter goodWord ++ (vx_atS RX4 46 "java/lang/IllegalStateException" ["java/lang/RuntimeException", "java/lang/Exception"]).filter goodWord)
def wsX4_needFigure : List Cond := .code yX4_needFigure cX4_needFigure 2 none :: ([.classLink RX4 161 "java/lang/IndexOutOfBoundsException", .initialized "java/lang/IndexOutOfBoundsException"] ++ (vx_atS RX4 165 "java/lang/IndexOutOfBoundsException" ["java/lang/RuntimeException", "java/lang/Exception"]).filter goodWord)
def wsX4_about_r1 : List Cond := [Cond.fieldLink RX4 10 "SedgeBarges" "now" "LSedgeBarges$Waterway;", Cond.methodLink RX4 51 yX4_needBed, Cond.instanceMethod yX4_needBed, Cond.selects RX4 yX4_needBed yX4_needBed, Cond.initialized RX4, Cond.code yX4_needBed cX4_needBed 2 none, Cond.classLink RX4 161 "java/lang/IndexOutOfBoundsException", Cond.initialized "java/lang/IndexOutOfBoundsException", Cond.methodLink RX4 82 yX4_needFigure, Cond.static yX4_needFigure, Cond.code yX4_needFigure cX4_needFigure 2 none, Cond.methodLink RX4 86 yX1_tell, Cond.instanceMethod yX1_tell, Cond.selects RX1 yX1_tell yX1_tell, Cond.initialized RX1, Cond.code yX1_tell cX1_tell 3 (some .int), Cond.fieldLink RX1 9 "SedgeBarges$Beds" "place" "[I", Cond.fieldLink RX1 15 "SedgeBarges$Beds" "size" "[I", Cond.fieldLink RX1 18 "SedgeBarges$Beds" "age" "[I", Cond.fieldLink RX1 21 "SedgeBarges$Beds" "sedge" "[I", Cond.fieldLink RX1 24 "SedgeBarges$Beds" "untiedSedge" "[I", Cond.fieldLink RX1 27 "SedgeBarges$Beds" "untiedReed" "[I", Cond.fieldLink RX1 30 "SedgeBarges$Beds" "tiedSedge" "[I", Cond.fieldLink RX1 33 "SedgeBarges$Beds" "tiedReed" "[I"]
def wsX4_about_r2 : List Cond := [Cond.methodLink RX1 46 yX1_given, Cond.instanceMethod yX1_given, Cond.selects RX1 yX1_given yX1_given, Cond.code yX1_given cX1_given 4 (some .int), Cond.methodLink RX1 50 yX1_sedgeGiven, Cond.instanceMethod yX1_sedgeGiven, Cond.selects RX1 yX1_sedgeGiven yX1_sedgeGiven, Cond.code yX1_sedgeGiven cX1_sedgeGiven 2 (some .int)]
def wsX4_about : List Cond := .code yX4_about cX4_about 3 (some .int) :: ((wsX4_about_r1 ++ wsX4_about_r2) ++ wsX40 ++ wsX30 ++ wsX10 ++ (vx_atS RX4 165 "java/lang/IndexOutOfBoundsException" ["java/lang/RuntimeException", "java/lang/Exception"]).filter goodWord)
def wsX4_best_r1 : List Cond := [Cond.fieldLink RX4 16 "SedgeBarges" "ahead" "LSedgeBarges$Waterway;", Cond.fieldLink RX4 10 "SedgeBarges" "now" "LSedgeBarges$Waterway;", Cond.methodLink RX4 51 yX4_needBed, Cond.instanceMethod yX4_needBed, Cond.selects RX4 yX4_needBed yX4_needBed, Cond.initialized RX4, Cond.code yX4_needBed cX4_needBed 2 none, Cond.classLink RX4 161 "java/lang/IndexOutOfBoundsException", Cond.initialized "java/lang/IndexOutOfBoundsException", Cond.methodLink RX4 89 yX1_copyFrom, Cond.instanceMethod yX1_copyFrom, Cond.selects RX1 yX1_copyFrom yX1_copyFrom, Cond.initialized RX1, Cond.code yX1_copyFrom cX1_copyFrom 3 none, Cond.fieldLink RX1 39 "SedgeBarges$Beds" "number" "I", Cond.fieldLink RX1 9 "SedgeBarges$Beds" "place" "[I", Cond.fieldLink RX1 15 "SedgeBarges$Beds" "size" "[I", Cond.fieldLink RX1 18 "SedgeBarges$Beds" "age" "[I", Cond.fieldLink RX1 21 "SedgeBarges$Beds" "sedge" "[I", Cond.fieldLink RX1 24 "SedgeBarges$Beds" "untiedSedge" "[I", Cond.fieldLink RX1 27 "SedgeBarges$Beds" "untiedReed" "[I", Cond.fieldLink RX1 30 "SedgeBarges$Beds" "tiedSedge" "[I", Cond.fieldLink RX1 33 "SedgeBarges$Beds" "tiedReed" "[I", Cond.methodLink RX4 93 yX1_sedgeGiven]
def wsX4_best_r2 : List Cond := [Cond.instanceMethod yX1_sedgeGiven, Cond.selects RX1 yX1_sedgeGiven yX1_sedgeGiven, Cond.code yX1_sedgeGiven cX1_sedgeGiven 2 (some .int), Cond.methodLink RX1 46 yX1_given, Cond.instanceMethod yX1_given, Cond.selects RX1 yX1_given yX1_given, Cond.code yX1_given cX1_given 4 (some .int), Cond.methodLink RX4 96 yX1_endYear, Cond.instanceMethod yX1_endYear, Cond.selects RX1 yX1_endYear yX1_endYear, Cond.code yX1_endYear cX1_endYear 2 none, Cond.fieldLink RX1 36 "SedgeBarges$Beds" "change" "[I", Cond.methodLink RX1 53 Lib.Math.min.name, Cond.static Lib.Math.min.name, Cond.initialized "java/lang/Math", Cond.code Lib.Math.min.name Lib.Math.min.code 2 (some .int), Cond.methodLink RX1 69 Lib.Math.max.name, Cond.static Lib.Math.max.name, Cond.code Lib.Math.max.name Lib.Math.max.code 2 (some .int), Cond.methodLink RX1 62 yX1_changeByAge, Cond.static yX1_changeByAge, Cond.code yX1_changeByAge cX1_changeByAge 1 (some .int), Cond.methodLink RX1 65 yX1_isCreptInto, Cond.instanceMethod yX1_isCreptInto]
def wsX4_best_r3 : List Cond := [Cond.selects RX1 yX1_isCreptInto yX1_isCreptInto, Cond.code yX1_isCreptInto cX1_isCreptInto 3 (some .boolean), Cond.methodLink RX1 72 Lib.Math.abs.name, Cond.static Lib.Math.abs.name, Cond.code Lib.Math.abs.name Lib.Math.abs.code 1 (some .int)]
def wsX4_best : List Cond := .code yX4_best cX4_best 6 (some .int) :: ((wsX4_best_r1 ++ (wsX4_best_r2 ++ wsX4_best_r3)) ++ wsX40 ++ wsX30 ++ wsX10 ++ (vx_atS RX4 165 "java/lang/IndexOutOfBoundsException" ["java/lang/RuntimeException", "java/lang/Exception"]).filter goodWord)
def wsX4_barge : List Cond := .code yX4_barge cX4_barge 2 (some .int) :: ([.classLink RX4 42 "java/lang/IllegalStateException", .initialized "java/lang/IllegalStateException", .fieldLink RX4 10 "SedgeBarges" "now" "LSedgeBarges$Waterway;", .methodLink RX4 19 yX4_needPlace, .static yX4_needPlace, .initialized RX4, .code yX4_needPlace cX4_needPlace 1 none, .classLink RX4 161 "java/lang/IndexOutOfBoundsException", .initialized "java/lang/IndexOutOfBoundsException", .methodLink RX4 103 yX0_areFull, .instanceMethod yX0_areFull, .selects RX0 yX0_areFull yX0_areFull, .initialized RX0, .code yX0_areFull cX0_areFull 1 (some .boolean), .fieldLink RX0 27 "SedgeBarges$Barges" "number" "I", .methodLink RX4 108 yX0_add, .instanceMethod yX0_add, .selects RX0 yX0_add yX0_add, .code yX0_add cX0_add 3 (some .int), .fieldLink RX0 9 "SedgeBarges$Barges" "place" "[I", .fieldLink RX0 15 "SedgeBarges$Barges" "goal" "[I"] ++ wsX40 ++ wsX30 ++ wsX00 ++ (vx_atS RX4 46 "java/lang/IllegalStateException" ["java/lang/RuntimeException", "java/lang/Exception"]).filter goodWord ++ (vx_atS RX4 165 "java/lang/IndexOutOfBoundsException" ["java/lang/RuntimeException", "java/lang/Exception"]).filter goodWord)
def wsX4_needBarge : List Cond := .code yX4_needBarge cX4_needBarge 2 none :: ([.classLink RX4 161 "java/lang/IndexOutOfBoundsException", .initialized "java/lang/IndexOutOfBoundsException", .fieldLink RX4 10 "SedgeBarges" "now" "LSedgeBarges$Waterway;"] ++ wsX40 ++ wsX30 ++ wsX00 ++ (vx_atS RX4 165 "java/lang/IndexOutOfBoundsException" ["java/lang/RuntimeException", "java/lang/Exception"]).filter goodWord)
def wsX4_sail : List Cond := .code yX4_sail cX4_sail 3 (some .int) :: ([.fieldLink RX4 10 "SedgeBarges" "now" "LSedgeBarges$Waterway;", .methodLink RX4 110 yX4_needBarge, .instanceMethod yX4_needBarge, .selects RX4 yX4_needBarge yX4_needBarge, .initialized RX4, .code yX4_needBarge cX4_needBarge 2 none, .classLink RX4 161 "java/lang/IndexOutOfBoundsException", .initialized "java/lang/IndexOutOfBoundsException", .methodLink RX4 19 yX4_needPlace, .static yX4_needPlace, .code yX4_needPlace cX4_needPlace 1 none, .methodLink RX4 113 yX0_send, .instanceMethod yX0_send, .selects RX0 yX0_send yX0_send, .initialized RX0, .code yX0_send cX0_send 4 (some .int), .fieldLink RX0 9 "SedgeBarges$Barges" "place" "[I", .methodLink RX0 31 Lib.Math.abs.name, .static Lib.Math.abs.name, .initialized "java/lang/Math", .code Lib.Math.abs.name Lib.Math.abs.code 1 (some .int), .fieldLink RX0 15 "SedgeBarges$Barges" "goal" "[I"] ++ wsX40 ++ wsX30 ++ wsX00 ++ (vx_atS RX4 165 "java/lang/IndexOutOfBoundsException" ["java/lang/RuntimeException", "java/lang/Exception"]).filter goodWord)
def wsX4_load_r1 : List Cond := [Cond.classLink RX4 42 "java/lang/IllegalStateException", Cond.initialized "java/lang/IllegalStateException", Cond.fieldLink RX4 10 "SedgeBarges" "now" "LSedgeBarges$Waterway;", Cond.methodLink RX4 110 yX4_needBarge, Cond.instanceMethod yX4_needBarge, Cond.selects RX4 yX4_needBarge yX4_needBarge, Cond.initialized RX4, Cond.code yX4_needBarge cX4_needBarge 2 none, Cond.classLink RX4 161 "java/lang/IndexOutOfBoundsException", Cond.initialized "java/lang/IndexOutOfBoundsException", Cond.methodLink RX4 51 yX4_needBed, Cond.instanceMethod yX4_needBed, Cond.selects RX4 yX4_needBed yX4_needBed, Cond.code yX4_needBed cX4_needBed 2 none, Cond.methodLink RX4 122 yX3_takeAboard, Cond.instanceMethod yX3_takeAboard, Cond.selects RX3 yX3_takeAboard yX3_takeAboard, Cond.initialized RX3, Cond.code yX3_takeAboard cX3_takeAboard 6 (some .int), Cond.fieldLink RX3 28 "SedgeBarges$Waterway" "barges" "LSedgeBarges$Barges;", Cond.fieldLink RX3 21 "SedgeBarges$Waterway" "beds" "LSedgeBarges$Beds;", Cond.methodLink RX3 63 Lib.Math.min.name, Cond.static Lib.Math.min.name, Cond.initialized "java/lang/Math"]
def wsX4_load_r2 : List Cond := [Cond.code Lib.Math.min.name Lib.Math.min.code 2 (some .int), Cond.methodLink RX3 55 yX0_aboard, Cond.instanceMethod yX0_aboard, Cond.selects RX0 yX0_aboard yX0_aboard, Cond.initialized RX0, Cond.code yX0_aboard cX0_aboard 2 (some .int), Cond.fieldLink RX0 18 "SedgeBarges$Barges" "sedge" "[I", Cond.fieldLink RX0 21 "SedgeBarges$Barges" "reed" "[I"]
def wsX4_load : List Cond := .code yX4_load cX4_load 3 (some .int) :: ((wsX4_load_r1 ++ wsX4_load_r2) ++ wsX40 ++ wsX30 ++ wsX00 ++ wsX10 ++ (vx_atS RX4 46 "java/lang/IllegalStateException" ["java/lang/RuntimeException", "java/lang/Exception"]).filter goodWord ++ (vx_atS RX4 165 "java/lang/IndexOutOfBoundsException" ["java/lang/RuntimeException", "java/lang/Exception"]).filter goodWord)
def wsX4_sell_r1 : List Cond := [Cond.classLink RX4 42 "java/lang/IllegalStateException", Cond.initialized "java/lang/IllegalStateException", Cond.fieldLink RX4 10 "SedgeBarges" "now" "LSedgeBarges$Waterway;", Cond.methodLink RX4 110 yX4_needBarge, Cond.instanceMethod yX4_needBarge, Cond.selects RX4 yX4_needBarge yX4_needBarge, Cond.initialized RX4, Cond.code yX4_needBarge cX4_needBarge 2 none, Cond.classLink RX4 161 "java/lang/IndexOutOfBoundsException", Cond.initialized "java/lang/IndexOutOfBoundsException", Cond.methodLink RX4 125 yX4_landingAt, Cond.static yX4_landingAt, Cond.code yX4_landingAt cX4_landingAt 2 (some .int), Cond.fieldLink RX4 147 "SedgeBarges" "LANDING_PLACE" "[I", Cond.methodLink RX4 130 yX3_sellAll, Cond.instanceMethod yX3_sellAll, Cond.selects RX3 yX3_sellAll yX3_sellAll, Cond.initialized RX3, Cond.code yX3_sellAll cX3_sellAll 5 (some .int), Cond.fieldLink RX3 28 "SedgeBarges$Waterway" "barges" "LSedgeBarges$Barges;", Cond.fieldLink RX3 35 "SedgeBarges$Waterway" "landings" "LSedgeBarges$Landings;", Cond.fieldLink RX3 9 "SedgeBarges$Waterway" "coins" "I", Cond.methodLink RX3 55 yX0_aboard, Cond.instanceMethod yX0_aboard]
def wsX4_sell_r2 : List Cond := [Cond.selects RX0 yX0_aboard yX0_aboard, Cond.initialized RX0, Cond.code yX0_aboard cX0_aboard 2 (some .int), Cond.fieldLink RX0 18 "SedgeBarges$Barges" "sedge" "[I", Cond.fieldLink RX0 21 "SedgeBarges$Barges" "reed" "[I", Cond.methodLink RX3 78 yX2_sedgePrice, Cond.instanceMethod yX2_sedgePrice, Cond.selects RX2 yX2_sedgePrice yX2_sedgePrice, Cond.initialized RX2, Cond.code yX2_sedgePrice cX2_sedgePrice 2 (some .int), Cond.fieldLink RX2 9 "SedgeBarges$Landings" "store" "[I", Cond.methodLink RX2 18 Lib.Math.max.name, Cond.static Lib.Math.max.name, Cond.initialized "java/lang/Math", Cond.code Lib.Math.max.name Lib.Math.max.code 2 (some .int), Cond.methodLink RX3 81 yX2_reedPrice, Cond.instanceMethod yX2_reedPrice, Cond.selects RX2 yX2_reedPrice yX2_reedPrice, Cond.code yX2_reedPrice cX2_reedPrice 2 (some .int), Cond.methodLink RX2 24 yX2_sedgePrice]
def wsX4_sell : List Cond := .code yX4_sell cX4_sell 3 (some .int) :: ((wsX4_sell_r1 ++ wsX4_sell_r2) ++ wsX40 ++ wsX30 ++ wsX00 ++ wsX20 ++ (vx_atS RX4 46 "java/lang/IllegalStateException" ["java/lang/RuntimeException", "java/lang/Exception"]).filter goodWord ++ (vx_atS RX4 165 "java/lang/IndexOutOfBoundsException" ["java/lang/RuntimeException", "java/lang/Exception"]).filter goodWord)
def wsX4_told : List Cond := .code yX4_told cX4_told 3 (some .int) :: ([.fieldLink RX4 10 "SedgeBarges" "now" "LSedgeBarges$Waterway;", .methodLink RX4 110 yX4_needBarge, .instanceMethod yX4_needBarge, .selects RX4 yX4_needBarge yX4_needBarge, .initialized RX4, .code yX4_needBarge cX4_needBarge 2 none, .classLink RX4 161 "java/lang/IndexOutOfBoundsException", .initialized "java/lang/IndexOutOfBoundsException", .methodLink RX4 82 yX4_needFigure, .static yX4_needFigure, .code yX4_needFigure cX4_needFigure 2 none, .methodLink RX4 133 yX0_tell, .instanceMethod yX0_tell, .selects RX0 yX0_tell yX0_tell, .initialized RX0, .code yX0_tell cX0_tell 3 (some .int), .fieldLink RX0 9 "SedgeBarges$Barges" "place" "[I", .fieldLink RX0 15 "SedgeBarges$Barges" "goal" "[I", .fieldLink RX0 18 "SedgeBarges$Barges" "sedge" "[I", .fieldLink RX0 21 "SedgeBarges$Barges" "reed" "[I", .fieldLink RX0 24 "SedgeBarges$Barges" "brought" "[I", .static yX4_landingAt, .code yX4_landingAt cX4_landingAt 2 (some .int), .fieldLink RX4 147 "SedgeBarges" "LANDING_PLACE" "[I"] ++ wsX40 ++ wsX30 ++ wsX00 ++ (vx_atS RX4 165 "java/lang/IndexOutOfBoundsException" ["java/lang/RuntimeException", "java/lang/Exception"]).filter goodWord)
def wsX4_needLanding : List Cond := .code yX4_needLanding cX4_needLanding 1 none :: ([.classLink RX4 161 "java/lang/IndexOutOfBoundsException", .initialized "java/lang/IndexOutOfBoundsException"] ++ (vx_atS RX4 165 "java/lang/IndexOutOfBoundsException" ["java/lang/RuntimeException", "java/lang/Exception"]).filter goodWord)
def wsX4_landing_r1 : List Cond := [Cond.fieldLink RX4 10 "SedgeBarges" "now" "LSedgeBarges$Waterway;", Cond.methodLink RX4 134 yX4_needLanding, Cond.static yX4_needLanding, Cond.initialized RX4, Cond.code yX4_needLanding cX4_needLanding 1 none, Cond.classLink RX4 161 "java/lang/IndexOutOfBoundsException", Cond.initialized "java/lang/IndexOutOfBoundsException", Cond.methodLink RX4 82 yX4_needFigure, Cond.static yX4_needFigure, Cond.code yX4_needFigure cX4_needFigure 2 none, Cond.methodLink RX4 141 yX2_tell, Cond.instanceMethod yX2_tell, Cond.selects RX2 yX2_tell yX2_tell, Cond.initialized RX2, Cond.code yX2_tell cX2_tell 3 (some .int), Cond.fieldLink RX2 9 "SedgeBarges$Landings" "store" "[I", Cond.methodLink RX2 24 yX2_sedgePrice, Cond.instanceMethod yX2_sedgePrice, Cond.selects RX2 yX2_sedgePrice yX2_sedgePrice, Cond.code yX2_sedgePrice cX2_sedgePrice 2 (some .int), Cond.methodLink RX2 18 Lib.Math.max.name, Cond.static Lib.Math.max.name, Cond.initialized "java/lang/Math", Cond.code Lib.Math.max.name Lib.Math.max.code 2 (some .int)]
def wsX4_landing_r2 : List Cond := [Cond.methodLink RX2 34 yX2_reedPrice, Cond.instanceMethod yX2_reedPrice, Cond.selects RX2 yX2_reedPrice yX2_reedPrice, Cond.code yX2_reedPrice cX2_reedPrice 2 (some .int)]
def wsX4_landing : List Cond := .code yX4_landing cX4_landing 3 (some .int) :: ((wsX4_landing_r1 ++ wsX4_landing_r2) ++ wsX40 ++ wsX30 ++ wsX20 ++ (vx_atS RX4 165 "java/lang/IndexOutOfBoundsException" ["java/lang/RuntimeException", "java/lang/Exception"]).filter goodWord)
def wsX4_would_r1 : List Cond := [Cond.fieldLink RX4 16 "SedgeBarges" "ahead" "LSedgeBarges$Waterway;", Cond.fieldLink RX4 10 "SedgeBarges" "now" "LSedgeBarges$Waterway;", Cond.fieldLink RX4 147 "SedgeBarges" "LANDING_PLACE" "[I", Cond.methodLink RX4 110 yX4_needBarge, Cond.instanceMethod yX4_needBarge, Cond.selects RX4 yX4_needBarge yX4_needBarge, Cond.initialized RX4, Cond.code yX4_needBarge cX4_needBarge 2 none, Cond.classLink RX4 161 "java/lang/IndexOutOfBoundsException", Cond.initialized "java/lang/IndexOutOfBoundsException", Cond.methodLink RX4 134 yX4_needLanding, Cond.static yX4_needLanding, Cond.code yX4_needLanding cX4_needLanding 1 none, Cond.methodLink RX4 144 yX3_copyFrom, Cond.instanceMethod yX3_copyFrom, Cond.selects RX3 yX3_copyFrom yX3_copyFrom, Cond.initialized RX3, Cond.code yX3_copyFrom cX3_copyFrom 2 none, Cond.fieldLink RX3 39 "SedgeBarges$Waterway" "day" "I", Cond.fieldLink RX3 9 "SedgeBarges$Waterway" "coins" "I", Cond.fieldLink RX3 15 "SedgeBarges$Waterway" "ties" "I", Cond.fieldLink RX3 42 "SedgeBarges$Waterway" "rotted" "I", Cond.fieldLink RX3 21 "SedgeBarges$Waterway" "beds" "LSedgeBarges$Beds;", Cond.fieldLink RX3 28 "SedgeBarges$Waterway" "barges" "LSedgeBarges$Barges;"]
def wsX4_would_r2 : List Cond := [Cond.fieldLink RX3 35 "SedgeBarges$Waterway" "landings" "LSedgeBarges$Landings;", Cond.methodLink RX3 45 yX1_copyFrom, Cond.instanceMethod yX1_copyFrom, Cond.selects RX1 yX1_copyFrom yX1_copyFrom, Cond.initialized RX1, Cond.code yX1_copyFrom cX1_copyFrom 3 none, Cond.fieldLink RX1 39 "SedgeBarges$Beds" "number" "I", Cond.fieldLink RX1 9 "SedgeBarges$Beds" "place" "[I", Cond.fieldLink RX1 15 "SedgeBarges$Beds" "size" "[I", Cond.fieldLink RX1 18 "SedgeBarges$Beds" "age" "[I", Cond.fieldLink RX1 21 "SedgeBarges$Beds" "sedge" "[I", Cond.fieldLink RX1 24 "SedgeBarges$Beds" "untiedSedge" "[I", Cond.fieldLink RX1 27 "SedgeBarges$Beds" "untiedReed" "[I", Cond.fieldLink RX1 30 "SedgeBarges$Beds" "tiedSedge" "[I", Cond.fieldLink RX1 33 "SedgeBarges$Beds" "tiedReed" "[I", Cond.methodLink RX3 49 yX0_copyFrom, Cond.instanceMethod yX0_copyFrom, Cond.selects RX0 yX0_copyFrom yX0_copyFrom, Cond.initialized RX0, Cond.code yX0_copyFrom cX0_copyFrom 3 none, Cond.fieldLink RX0 27 "SedgeBarges$Barges" "number" "I", Cond.fieldLink RX0 9 "SedgeBarges$Barges" "place" "[I", Cond.fieldLink RX0 15 "SedgeBarges$Barges" "goal" "[I", Cond.fieldLink RX0 18 "SedgeBarges$Barges" "sedge" "[I"]
def wsX4_would_r3 : List Cond := [Cond.fieldLink RX0 21 "SedgeBarges$Barges" "reed" "[I", Cond.fieldLink RX0 24 "SedgeBarges$Barges" "brought" "[I", Cond.methodLink RX3 52 yX2_copyFrom, Cond.instanceMethod yX2_copyFrom, Cond.selects RX2 yX2_copyFrom yX2_copyFrom, Cond.initialized RX2, Cond.code yX2_copyFrom cX2_copyFrom 3 none, Cond.fieldLink RX2 9 "SedgeBarges$Landings" "store" "[I", Cond.methodLink RX4 113 yX0_send, Cond.instanceMethod yX0_send, Cond.selects RX0 yX0_send yX0_send, Cond.code yX0_send cX0_send 4 (some .int), Cond.methodLink RX0 31 Lib.Math.abs.name, Cond.static Lib.Math.abs.name, Cond.initialized "java/lang/Math", Cond.code Lib.Math.abs.name Lib.Math.abs.code 1 (some .int), Cond.methodLink RX4 150 yX3_passDays, Cond.instanceMethod yX3_passDays, Cond.selects RX3 yX3_passDays yX3_passDays, Cond.code yX3_passDays cX3_passDays 4 (some .int), Cond.methodLink RX3 90 yX3_passDay, Cond.instanceMethod yX3_passDay, Cond.selects RX3 yX3_passDay yX3_passDay, Cond.code yX3_passDay cX3_passDay 1 none]
def wsX4_would_r4 : List Cond := [Cond.methodLink RX3 93 yX0_sailOn, Cond.instanceMethod yX0_sailOn, Cond.selects RX0 yX0_sailOn yX0_sailOn, Cond.code yX0_sailOn cX0_sailOn 3 none, Cond.methodLink RX0 37 Lib.Math.min.name, Cond.static Lib.Math.min.name, Cond.code Lib.Math.min.name Lib.Math.min.code 2 (some .int), Cond.methodLink RX0 41 Lib.Math.max.name, Cond.static Lib.Math.max.name, Cond.code Lib.Math.max.name Lib.Math.max.code 2 (some .int), Cond.methodLink RX3 96 yX1_rot, Cond.instanceMethod yX1_rot, Cond.selects RX1 yX1_rot yX1_rot, Cond.code yX1_rot cX1_rot 5 (some .int), Cond.static yX4_tenthRoundedUp, Cond.code yX4_tenthRoundedUp cX4_tenthRoundedUp 1 (some .int), Cond.methodLink RX3 100 yX2_thatch, Cond.instanceMethod yX2_thatch, Cond.selects RX2 yX2_thatch yX2_thatch, Cond.code yX2_thatch cX2_thatch 2 none, Cond.static yX4_twentiethRoundedUp, Cond.code yX4_twentiethRoundedUp cX4_twentiethRoundedUp 1 (some .int), Cond.methodLink RX3 103 yX1_endYear, Cond.instanceMethod yX1_endYear]
def wsX4_would_r5 : List Cond := [Cond.selects RX1 yX1_endYear yX1_endYear, Cond.code yX1_endYear cX1_endYear 2 none, Cond.fieldLink RX1 36 "SedgeBarges$Beds" "change" "[I", Cond.methodLink RX1 53 Lib.Math.min.name, Cond.methodLink RX1 69 Lib.Math.max.name, Cond.methodLink RX1 62 yX1_changeByAge, Cond.static yX1_changeByAge, Cond.code yX1_changeByAge cX1_changeByAge 1 (some .int), Cond.methodLink RX1 65 yX1_isCreptInto, Cond.instanceMethod yX1_isCreptInto, Cond.selects RX1 yX1_isCreptInto yX1_isCreptInto, Cond.code yX1_isCreptInto cX1_isCreptInto 3 (some .boolean), Cond.methodLink RX1 72 Lib.Math.abs.name, Cond.methodLink RX4 130 yX3_sellAll, Cond.instanceMethod yX3_sellAll, Cond.selects RX3 yX3_sellAll yX3_sellAll, Cond.code yX3_sellAll cX3_sellAll 5 (some .int), Cond.methodLink RX3 55 yX0_aboard, Cond.instanceMethod yX0_aboard, Cond.selects RX0 yX0_aboard yX0_aboard, Cond.code yX0_aboard cX0_aboard 2 (some .int), Cond.methodLink RX3 78 yX2_sedgePrice, Cond.instanceMethod yX2_sedgePrice, Cond.selects RX2 yX2_sedgePrice yX2_sedgePrice]
def wsX4_would_r6 : List Cond := [Cond.code yX2_sedgePrice cX2_sedgePrice 2 (some .int), Cond.methodLink RX2 18 Lib.Math.max.name, Cond.methodLink RX3 81 yX2_reedPrice, Cond.instanceMethod yX2_reedPrice, Cond.selects RX2 yX2_reedPrice yX2_reedPrice, Cond.code yX2_reedPrice cX2_reedPrice 2 (some .int), Cond.methodLink RX2 24 yX2_sedgePrice]
def wsX4_would : List Cond := .code yX4_would cX4_would 4 (some .int) :: ((wsX4_would_r1 ++ (wsX4_would_r2 ++ (wsX4_would_r3 ++ (wsX4_would_r4 ++ (wsX4_would_r5 ++ wsX4_would_r6))))) ++ wsX40 ++ wsX30 ++ wsX00 ++ wsX10 ++ wsX20 ++ (vx_atS RX4 165 "java/lang/IndexOutOfBoundsException" ["java/lang/RuntimeException", "java/lang/Exception"]).filter goodWord)
def wsX4_advise_r1 : List Cond := [Cond.methodLink RX4 110 yX4_needBarge, Cond.instanceMethod yX4_needBarge, Cond.selects RX4 yX4_needBarge yX4_needBarge, Cond.initialized RX4, Cond.code yX4_needBarge cX4_needBarge 2 none, Cond.classLink RX4 161 "java/lang/IndexOutOfBoundsException", Cond.initialized "java/lang/IndexOutOfBoundsException", Cond.fieldLink RX4 10 "SedgeBarges" "now" "LSedgeBarges$Waterway;", Cond.methodLink RX4 153 yX4_would, Cond.instanceMethod yX4_would, Cond.selects RX4 yX4_would yX4_would, Cond.code yX4_would cX4_would 4 (some .int), Cond.fieldLink RX4 16 "SedgeBarges" "ahead" "LSedgeBarges$Waterway;", Cond.fieldLink RX4 147 "SedgeBarges" "LANDING_PLACE" "[I", Cond.methodLink RX4 134 yX4_needLanding, Cond.static yX4_needLanding, Cond.code yX4_needLanding cX4_needLanding 1 none, Cond.methodLink RX4 144 yX3_copyFrom, Cond.instanceMethod yX3_copyFrom, Cond.selects RX3 yX3_copyFrom yX3_copyFrom, Cond.initialized RX3, Cond.code yX3_copyFrom cX3_copyFrom 2 none, Cond.fieldLink RX3 39 "SedgeBarges$Waterway" "day" "I", Cond.fieldLink RX3 9 "SedgeBarges$Waterway" "coins" "I"]
def wsX4_advise_r2 : List Cond := [Cond.fieldLink RX3 15 "SedgeBarges$Waterway" "ties" "I", Cond.fieldLink RX3 42 "SedgeBarges$Waterway" "rotted" "I", Cond.fieldLink RX3 21 "SedgeBarges$Waterway" "beds" "LSedgeBarges$Beds;", Cond.fieldLink RX3 28 "SedgeBarges$Waterway" "barges" "LSedgeBarges$Barges;", Cond.fieldLink RX3 35 "SedgeBarges$Waterway" "landings" "LSedgeBarges$Landings;", Cond.methodLink RX3 45 yX1_copyFrom, Cond.instanceMethod yX1_copyFrom, Cond.selects RX1 yX1_copyFrom yX1_copyFrom, Cond.initialized RX1, Cond.code yX1_copyFrom cX1_copyFrom 3 none, Cond.fieldLink RX1 39 "SedgeBarges$Beds" "number" "I", Cond.fieldLink RX1 9 "SedgeBarges$Beds" "place" "[I", Cond.fieldLink RX1 15 "SedgeBarges$Beds" "size" "[I", Cond.fieldLink RX1 18 "SedgeBarges$Beds" "age" "[I", Cond.fieldLink RX1 21 "SedgeBarges$Beds" "sedge" "[I", Cond.fieldLink RX1 24 "SedgeBarges$Beds" "untiedSedge" "[I", Cond.fieldLink RX1 27 "SedgeBarges$Beds" "untiedReed" "[I", Cond.fieldLink RX1 30 "SedgeBarges$Beds" "tiedSedge" "[I", Cond.fieldLink RX1 33 "SedgeBarges$Beds" "tiedReed" "[I", Cond.methodLink RX3 49 yX0_copyFrom, Cond.instanceMethod yX0_copyFrom, Cond.selects RX0 yX0_copyFrom yX0_copyFrom, Cond.initialized RX0, Cond.code yX0_copyFrom cX0_copyFrom 3 none]
def wsX4_advise_r3 : List Cond := [Cond.fieldLink RX0 27 "SedgeBarges$Barges" "number" "I", Cond.fieldLink RX0 9 "SedgeBarges$Barges" "place" "[I", Cond.fieldLink RX0 15 "SedgeBarges$Barges" "goal" "[I", Cond.fieldLink RX0 18 "SedgeBarges$Barges" "sedge" "[I", Cond.fieldLink RX0 21 "SedgeBarges$Barges" "reed" "[I", Cond.fieldLink RX0 24 "SedgeBarges$Barges" "brought" "[I", Cond.methodLink RX3 52 yX2_copyFrom, Cond.instanceMethod yX2_copyFrom, Cond.selects RX2 yX2_copyFrom yX2_copyFrom, Cond.initialized RX2, Cond.code yX2_copyFrom cX2_copyFrom 3 none, Cond.fieldLink RX2 9 "SedgeBarges$Landings" "store" "[I", Cond.methodLink RX4 113 yX0_send, Cond.instanceMethod yX0_send, Cond.selects RX0 yX0_send yX0_send, Cond.code yX0_send cX0_send 4 (some .int), Cond.methodLink RX0 31 Lib.Math.abs.name, Cond.static Lib.Math.abs.name, Cond.initialized "java/lang/Math", Cond.code Lib.Math.abs.name Lib.Math.abs.code 1 (some .int), Cond.methodLink RX4 150 yX3_passDays, Cond.instanceMethod yX3_passDays, Cond.selects RX3 yX3_passDays yX3_passDays, Cond.code yX3_passDays cX3_passDays 4 (some .int)]
def wsX4_advise_r4 : List Cond := [Cond.methodLink RX3 90 yX3_passDay, Cond.instanceMethod yX3_passDay, Cond.selects RX3 yX3_passDay yX3_passDay, Cond.code yX3_passDay cX3_passDay 1 none, Cond.methodLink RX3 93 yX0_sailOn, Cond.instanceMethod yX0_sailOn, Cond.selects RX0 yX0_sailOn yX0_sailOn, Cond.code yX0_sailOn cX0_sailOn 3 none, Cond.methodLink RX0 37 Lib.Math.min.name, Cond.static Lib.Math.min.name, Cond.code Lib.Math.min.name Lib.Math.min.code 2 (some .int), Cond.methodLink RX0 41 Lib.Math.max.name, Cond.static Lib.Math.max.name, Cond.code Lib.Math.max.name Lib.Math.max.code 2 (some .int), Cond.methodLink RX3 96 yX1_rot, Cond.instanceMethod yX1_rot, Cond.selects RX1 yX1_rot yX1_rot, Cond.code yX1_rot cX1_rot 5 (some .int), Cond.static yX4_tenthRoundedUp, Cond.code yX4_tenthRoundedUp cX4_tenthRoundedUp 1 (some .int), Cond.methodLink RX3 100 yX2_thatch, Cond.instanceMethod yX2_thatch, Cond.selects RX2 yX2_thatch yX2_thatch, Cond.code yX2_thatch cX2_thatch 2 none]
def wsX4_advise_r5 : List Cond := [Cond.static yX4_twentiethRoundedUp, Cond.code yX4_twentiethRoundedUp cX4_twentiethRoundedUp 1 (some .int), Cond.methodLink RX3 103 yX1_endYear, Cond.instanceMethod yX1_endYear, Cond.selects RX1 yX1_endYear yX1_endYear, Cond.code yX1_endYear cX1_endYear 2 none, Cond.fieldLink RX1 36 "SedgeBarges$Beds" "change" "[I", Cond.methodLink RX1 53 Lib.Math.min.name, Cond.methodLink RX1 69 Lib.Math.max.name, Cond.methodLink RX1 62 yX1_changeByAge, Cond.static yX1_changeByAge, Cond.code yX1_changeByAge cX1_changeByAge 1 (some .int), Cond.methodLink RX1 65 yX1_isCreptInto, Cond.instanceMethod yX1_isCreptInto, Cond.selects RX1 yX1_isCreptInto yX1_isCreptInto, Cond.code yX1_isCreptInto cX1_isCreptInto 3 (some .boolean), Cond.methodLink RX1 72 Lib.Math.abs.name, Cond.methodLink RX4 130 yX3_sellAll, Cond.instanceMethod yX3_sellAll, Cond.selects RX3 yX3_sellAll yX3_sellAll, Cond.code yX3_sellAll cX3_sellAll 5 (some .int), Cond.methodLink RX3 55 yX0_aboard, Cond.instanceMethod yX0_aboard, Cond.selects RX0 yX0_aboard yX0_aboard]
def wsX4_advise_r6 : List Cond := [Cond.code yX0_aboard cX0_aboard 2 (some .int), Cond.methodLink RX3 78 yX2_sedgePrice, Cond.instanceMethod yX2_sedgePrice, Cond.selects RX2 yX2_sedgePrice yX2_sedgePrice, Cond.code yX2_sedgePrice cX2_sedgePrice 2 (some .int), Cond.methodLink RX2 18 Lib.Math.max.name, Cond.methodLink RX3 81 yX2_reedPrice, Cond.instanceMethod yX2_reedPrice, Cond.selects RX2 yX2_reedPrice yX2_reedPrice, Cond.code yX2_reedPrice cX2_reedPrice 2 (some .int), Cond.methodLink RX2 24 yX2_sedgePrice]
def wsX4_advise : List Cond := .code yX4_advise cX4_advise 6 (some .int) :: ((wsX4_advise_r1 ++ (wsX4_advise_r2 ++ (wsX4_advise_r3 ++ (wsX4_advise_r4 ++ (wsX4_advise_r5 ++ wsX4_advise_r6))))) ++ wsX40 ++ wsX30 ++ wsX00 ++ wsX10 ++ wsX20 ++ (vx_atS RX4 165 "java/lang/IndexOutOfBoundsException" ["java/lang/RuntimeException", "java/lang/Exception"]).filter goodWord)
def wsX4_count_r1 : List Cond := [Cond.fieldLink RX4 10 "SedgeBarges" "now" "LSedgeBarges$Waterway;", Cond.methodLink RX4 82 yX4_needFigure, Cond.static yX4_needFigure, Cond.initialized RX4, Cond.code yX4_needFigure cX4_needFigure 2 none, Cond.classLink RX4 161 "java/lang/IndexOutOfBoundsException", Cond.initialized "java/lang/IndexOutOfBoundsException", Cond.methodLink RX4 156 yX3_tell, Cond.instanceMethod yX3_tell, Cond.selects RX3 yX3_tell yX3_tell, Cond.initialized RX3, Cond.code yX3_tell cX3_tell 2 (some .int), Cond.fieldLink RX3 39 "SedgeBarges$Waterway" "day" "I", Cond.fieldLink RX3 9 "SedgeBarges$Waterway" "coins" "I", Cond.fieldLink RX3 15 "SedgeBarges$Waterway" "ties" "I", Cond.fieldLink RX3 21 "SedgeBarges$Waterway" "beds" "LSedgeBarges$Beds;", Cond.fieldLink RX3 28 "SedgeBarges$Waterway" "barges" "LSedgeBarges$Barges;", Cond.fieldLink RX3 35 "SedgeBarges$Waterway" "landings" "LSedgeBarges$Landings;", Cond.fieldLink RX3 42 "SedgeBarges$Waterway" "rotted" "I", Cond.methodLink RX3 109 yX1_givenByAll, Cond.instanceMethod yX1_givenByAll, Cond.selects RX1 yX1_givenByAll yX1_givenByAll, Cond.initialized RX1, Cond.code yX1_givenByAll cX1_givenByAll 3 (some .int)]
def wsX4_count_r2 : List Cond := [Cond.fieldLink RX1 39 "SedgeBarges$Beds" "number" "I", Cond.methodLink RX1 46 yX1_given, Cond.instanceMethod yX1_given, Cond.selects RX1 yX1_given yX1_given, Cond.code yX1_given cX1_given 4 (some .int), Cond.fieldLink RX1 18 "SedgeBarges$Beds" "age" "[I", Cond.fieldLink RX1 15 "SedgeBarges$Beds" "size" "[I", Cond.methodLink RX3 112 yX1_untiedOfAll, Cond.instanceMethod yX1_untiedOfAll, Cond.selects RX1 yX1_untiedOfAll yX1_untiedOfAll, Cond.code yX1_untiedOfAll cX1_untiedOfAll 3 (some .int), Cond.fieldLink RX1 24 "SedgeBarges$Beds" "untiedSedge" "[I", Cond.fieldLink RX1 27 "SedgeBarges$Beds" "untiedReed" "[I", Cond.methodLink RX3 115 yX1_tiedOfAll, Cond.instanceMethod yX1_tiedOfAll, Cond.selects RX1 yX1_tiedOfAll yX1_tiedOfAll, Cond.code yX1_tiedOfAll cX1_tiedOfAll 3 (some .int), Cond.fieldLink RX1 30 "SedgeBarges$Beds" "tiedSedge" "[I", Cond.fieldLink RX1 33 "SedgeBarges$Beds" "tiedReed" "[I", Cond.methodLink RX3 119 yX0_aboardAll, Cond.instanceMethod yX0_aboardAll, Cond.selects RX0 yX0_aboardAll yX0_aboardAll, Cond.initialized RX0, Cond.code yX0_aboardAll cX0_aboardAll 3 (some .int)]
def wsX4_count_r3 : List Cond := [Cond.fieldLink RX0 27 "SedgeBarges$Barges" "number" "I", Cond.methodLink RX0 47 yX0_aboard, Cond.instanceMethod yX0_aboard, Cond.selects RX0 yX0_aboard yX0_aboard, Cond.code yX0_aboard cX0_aboard 2 (some .int), Cond.fieldLink RX0 18 "SedgeBarges$Barges" "sedge" "[I", Cond.fieldLink RX0 21 "SedgeBarges$Barges" "reed" "[I", Cond.methodLink RX3 122 yX2_storeOfAll, Cond.instanceMethod yX2_storeOfAll, Cond.selects RX2 yX2_storeOfAll yX2_storeOfAll, Cond.initialized RX2, Cond.code yX2_storeOfAll cX2_storeOfAll 3 (some .int), Cond.fieldLink RX2 9 "SedgeBarges$Landings" "store" "[I"]
def wsX4_count : List Cond := .code yX4_count cX4_count 2 (some .int) :: ((wsX4_count_r1 ++ (wsX4_count_r2 ++ wsX4_count_r3)) ++ wsX40 ++ wsX30 ++ wsX10 ++ wsX00 ++ wsX20 ++ (vx_atS RX4 165 "java/lang/IndexOutOfBoundsException" ["java/lang/RuntimeException", "java/lang/Exception"]).filter goodWord)
def wsX4_needDays : List Cond := .code yX4_needDays cX4_needDays 1 none :: ([.classLink RX4 23 "java/lang/IllegalArgumentException", .initialized "java/lang/IllegalArgumentException"] ++ (vx_atS RX4 27 "java/lang/IllegalArgumentException" ["java/lang/RuntimeException", "java/lang/Exception"]).filter goodWord)
def wsX4_pass_r1 : List Cond := [Cond.fieldLink RX4 10 "SedgeBarges" "now" "LSedgeBarges$Waterway;", Cond.methodLink RX4 158 yX4_needDays, Cond.static yX4_needDays, Cond.initialized RX4, Cond.code yX4_needDays cX4_needDays 1 none, Cond.classLink RX4 23 "java/lang/IllegalArgumentException", Cond.initialized "java/lang/IllegalArgumentException", Cond.methodLink RX4 150 yX3_passDays, Cond.instanceMethod yX3_passDays, Cond.selects RX3 yX3_passDays yX3_passDays, Cond.initialized RX3, Cond.code yX3_passDays cX3_passDays 4 (some .int), Cond.fieldLink RX3 42 "SedgeBarges$Waterway" "rotted" "I", Cond.methodLink RX3 90 yX3_passDay, Cond.instanceMethod yX3_passDay, Cond.selects RX3 yX3_passDay yX3_passDay, Cond.code yX3_passDay cX3_passDay 1 none, Cond.fieldLink RX3 28 "SedgeBarges$Waterway" "barges" "LSedgeBarges$Barges;", Cond.fieldLink RX3 21 "SedgeBarges$Waterway" "beds" "LSedgeBarges$Beds;", Cond.fieldLink RX3 35 "SedgeBarges$Waterway" "landings" "LSedgeBarges$Landings;", Cond.fieldLink RX3 39 "SedgeBarges$Waterway" "day" "I", Cond.methodLink RX3 93 yX0_sailOn, Cond.instanceMethod yX0_sailOn, Cond.selects RX0 yX0_sailOn yX0_sailOn]
def wsX4_pass_r2 : List Cond := [Cond.initialized RX0, Cond.code yX0_sailOn cX0_sailOn 3 none, Cond.fieldLink RX0 27 "SedgeBarges$Barges" "number" "I", Cond.fieldLink RX0 15 "SedgeBarges$Barges" "goal" "[I", Cond.fieldLink RX0 9 "SedgeBarges$Barges" "place" "[I", Cond.methodLink RX0 37 Lib.Math.min.name, Cond.static Lib.Math.min.name, Cond.initialized "java/lang/Math", Cond.code Lib.Math.min.name Lib.Math.min.code 2 (some .int), Cond.methodLink RX0 41 Lib.Math.max.name, Cond.static Lib.Math.max.name, Cond.code Lib.Math.max.name Lib.Math.max.code 2 (some .int), Cond.methodLink RX3 96 yX1_rot, Cond.instanceMethod yX1_rot, Cond.selects RX1 yX1_rot yX1_rot, Cond.initialized RX1, Cond.code yX1_rot cX1_rot 5 (some .int), Cond.fieldLink RX1 39 "SedgeBarges$Beds" "number" "I", Cond.fieldLink RX1 24 "SedgeBarges$Beds" "untiedSedge" "[I", Cond.fieldLink RX1 27 "SedgeBarges$Beds" "untiedReed" "[I", Cond.static yX4_tenthRoundedUp, Cond.code yX4_tenthRoundedUp cX4_tenthRoundedUp 1 (some .int), Cond.methodLink RX3 100 yX2_thatch, Cond.instanceMethod yX2_thatch]
def wsX4_pass_r3 : List Cond := [Cond.selects RX2 yX2_thatch yX2_thatch, Cond.initialized RX2, Cond.code yX2_thatch cX2_thatch 2 none, Cond.fieldLink RX2 9 "SedgeBarges$Landings" "store" "[I", Cond.static yX4_twentiethRoundedUp, Cond.code yX4_twentiethRoundedUp cX4_twentiethRoundedUp 1 (some .int), Cond.methodLink RX3 103 yX1_endYear, Cond.instanceMethod yX1_endYear, Cond.selects RX1 yX1_endYear yX1_endYear, Cond.code yX1_endYear cX1_endYear 2 none, Cond.fieldLink RX1 36 "SedgeBarges$Beds" "change" "[I", Cond.fieldLink RX1 18 "SedgeBarges$Beds" "age" "[I", Cond.fieldLink RX1 21 "SedgeBarges$Beds" "sedge" "[I", Cond.methodLink RX1 53 Lib.Math.min.name, Cond.methodLink RX1 69 Lib.Math.max.name, Cond.methodLink RX1 62 yX1_changeByAge, Cond.static yX1_changeByAge, Cond.code yX1_changeByAge cX1_changeByAge 1 (some .int), Cond.methodLink RX1 65 yX1_isCreptInto, Cond.instanceMethod yX1_isCreptInto, Cond.selects RX1 yX1_isCreptInto yX1_isCreptInto, Cond.code yX1_isCreptInto cX1_isCreptInto 3 (some .boolean), Cond.fieldLink RX1 9 "SedgeBarges$Beds" "place" "[I", Cond.methodLink RX1 72 Lib.Math.abs.name]
def wsX4_pass_r4 : List Cond := [Cond.static Lib.Math.abs.name, Cond.code Lib.Math.abs.name Lib.Math.abs.code 1 (some .int)]
def wsX4_pass : List Cond := .code yX4_pass cX4_pass 2 (some .int) :: ((wsX4_pass_r1 ++ (wsX4_pass_r2 ++ (wsX4_pass_r3 ++ wsX4_pass_r4))) ++ wsX40 ++ wsX30 ++ wsX00 ++ wsX10 ++ wsX20 ++ (vx_atS RX4 27 "java/lang/IllegalArgumentException" ["java/lang/RuntimeException", "java/lang/Exception"]).filter goodWord)
def wsX4_foresee_r1 : List Cond := [Cond.classLink RX4 161 "java/lang/IndexOutOfBoundsException", Cond.initialized "java/lang/IndexOutOfBoundsException", Cond.fieldLink RX4 16 "SedgeBarges" "ahead" "LSedgeBarges$Waterway;", Cond.fieldLink RX4 10 "SedgeBarges" "now" "LSedgeBarges$Waterway;", Cond.methodLink RX4 158 yX4_needDays, Cond.static yX4_needDays, Cond.initialized RX4, Cond.code yX4_needDays cX4_needDays 1 none, Cond.classLink RX4 23 "java/lang/IllegalArgumentException", Cond.initialized "java/lang/IllegalArgumentException", Cond.methodLink RX4 144 yX3_copyFrom, Cond.instanceMethod yX3_copyFrom, Cond.selects RX3 yX3_copyFrom yX3_copyFrom, Cond.initialized RX3, Cond.code yX3_copyFrom cX3_copyFrom 2 none, Cond.fieldLink RX3 39 "SedgeBarges$Waterway" "day" "I", Cond.fieldLink RX3 9 "SedgeBarges$Waterway" "coins" "I", Cond.fieldLink RX3 15 "SedgeBarges$Waterway" "ties" "I", Cond.fieldLink RX3 42 "SedgeBarges$Waterway" "rotted" "I", Cond.fieldLink RX3 21 "SedgeBarges$Waterway" "beds" "LSedgeBarges$Beds;", Cond.fieldLink RX3 28 "SedgeBarges$Waterway" "barges" "LSedgeBarges$Barges;", Cond.fieldLink RX3 35 "SedgeBarges$Waterway" "landings" "LSedgeBarges$Landings;", Cond.methodLink RX3 45 yX1_copyFrom, Cond.instanceMethod yX1_copyFrom]
def wsX4_foresee_r2 : List Cond := [Cond.selects RX1 yX1_copyFrom yX1_copyFrom, Cond.initialized RX1, Cond.code yX1_copyFrom cX1_copyFrom 3 none, Cond.fieldLink RX1 39 "SedgeBarges$Beds" "number" "I", Cond.fieldLink RX1 9 "SedgeBarges$Beds" "place" "[I", Cond.fieldLink RX1 15 "SedgeBarges$Beds" "size" "[I", Cond.fieldLink RX1 18 "SedgeBarges$Beds" "age" "[I", Cond.fieldLink RX1 21 "SedgeBarges$Beds" "sedge" "[I", Cond.fieldLink RX1 24 "SedgeBarges$Beds" "untiedSedge" "[I", Cond.fieldLink RX1 27 "SedgeBarges$Beds" "untiedReed" "[I", Cond.fieldLink RX1 30 "SedgeBarges$Beds" "tiedSedge" "[I", Cond.fieldLink RX1 33 "SedgeBarges$Beds" "tiedReed" "[I", Cond.methodLink RX3 49 yX0_copyFrom, Cond.instanceMethod yX0_copyFrom, Cond.selects RX0 yX0_copyFrom yX0_copyFrom, Cond.initialized RX0, Cond.code yX0_copyFrom cX0_copyFrom 3 none, Cond.fieldLink RX0 27 "SedgeBarges$Barges" "number" "I", Cond.fieldLink RX0 9 "SedgeBarges$Barges" "place" "[I", Cond.fieldLink RX0 15 "SedgeBarges$Barges" "goal" "[I", Cond.fieldLink RX0 18 "SedgeBarges$Barges" "sedge" "[I", Cond.fieldLink RX0 21 "SedgeBarges$Barges" "reed" "[I", Cond.fieldLink RX0 24 "SedgeBarges$Barges" "brought" "[I", Cond.methodLink RX3 52 yX2_copyFrom]
def wsX4_foresee_r3 : List Cond := [Cond.instanceMethod yX2_copyFrom, Cond.selects RX2 yX2_copyFrom yX2_copyFrom, Cond.initialized RX2, Cond.code yX2_copyFrom cX2_copyFrom 3 none, Cond.fieldLink RX2 9 "SedgeBarges$Landings" "store" "[I", Cond.methodLink RX4 150 yX3_passDays, Cond.instanceMethod yX3_passDays, Cond.selects RX3 yX3_passDays yX3_passDays, Cond.code yX3_passDays cX3_passDays 4 (some .int), Cond.methodLink RX3 90 yX3_passDay, Cond.instanceMethod yX3_passDay, Cond.selects RX3 yX3_passDay yX3_passDay, Cond.code yX3_passDay cX3_passDay 1 none, Cond.methodLink RX3 93 yX0_sailOn, Cond.instanceMethod yX0_sailOn, Cond.selects RX0 yX0_sailOn yX0_sailOn, Cond.code yX0_sailOn cX0_sailOn 3 none, Cond.methodLink RX0 37 Lib.Math.min.name, Cond.static Lib.Math.min.name, Cond.initialized "java/lang/Math", Cond.code Lib.Math.min.name Lib.Math.min.code 2 (some .int), Cond.methodLink RX0 41 Lib.Math.max.name, Cond.static Lib.Math.max.name, Cond.code Lib.Math.max.name Lib.Math.max.code 2 (some .int)]
def wsX4_foresee_r4 : List Cond := [Cond.methodLink RX3 96 yX1_rot, Cond.instanceMethod yX1_rot, Cond.selects RX1 yX1_rot yX1_rot, Cond.code yX1_rot cX1_rot 5 (some .int), Cond.static yX4_tenthRoundedUp, Cond.code yX4_tenthRoundedUp cX4_tenthRoundedUp 1 (some .int), Cond.methodLink RX3 100 yX2_thatch, Cond.instanceMethod yX2_thatch, Cond.selects RX2 yX2_thatch yX2_thatch, Cond.code yX2_thatch cX2_thatch 2 none, Cond.static yX4_twentiethRoundedUp, Cond.code yX4_twentiethRoundedUp cX4_twentiethRoundedUp 1 (some .int), Cond.methodLink RX3 103 yX1_endYear, Cond.instanceMethod yX1_endYear, Cond.selects RX1 yX1_endYear yX1_endYear, Cond.code yX1_endYear cX1_endYear 2 none, Cond.fieldLink RX1 36 "SedgeBarges$Beds" "change" "[I", Cond.methodLink RX1 53 Lib.Math.min.name, Cond.methodLink RX1 69 Lib.Math.max.name, Cond.methodLink RX1 62 yX1_changeByAge, Cond.static yX1_changeByAge, Cond.code yX1_changeByAge cX1_changeByAge 1 (some .int), Cond.methodLink RX1 65 yX1_isCreptInto, Cond.instanceMethod yX1_isCreptInto]
def wsX4_foresee_r5 : List Cond := [Cond.selects RX1 yX1_isCreptInto yX1_isCreptInto, Cond.code yX1_isCreptInto cX1_isCreptInto 3 (some .boolean), Cond.methodLink RX1 72 Lib.Math.abs.name, Cond.static Lib.Math.abs.name, Cond.code Lib.Math.abs.name Lib.Math.abs.code 1 (some .int), Cond.methodLink RX4 156 yX3_tell, Cond.instanceMethod yX3_tell, Cond.selects RX3 yX3_tell yX3_tell, Cond.code yX3_tell cX3_tell 2 (some .int), Cond.methodLink RX3 109 yX1_givenByAll, Cond.instanceMethod yX1_givenByAll, Cond.selects RX1 yX1_givenByAll yX1_givenByAll, Cond.code yX1_givenByAll cX1_givenByAll 3 (some .int), Cond.methodLink RX1 46 yX1_given, Cond.instanceMethod yX1_given, Cond.selects RX1 yX1_given yX1_given, Cond.code yX1_given cX1_given 4 (some .int), Cond.methodLink RX3 112 yX1_untiedOfAll, Cond.instanceMethod yX1_untiedOfAll, Cond.selects RX1 yX1_untiedOfAll yX1_untiedOfAll, Cond.code yX1_untiedOfAll cX1_untiedOfAll 3 (some .int), Cond.methodLink RX3 115 yX1_tiedOfAll, Cond.instanceMethod yX1_tiedOfAll, Cond.selects RX1 yX1_tiedOfAll yX1_tiedOfAll]
def wsX4_foresee_r6 : List Cond := [Cond.code yX1_tiedOfAll cX1_tiedOfAll 3 (some .int), Cond.methodLink RX3 119 yX0_aboardAll, Cond.instanceMethod yX0_aboardAll, Cond.selects RX0 yX0_aboardAll yX0_aboardAll, Cond.code yX0_aboardAll cX0_aboardAll 3 (some .int), Cond.methodLink RX0 47 yX0_aboard, Cond.instanceMethod yX0_aboard, Cond.selects RX0 yX0_aboard yX0_aboard, Cond.code yX0_aboard cX0_aboard 2 (some .int), Cond.methodLink RX3 122 yX2_storeOfAll, Cond.instanceMethod yX2_storeOfAll, Cond.selects RX2 yX2_storeOfAll yX2_storeOfAll, Cond.code yX2_storeOfAll cX2_storeOfAll 3 (some .int)]
def wsX4_foresee : List Cond := .code yX4_foresee cX4_foresee 3 (some .int) :: ((wsX4_foresee_r1 ++ (wsX4_foresee_r2 ++ (wsX4_foresee_r3 ++ (wsX4_foresee_r4 ++ (wsX4_foresee_r5 ++ wsX4_foresee_r6))))) ++ wsX40 ++ wsX30 ++ wsX10 ++ wsX00 ++ wsX20 ++ (vx_atS RX4 165 "java/lang/IndexOutOfBoundsException" ["java/lang/RuntimeException", "java/lang/Exception"]).filter goodWord ++ (vx_atS RX4 27 "java/lang/IllegalArgumentException" ["java/lang/RuntimeException", "java/lang/Exception"]).filter goodWord)
def wsX4_mean : List Cond := .code yX4_mean cX4_mean 1 (some .double) :: ([.fieldLink RX4 10 "SedgeBarges" "now" "LSedgeBarges$Waterway;", .methodLink RX4 169 yX1_sedgeOfAll, .instanceMethod yX1_sedgeOfAll, .selects RX1 yX1_sedgeOfAll yX1_sedgeOfAll, .initialized RX1, .code yX1_sedgeOfAll cX1_sedgeOfAll 3 (some .int), .fieldLink RX1 39 "SedgeBarges$Beds" "number" "I", .fieldLink RX1 21 "SedgeBarges$Beds" "sedge" "[I"] ++ wsX40 ++ wsX30 ++ wsX10)
def wsX4_digest_r1 : List Cond := [Cond.constantLong RX4 173 (1277), Cond.constantLong RX4 175 (31), Cond.fieldLink RX4 10 "SedgeBarges" "now" "LSedgeBarges$Waterway;", Cond.methodLink RX4 156 yX3_tell, Cond.instanceMethod yX3_tell, Cond.selects RX3 yX3_tell yX3_tell, Cond.initialized RX3, Cond.code yX3_tell cX3_tell 2 (some .int), Cond.fieldLink RX3 39 "SedgeBarges$Waterway" "day" "I", Cond.fieldLink RX3 9 "SedgeBarges$Waterway" "coins" "I", Cond.fieldLink RX3 15 "SedgeBarges$Waterway" "ties" "I", Cond.fieldLink RX3 21 "SedgeBarges$Waterway" "beds" "LSedgeBarges$Beds;", Cond.fieldLink RX3 28 "SedgeBarges$Waterway" "barges" "LSedgeBarges$Barges;", Cond.fieldLink RX3 35 "SedgeBarges$Waterway" "landings" "LSedgeBarges$Landings;", Cond.fieldLink RX3 42 "SedgeBarges$Waterway" "rotted" "I", Cond.methodLink RX3 109 yX1_givenByAll, Cond.instanceMethod yX1_givenByAll, Cond.selects RX1 yX1_givenByAll yX1_givenByAll, Cond.initialized RX1, Cond.code yX1_givenByAll cX1_givenByAll 3 (some .int), Cond.fieldLink RX1 39 "SedgeBarges$Beds" "number" "I", Cond.methodLink RX1 46 yX1_given, Cond.instanceMethod yX1_given, Cond.selects RX1 yX1_given yX1_given]
def wsX4_digest_r2 : List Cond := [Cond.code yX1_given cX1_given 4 (some .int), Cond.fieldLink RX1 18 "SedgeBarges$Beds" "age" "[I", Cond.fieldLink RX1 15 "SedgeBarges$Beds" "size" "[I", Cond.methodLink RX3 112 yX1_untiedOfAll, Cond.instanceMethod yX1_untiedOfAll, Cond.selects RX1 yX1_untiedOfAll yX1_untiedOfAll, Cond.code yX1_untiedOfAll cX1_untiedOfAll 3 (some .int), Cond.fieldLink RX1 24 "SedgeBarges$Beds" "untiedSedge" "[I", Cond.fieldLink RX1 27 "SedgeBarges$Beds" "untiedReed" "[I", Cond.methodLink RX3 115 yX1_tiedOfAll, Cond.instanceMethod yX1_tiedOfAll, Cond.selects RX1 yX1_tiedOfAll yX1_tiedOfAll, Cond.code yX1_tiedOfAll cX1_tiedOfAll 3 (some .int), Cond.fieldLink RX1 30 "SedgeBarges$Beds" "tiedSedge" "[I", Cond.fieldLink RX1 33 "SedgeBarges$Beds" "tiedReed" "[I", Cond.methodLink RX3 119 yX0_aboardAll, Cond.instanceMethod yX0_aboardAll, Cond.selects RX0 yX0_aboardAll yX0_aboardAll, Cond.initialized RX0, Cond.code yX0_aboardAll cX0_aboardAll 3 (some .int), Cond.fieldLink RX0 27 "SedgeBarges$Barges" "number" "I", Cond.methodLink RX0 47 yX0_aboard, Cond.instanceMethod yX0_aboard, Cond.selects RX0 yX0_aboard yX0_aboard]
def wsX4_digest_r3 : List Cond := [Cond.code yX0_aboard cX0_aboard 2 (some .int), Cond.fieldLink RX0 18 "SedgeBarges$Barges" "sedge" "[I", Cond.fieldLink RX0 21 "SedgeBarges$Barges" "reed" "[I", Cond.methodLink RX3 122 yX2_storeOfAll, Cond.instanceMethod yX2_storeOfAll, Cond.selects RX2 yX2_storeOfAll yX2_storeOfAll, Cond.initialized RX2, Cond.code yX2_storeOfAll cX2_storeOfAll 3 (some .int), Cond.fieldLink RX2 9 "SedgeBarges$Landings" "store" "[I", Cond.methodLink RX4 86 yX1_tell, Cond.instanceMethod yX1_tell, Cond.selects RX1 yX1_tell yX1_tell, Cond.code yX1_tell cX1_tell 3 (some .int), Cond.fieldLink RX1 9 "SedgeBarges$Beds" "place" "[I", Cond.fieldLink RX1 21 "SedgeBarges$Beds" "sedge" "[I", Cond.methodLink RX1 50 yX1_sedgeGiven, Cond.instanceMethod yX1_sedgeGiven, Cond.selects RX1 yX1_sedgeGiven yX1_sedgeGiven, Cond.code yX1_sedgeGiven cX1_sedgeGiven 2 (some .int), Cond.methodLink RX4 133 yX0_tell, Cond.instanceMethod yX0_tell, Cond.selects RX0 yX0_tell yX0_tell, Cond.code yX0_tell cX0_tell 3 (some .int), Cond.fieldLink RX0 9 "SedgeBarges$Barges" "place" "[I"]
def wsX4_digest_r4 : List Cond := [Cond.fieldLink RX0 15 "SedgeBarges$Barges" "goal" "[I", Cond.fieldLink RX0 24 "SedgeBarges$Barges" "brought" "[I", Cond.static yX4_landingAt, Cond.initialized RX4, Cond.code yX4_landingAt cX4_landingAt 2 (some .int), Cond.fieldLink RX4 147 "SedgeBarges" "LANDING_PLACE" "[I", Cond.methodLink RX4 141 yX2_tell, Cond.instanceMethod yX2_tell, Cond.selects RX2 yX2_tell yX2_tell, Cond.code yX2_tell cX2_tell 3 (some .int), Cond.methodLink RX2 24 yX2_sedgePrice, Cond.instanceMethod yX2_sedgePrice, Cond.selects RX2 yX2_sedgePrice yX2_sedgePrice, Cond.code yX2_sedgePrice cX2_sedgePrice 2 (some .int), Cond.methodLink RX2 18 Lib.Math.max.name, Cond.static Lib.Math.max.name, Cond.initialized "java/lang/Math", Cond.code Lib.Math.max.name Lib.Math.max.code 2 (some .int), Cond.methodLink RX2 34 yX2_reedPrice, Cond.instanceMethod yX2_reedPrice, Cond.selects RX2 yX2_reedPrice yX2_reedPrice, Cond.code yX2_reedPrice cX2_reedPrice 2 (some .int)]
def wsX4_digest : List Cond := .code yX4_digest cX4_digest 5 (some .long) :: ((wsX4_digest_r1 ++ (wsX4_digest_r2 ++ (wsX4_digest_r3 ++ wsX4_digest_r4))) ++ wsX40 ++ wsX30 ++ wsX10 ++ wsX00 ++ wsX20)
def wsX5_init : List Cond := .code yX5_init cX5_init 1 none :: ([.methodLink RX5 1 objectInit, .instanceMethod objectInit, .code objectInit ⟨#[0xb1]⟩ 1 none, .fieldLink RX5 7 "SedgeBargesModel" "coins" "I", .fieldLink RX5 13 "SedgeBargesModel" "ties" "I", .arrayClass .int, .fieldLink RX5 16 "SedgeBargesModel" "b" "[I", .fieldLink RX5 20 "SedgeBargesModel" "g" "[I", .fieldLink RX5 23 "SedgeBargesModel" "store" "[I", .fieldLink RX5 26 "SedgeBargesModel" "bAhead" "[I", .fieldLink RX5 29 "SedgeBargesModel" "gAhead" "[I", .fieldLink RX5 32 "SedgeBargesModel" "storeAhead" "[I", .fieldLink RX5 35 "SedgeBargesModel" "more" "[I"] ++ wsX50)
def wsX5_thrown : List Cond := .code yX5_thrown cX5_thrown 1 (some .int) :: ([.fieldLink RX5 38 "SedgeBargesModel" "thrown" "I"] ++ wsX50)
def wsX5_no : List Cond := .code yX5_no cX5_no 2 (some .int) :: ([.fieldLink RX5 38 "SedgeBargesModel" "thrown" "I"] ++ wsX50)
def wsX5_isIn : List Cond := .code yX5_isIn cX5_isIn 3 (some .boolean) :: ([])
def wsX5_isBed : List Cond := .code yX5_isBed cX5_isBed 2 (some .boolean) :: ([.fieldLink RX5 41 "SedgeBargesModel" "beds" "I", .methodLink RX5 44 yX5_isIn, .static yX5_isIn, .initialized RX5, .code yX5_isIn cX5_isIn 3 (some .boolean)] ++ wsX50)
def wsX5_isBarge : List Cond := .code yX5_isBarge cX5_isBarge 2 (some .boolean) :: ([.fieldLink RX5 48 "SedgeBargesModel" "barges" "I", .methodLink RX5 44 yX5_isIn, .static yX5_isIn, .initialized RX5, .code yX5_isIn cX5_isIn 3 (some .boolean)] ++ wsX50)
def wsX5_gives : List Cond := .code yX5_gives cX5_gives 2 (some .int) :: ([.fieldLink RX5 51 "SedgeBargesModel" "GROWTH" "[I"])
def wsX5_givesSedge : List Cond := .code yX5_givesSedge cX5_givesSedge 2 (some .int) :: ([.methodLink RX5 54 yX5_gives, .static yX5_gives, .initialized RX5, .code yX5_gives cX5_gives 2 (some .int), .fieldLink RX5 51 "SedgeBargesModel" "GROWTH" "[I"])
def wsX5_bed : List Cond := .code yX5_bed cX5_bed 5 (some .int) :: ([.fieldLink RX5 38 "SedgeBargesModel" "thrown" "I", .fieldLink RX5 41 "SedgeBargesModel" "beds" "I", .fieldLink RX5 16 "SedgeBargesModel" "b" "[I", .methodLink RX5 44 yX5_isIn, .static yX5_isIn, .initialized RX5, .code yX5_isIn cX5_isIn 3 (some .boolean), .methodLink RX5 58 yX5_no, .instanceMethod yX5_no, .selects RX5 yX5_no yX5_no, .code yX5_no cX5_no 2 (some .int)] ++ wsX50)
def wsX5_cut : List Cond := .code yX5_cut cX5_cut 5 (some .int) :: ([.fieldLink RX5 38 "SedgeBargesModel" "thrown" "I", .fieldLink RX5 16 "SedgeBargesModel" "b" "[I", .methodLink RX5 62 yX5_isBed, .instanceMethod yX5_isBed, .selects RX5 yX5_isBed yX5_isBed, .initialized RX5, .code yX5_isBed cX5_isBed 2 (some .boolean), .fieldLink RX5 41 "SedgeBargesModel" "beds" "I", .methodLink RX5 44 yX5_isIn, .static yX5_isIn, .code yX5_isIn cX5_isIn 3 (some .boolean), .methodLink RX5 58 yX5_no, .instanceMethod yX5_no, .selects RX5 yX5_no yX5_no, .code yX5_no cX5_no 2 (some .int), .methodLink RX5 54 yX5_gives, .static yX5_gives, .code yX5_gives cX5_gives 2 (some .int), .fieldLink RX5 51 "SedgeBargesModel" "GROWTH" "[I", .methodLink RX5 66 yX5_givesSedge, .static yX5_givesSedge, .code yX5_givesSedge cX5_givesSedge 2 (some .int)] ++ wsX50)
def wsX5_tieOf : List Cond := .code yX5_tieOf cX5_tieOf 4 (some .int) :: ([.fieldLink RX5 13 "SedgeBargesModel" "ties" "I", .fieldLink RX5 16 "SedgeBargesModel" "b" "[I", .methodLink RX5 73 Lib.Math.min.name, .static Lib.Math.min.name, .initialized "java/lang/Math", .code Lib.Math.min.name Lib.Math.min.code 2 (some .int)] ++ wsX50)
def wsX5_tie : List Cond := .code yX5_tie cX5_tie 2 (some .int) :: ([.fieldLink RX5 38 "SedgeBargesModel" "thrown" "I", .methodLink RX5 62 yX5_isBed, .instanceMethod yX5_isBed, .selects RX5 yX5_isBed yX5_isBed, .initialized RX5, .code yX5_isBed cX5_isBed 2 (some .boolean), .fieldLink RX5 41 "SedgeBargesModel" "beds" "I", .methodLink RX5 44 yX5_isIn, .static yX5_isIn, .code yX5_isIn cX5_isIn 3 (some .boolean), .methodLink RX5 69 yX5_tieOf, .instanceMethod yX5_tieOf, .selects RX5 yX5_tieOf yX5_tieOf, .code yX5_tieOf cX5_tieOf 4 (some .int), .fieldLink RX5 13 "SedgeBargesModel" "ties" "I", .fieldLink RX5 16 "SedgeBargesModel" "b" "[I", .methodLink RX5 73 Lib.Math.min.name, .static Lib.Math.min.name, .initialized "java/lang/Math", .code Lib.Math.min.name Lib.Math.min.code 2 (some .int), .methodLink RX5 58 yX5_no, .instanceMethod yX5_no, .selects RX5 yX5_no yX5_no, .code yX5_no cX5_no 2 (some .int)] ++ wsX50)
def wsX5_buy : List Cond := .code yX5_buy cX5_buy 2 (some .int) :: ([.fieldLink RX5 38 "SedgeBargesModel" "thrown" "I", .fieldLink RX5 7 "SedgeBargesModel" "coins" "I", .fieldLink RX5 13 "SedgeBargesModel" "ties" "I", .methodLink RX5 44 yX5_isIn, .static yX5_isIn, .initialized RX5, .code yX5_isIn cX5_isIn 3 (some .boolean), .methodLink RX5 58 yX5_no, .instanceMethod yX5_no, .selects RX5 yX5_no yX5_no, .code yX5_no cX5_no 2 (some .int)] ++ wsX50)
def wsX5_bedTold : List Cond := .code yX5_bedTold cX5_bedTold 4 (some .int) :: ([.fieldLink RX5 16 "SedgeBargesModel" "b" "[I", .methodLink RX5 54 yX5_gives, .static yX5_gives, .initialized RX5, .code yX5_gives cX5_gives 2 (some .int), .fieldLink RX5 51 "SedgeBargesModel" "GROWTH" "[I", .methodLink RX5 66 yX5_givesSedge, .static yX5_givesSedge, .code yX5_givesSedge cX5_givesSedge 2 (some .int)] ++ wsX50)
def wsX5_about_r1 : List Cond := [Cond.fieldLink RX5 38 "SedgeBargesModel" "thrown" "I", Cond.methodLink RX5 62 yX5_isBed, Cond.instanceMethod yX5_isBed, Cond.selects RX5 yX5_isBed yX5_isBed, Cond.initialized RX5, Cond.code yX5_isBed cX5_isBed 2 (some .boolean), Cond.fieldLink RX5 41 "SedgeBargesModel" "beds" "I", Cond.methodLink RX5 44 yX5_isIn, Cond.static yX5_isIn, Cond.code yX5_isIn cX5_isIn 3 (some .boolean), Cond.methodLink RX5 78 yX5_bedTold, Cond.instanceMethod yX5_bedTold, Cond.selects RX5 yX5_bedTold yX5_bedTold, Cond.code yX5_bedTold cX5_bedTold 4 (some .int), Cond.fieldLink RX5 16 "SedgeBargesModel" "b" "[I", Cond.methodLink RX5 54 yX5_gives, Cond.static yX5_gives, Cond.code yX5_gives cX5_gives 2 (some .int), Cond.fieldLink RX5 51 "SedgeBargesModel" "GROWTH" "[I", Cond.methodLink RX5 66 yX5_givesSedge, Cond.static yX5_givesSedge, Cond.code yX5_givesSedge cX5_givesSedge 2 (some .int), Cond.methodLink RX5 58 yX5_no, Cond.instanceMethod yX5_no]
def wsX5_about_r2 : List Cond := [Cond.selects RX5 yX5_no yX5_no, Cond.code yX5_no cX5_no 2 (some .int)]
def wsX5_about : List Cond := .code yX5_about cX5_about 3 (some .int) :: ((wsX5_about_r1 ++ wsX5_about_r2) ++ wsX50)
def wsX5_lookAhead : List Cond := .code yX5_lookAhead cX5_lookAhead 1 none :: ([.fieldLink RX5 16 "SedgeBargesModel" "b" "[I", .fieldLink RX5 26 "SedgeBargesModel" "bAhead" "[I", .methodLink RX5 158 arraycopyName, .native arraycopyName, .static arraycopyName, .initialized "java/lang/System", .fieldLink RX5 20 "SedgeBargesModel" "g" "[I", .fieldLink RX5 29 "SedgeBargesModel" "gAhead" "[I", .fieldLink RX5 23 "SedgeBargesModel" "store" "[I", .fieldLink RX5 32 "SedgeBargesModel" "storeAhead" "[I"] ++ wsX50)
def wsX5_hasReedBeside : List Cond := .code yX5_hasReedBeside cX5_hasReedBeside 5 (some .boolean) :: ([.fieldLink RX5 41 "SedgeBargesModel" "beds" "I", .methodLink RX5 88 Lib.Math.abs.name, .static Lib.Math.abs.name, .initialized "java/lang/Math", .code Lib.Math.abs.name Lib.Math.abs.code 1 (some .int)] ++ wsX50)
def wsX5_endYear : List Cond := .code yX5_endYear cX5_endYear 4 none :: ([.fieldLink RX5 41 "SedgeBargesModel" "beds" "I", .fieldLink RX5 35 "SedgeBargesModel" "more" "[I", .methodLink RX5 73 Lib.Math.min.name, .static Lib.Math.min.name, .initialized "java/lang/Math", .code Lib.Math.min.name Lib.Math.min.code 2 (some .int), .methodLink RX5 110 Lib.Math.max.name, .static Lib.Math.max.name, .code Lib.Math.max.name Lib.Math.max.code 2 (some .int), .methodLink RX5 137 yX5_hasReedBeside, .instanceMethod yX5_hasReedBeside, .selects RX5 yX5_hasReedBeside yX5_hasReedBeside, .initialized RX5, .code yX5_hasReedBeside cX5_hasReedBeside 5 (some .boolean), .methodLink RX5 88 Lib.Math.abs.name, .static Lib.Math.abs.name, .code Lib.Math.abs.name Lib.Math.abs.code 1 (some .int)] ++ wsX50)
def wsX5_best_r1 : List Cond := [Cond.fieldLink RX5 38 "SedgeBargesModel" "thrown" "I", Cond.fieldLink RX5 26 "SedgeBargesModel" "bAhead" "[I", Cond.methodLink RX5 62 yX5_isBed, Cond.instanceMethod yX5_isBed, Cond.selects RX5 yX5_isBed yX5_isBed, Cond.initialized RX5, Cond.code yX5_isBed cX5_isBed 2 (some .boolean), Cond.fieldLink RX5 41 "SedgeBargesModel" "beds" "I", Cond.methodLink RX5 44 yX5_isIn, Cond.static yX5_isIn, Cond.code yX5_isIn cX5_isIn 3 (some .boolean), Cond.methodLink RX5 58 yX5_no, Cond.instanceMethod yX5_no, Cond.selects RX5 yX5_no yX5_no, Cond.code yX5_no cX5_no 2 (some .int), Cond.methodLink RX5 81 yX5_lookAhead, Cond.instanceMethod yX5_lookAhead, Cond.selects RX5 yX5_lookAhead yX5_lookAhead, Cond.code yX5_lookAhead cX5_lookAhead 1 none, Cond.fieldLink RX5 16 "SedgeBargesModel" "b" "[I", Cond.methodLink RX5 158 arraycopyName, Cond.native arraycopyName, Cond.static arraycopyName, Cond.initialized "java/lang/System"]
def wsX5_best_r2 : List Cond := [Cond.fieldLink RX5 20 "SedgeBargesModel" "g" "[I", Cond.fieldLink RX5 29 "SedgeBargesModel" "gAhead" "[I", Cond.fieldLink RX5 23 "SedgeBargesModel" "store" "[I", Cond.fieldLink RX5 32 "SedgeBargesModel" "storeAhead" "[I", Cond.methodLink RX5 66 yX5_givesSedge, Cond.static yX5_givesSedge, Cond.code yX5_givesSedge cX5_givesSedge 2 (some .int), Cond.methodLink RX5 54 yX5_gives, Cond.static yX5_gives, Cond.code yX5_gives cX5_gives 2 (some .int), Cond.fieldLink RX5 51 "SedgeBargesModel" "GROWTH" "[I", Cond.methodLink RX5 84 yX5_endYear, Cond.instanceMethod yX5_endYear, Cond.selects RX5 yX5_endYear yX5_endYear, Cond.code yX5_endYear cX5_endYear 4 none, Cond.fieldLink RX5 35 "SedgeBargesModel" "more" "[I", Cond.methodLink RX5 73 Lib.Math.min.name, Cond.static Lib.Math.min.name, Cond.initialized "java/lang/Math", Cond.code Lib.Math.min.name Lib.Math.min.code 2 (some .int), Cond.methodLink RX5 110 Lib.Math.max.name, Cond.static Lib.Math.max.name, Cond.code Lib.Math.max.name Lib.Math.max.code 2 (some .int), Cond.methodLink RX5 137 yX5_hasReedBeside]
def wsX5_best_r3 : List Cond := [Cond.instanceMethod yX5_hasReedBeside, Cond.selects RX5 yX5_hasReedBeside yX5_hasReedBeside, Cond.code yX5_hasReedBeside cX5_hasReedBeside 5 (some .boolean), Cond.methodLink RX5 88 Lib.Math.abs.name, Cond.static Lib.Math.abs.name, Cond.code Lib.Math.abs.name Lib.Math.abs.code 1 (some .int)]
def wsX5_best : List Cond := .code yX5_best cX5_best 6 (some .int) :: ((wsX5_best_r1 ++ (wsX5_best_r2 ++ wsX5_best_r3)) ++ wsX50)
def wsX5_barge : List Cond := .code yX5_barge cX5_barge 2 (some .int) :: ([.fieldLink RX5 38 "SedgeBargesModel" "thrown" "I", .fieldLink RX5 48 "SedgeBargesModel" "barges" "I", .fieldLink RX5 20 "SedgeBargesModel" "g" "[I", .methodLink RX5 44 yX5_isIn, .static yX5_isIn, .initialized RX5, .code yX5_isIn cX5_isIn 3 (some .boolean), .methodLink RX5 58 yX5_no, .instanceMethod yX5_no, .selects RX5 yX5_no yX5_no, .code yX5_no cX5_no 2 (some .int)] ++ wsX50)
def wsX5_days : List Cond := .code yX5_days cX5_days 2 (some .int) :: ([.methodLink RX5 88 Lib.Math.abs.name, .static Lib.Math.abs.name, .initialized "java/lang/Math", .code Lib.Math.abs.name Lib.Math.abs.code 1 (some .int)])
def wsX5_sail : List Cond := .code yX5_sail cX5_sail 4 (some .int) :: ([.fieldLink RX5 38 "SedgeBargesModel" "thrown" "I", .fieldLink RX5 20 "SedgeBargesModel" "g" "[I", .methodLink RX5 91 yX5_isBarge, .instanceMethod yX5_isBarge, .selects RX5 yX5_isBarge yX5_isBarge, .initialized RX5, .code yX5_isBarge cX5_isBarge 2 (some .boolean), .fieldLink RX5 48 "SedgeBargesModel" "barges" "I", .methodLink RX5 44 yX5_isIn, .static yX5_isIn, .code yX5_isIn cX5_isIn 3 (some .boolean), .methodLink RX5 58 yX5_no, .instanceMethod yX5_no, .selects RX5 yX5_no yX5_no, .code yX5_no cX5_no 2 (some .int), .methodLink RX5 94 yX5_days, .static yX5_days, .code yX5_days cX5_days 2 (some .int), .methodLink RX5 88 Lib.Math.abs.name, .static Lib.Math.abs.name, .initialized "java/lang/Math", .code Lib.Math.abs.name Lib.Math.abs.code 1 (some .int)] ++ wsX50)
def wsX5_aboard : List Cond := .code yX5_aboard cX5_aboard 2 (some .int) :: ([.fieldLink RX5 20 "SedgeBargesModel" "g" "[I"] ++ wsX50)
def wsX5_loadOf : List Cond := .code yX5_loadOf cX5_loadOf 5 (some .int) :: ([.fieldLink RX5 16 "SedgeBargesModel" "b" "[I", .methodLink RX5 73 Lib.Math.min.name, .static Lib.Math.min.name, .initialized "java/lang/Math", .code Lib.Math.min.name Lib.Math.min.code 2 (some .int), .fieldLink RX5 20 "SedgeBargesModel" "g" "[I", .methodLink RX5 101 yX5_aboard, .instanceMethod yX5_aboard, .selects RX5 yX5_aboard yX5_aboard, .initialized RX5, .code yX5_aboard cX5_aboard 2 (some .int)] ++ wsX50)
def wsX5_load_r1 : List Cond := [Cond.fieldLink RX5 38 "SedgeBargesModel" "thrown" "I", Cond.fieldLink RX5 20 "SedgeBargesModel" "g" "[I", Cond.fieldLink RX5 16 "SedgeBargesModel" "b" "[I", Cond.methodLink RX5 91 yX5_isBarge, Cond.instanceMethod yX5_isBarge, Cond.selects RX5 yX5_isBarge yX5_isBarge, Cond.initialized RX5, Cond.code yX5_isBarge cX5_isBarge 2 (some .boolean), Cond.fieldLink RX5 48 "SedgeBargesModel" "barges" "I", Cond.methodLink RX5 44 yX5_isIn, Cond.static yX5_isIn, Cond.code yX5_isIn cX5_isIn 3 (some .boolean), Cond.methodLink RX5 62 yX5_isBed, Cond.instanceMethod yX5_isBed, Cond.selects RX5 yX5_isBed yX5_isBed, Cond.code yX5_isBed cX5_isBed 2 (some .boolean), Cond.fieldLink RX5 41 "SedgeBargesModel" "beds" "I", Cond.methodLink RX5 58 yX5_no, Cond.instanceMethod yX5_no, Cond.selects RX5 yX5_no yX5_no, Cond.code yX5_no cX5_no 2 (some .int), Cond.methodLink RX5 97 yX5_loadOf, Cond.instanceMethod yX5_loadOf, Cond.selects RX5 yX5_loadOf yX5_loadOf]
def wsX5_load_r2 : List Cond := [Cond.code yX5_loadOf cX5_loadOf 5 (some .int), Cond.methodLink RX5 73 Lib.Math.min.name, Cond.static Lib.Math.min.name, Cond.initialized "java/lang/Math", Cond.code Lib.Math.min.name Lib.Math.min.code 2 (some .int), Cond.methodLink RX5 101 yX5_aboard, Cond.instanceMethod yX5_aboard, Cond.selects RX5 yX5_aboard yX5_aboard, Cond.code yX5_aboard cX5_aboard 2 (some .int)]
def wsX5_load : List Cond := .code yX5_load cX5_load 3 (some .int) :: ((wsX5_load_r1 ++ wsX5_load_r2) ++ wsX50)
def wsX5_landingAt : List Cond := .code yX5_landingAt cX5_landingAt 2 (some .int) :: ([.fieldLink RX5 104 "SedgeBargesModel" "LANDING" "[I"])
def wsX5_price : List Cond := .code yX5_price cX5_price 2 (some .int) :: ([.fieldLink RX5 107 "SedgeBargesModel" "WORTH" "[I", .methodLink RX5 110 Lib.Math.max.name, .static Lib.Math.max.name, .initialized "java/lang/Math", .code Lib.Math.max.name Lib.Math.max.code 2 (some .int)])
def wsX5_reedPrice : List Cond := .code yX5_reedPrice cX5_reedPrice 2 (some .int) :: ([.methodLink RX5 110 Lib.Math.max.name, .static Lib.Math.max.name, .initialized "java/lang/Math", .code Lib.Math.max.name Lib.Math.max.code 2 (some .int), .methodLink RX5 113 yX5_price, .static yX5_price, .initialized RX5, .code yX5_price cX5_price 2 (some .int), .fieldLink RX5 107 "SedgeBargesModel" "WORTH" "[I"])
def wsX5_brings : List Cond := .code yX5_brings cX5_brings 4 (some .int) :: ([.fieldLink RX5 20 "SedgeBargesModel" "g" "[I", .methodLink RX5 113 yX5_price, .static yX5_price, .initialized RX5, .code yX5_price cX5_price 2 (some .int), .fieldLink RX5 107 "SedgeBargesModel" "WORTH" "[I", .methodLink RX5 110 Lib.Math.max.name, .static Lib.Math.max.name, .initialized "java/lang/Math", .code Lib.Math.max.name Lib.Math.max.code 2 (some .int), .methodLink RX5 116 yX5_reedPrice, .static yX5_reedPrice, .code yX5_reedPrice cX5_reedPrice 2 (some .int)] ++ wsX50)
def wsX5_sell_r1 : List Cond := [Cond.fieldLink RX5 38 "SedgeBargesModel" "thrown" "I", Cond.fieldLink RX5 20 "SedgeBargesModel" "g" "[I", Cond.fieldLink RX5 23 "SedgeBargesModel" "store" "[I", Cond.fieldLink RX5 7 "SedgeBargesModel" "coins" "I", Cond.methodLink RX5 91 yX5_isBarge, Cond.instanceMethod yX5_isBarge, Cond.selects RX5 yX5_isBarge yX5_isBarge, Cond.initialized RX5, Cond.code yX5_isBarge cX5_isBarge 2 (some .boolean), Cond.fieldLink RX5 48 "SedgeBargesModel" "barges" "I", Cond.methodLink RX5 44 yX5_isIn, Cond.static yX5_isIn, Cond.code yX5_isIn cX5_isIn 3 (some .boolean), Cond.methodLink RX5 58 yX5_no, Cond.instanceMethod yX5_no, Cond.selects RX5 yX5_no yX5_no, Cond.code yX5_no cX5_no 2 (some .int), Cond.methodLink RX5 119 yX5_landingAt, Cond.static yX5_landingAt, Cond.code yX5_landingAt cX5_landingAt 2 (some .int), Cond.fieldLink RX5 104 "SedgeBargesModel" "LANDING" "[I", Cond.methodLink RX5 122 yX5_brings, Cond.instanceMethod yX5_brings, Cond.selects RX5 yX5_brings yX5_brings]
def wsX5_sell_r2 : List Cond := [Cond.code yX5_brings cX5_brings 4 (some .int), Cond.methodLink RX5 113 yX5_price, Cond.static yX5_price, Cond.code yX5_price cX5_price 2 (some .int), Cond.fieldLink RX5 107 "SedgeBargesModel" "WORTH" "[I", Cond.methodLink RX5 110 Lib.Math.max.name, Cond.static Lib.Math.max.name, Cond.initialized "java/lang/Math", Cond.code Lib.Math.max.name Lib.Math.max.code 2 (some .int), Cond.methodLink RX5 116 yX5_reedPrice, Cond.static yX5_reedPrice, Cond.code yX5_reedPrice cX5_reedPrice 2 (some .int), Cond.methodLink RX5 101 yX5_aboard, Cond.instanceMethod yX5_aboard, Cond.selects RX5 yX5_aboard yX5_aboard, Cond.code yX5_aboard cX5_aboard 2 (some .int)]
def wsX5_sell : List Cond := .code yX5_sell cX5_sell 5 (some .int) :: ((wsX5_sell_r1 ++ wsX5_sell_r2) ++ wsX50)
def wsX5_bargeTold : List Cond := .code yX5_bargeTold cX5_bargeTold 4 (some .int) :: ([.fieldLink RX5 20 "SedgeBargesModel" "g" "[I", .methodLink RX5 119 yX5_landingAt, .static yX5_landingAt, .initialized RX5, .code yX5_landingAt cX5_landingAt 2 (some .int), .fieldLink RX5 104 "SedgeBargesModel" "LANDING" "[I"] ++ wsX50)
def wsX5_told : List Cond := .code yX5_told cX5_told 3 (some .int) :: ([.fieldLink RX5 38 "SedgeBargesModel" "thrown" "I", .methodLink RX5 91 yX5_isBarge, .instanceMethod yX5_isBarge, .selects RX5 yX5_isBarge yX5_isBarge, .initialized RX5, .code yX5_isBarge cX5_isBarge 2 (some .boolean), .fieldLink RX5 48 "SedgeBargesModel" "barges" "I", .methodLink RX5 44 yX5_isIn, .static yX5_isIn, .code yX5_isIn cX5_isIn 3 (some .boolean), .methodLink RX5 125 yX5_bargeTold, .instanceMethod yX5_bargeTold, .selects RX5 yX5_bargeTold yX5_bargeTold, .code yX5_bargeTold cX5_bargeTold 4 (some .int), .fieldLink RX5 20 "SedgeBargesModel" "g" "[I", .methodLink RX5 119 yX5_landingAt, .static yX5_landingAt, .code yX5_landingAt cX5_landingAt 2 (some .int), .fieldLink RX5 104 "SedgeBargesModel" "LANDING" "[I", .methodLink RX5 58 yX5_no, .instanceMethod yX5_no, .selects RX5 yX5_no yX5_no, .code yX5_no cX5_no 2 (some .int)] ++ wsX50)
def wsX5_landingTold : List Cond := .code yX5_landingTold cX5_landingTold 3 (some .int) :: ([.fieldLink RX5 104 "SedgeBargesModel" "LANDING" "[I", .fieldLink RX5 23 "SedgeBargesModel" "store" "[I", .methodLink RX5 113 yX5_price, .static yX5_price, .initialized RX5, .code yX5_price cX5_price 2 (some .int), .fieldLink RX5 107 "SedgeBargesModel" "WORTH" "[I", .methodLink RX5 110 Lib.Math.max.name, .static Lib.Math.max.name, .initialized "java/lang/Math", .code Lib.Math.max.name Lib.Math.max.code 2 (some .int), .methodLink RX5 116 yX5_reedPrice, .static yX5_reedPrice, .code yX5_reedPrice cX5_reedPrice 2 (some .int)] ++ wsX50)
def wsX5_landing_r1 : List Cond := [Cond.fieldLink RX5 38 "SedgeBargesModel" "thrown" "I", Cond.methodLink RX5 44 yX5_isIn, Cond.static yX5_isIn, Cond.initialized RX5, Cond.code yX5_isIn cX5_isIn 3 (some .boolean), Cond.methodLink RX5 128 yX5_landingTold, Cond.instanceMethod yX5_landingTold, Cond.selects RX5 yX5_landingTold yX5_landingTold, Cond.code yX5_landingTold cX5_landingTold 3 (some .int), Cond.fieldLink RX5 104 "SedgeBargesModel" "LANDING" "[I", Cond.fieldLink RX5 23 "SedgeBargesModel" "store" "[I", Cond.methodLink RX5 113 yX5_price, Cond.static yX5_price, Cond.code yX5_price cX5_price 2 (some .int), Cond.fieldLink RX5 107 "SedgeBargesModel" "WORTH" "[I", Cond.methodLink RX5 110 Lib.Math.max.name, Cond.static Lib.Math.max.name, Cond.initialized "java/lang/Math", Cond.code Lib.Math.max.name Lib.Math.max.code 2 (some .int), Cond.methodLink RX5 116 yX5_reedPrice, Cond.static yX5_reedPrice, Cond.code yX5_reedPrice cX5_reedPrice 2 (some .int), Cond.methodLink RX5 58 yX5_no, Cond.instanceMethod yX5_no]
def wsX5_landing_r2 : List Cond := [Cond.selects RX5 yX5_no yX5_no, Cond.code yX5_no cX5_no 2 (some .int)]
def wsX5_landing : List Cond := .code yX5_landing cX5_landing 3 (some .int) :: ((wsX5_landing_r1 ++ wsX5_landing_r2) ++ wsX50)
def wsX5_left : List Cond := .code yX5_left cX5_left 1 (some .int) :: ([])
def wsX5_wouldBring_r1 : List Cond := [Cond.fieldLink RX5 23 "SedgeBargesModel" "store" "[I", Cond.fieldLink RX5 20 "SedgeBargesModel" "g" "[I", Cond.fieldLink RX5 104 "SedgeBargesModel" "LANDING" "[I", Cond.methodLink RX5 94 yX5_days, Cond.static yX5_days, Cond.initialized RX5, Cond.code yX5_days cX5_days 2 (some .int), Cond.methodLink RX5 88 Lib.Math.abs.name, Cond.static Lib.Math.abs.name, Cond.initialized "java/lang/Math", Cond.code Lib.Math.abs.name Lib.Math.abs.code 1 (some .int), Cond.methodLink RX5 131 yX5_left, Cond.static yX5_left, Cond.code yX5_left cX5_left 1 (some .int), Cond.methodLink RX5 122 yX5_brings, Cond.instanceMethod yX5_brings, Cond.selects RX5 yX5_brings yX5_brings, Cond.code yX5_brings cX5_brings 4 (some .int), Cond.methodLink RX5 113 yX5_price, Cond.static yX5_price, Cond.code yX5_price cX5_price 2 (some .int), Cond.fieldLink RX5 107 "SedgeBargesModel" "WORTH" "[I", Cond.methodLink RX5 110 Lib.Math.max.name, Cond.static Lib.Math.max.name]
def wsX5_wouldBring_r2 : List Cond := [Cond.code Lib.Math.max.name Lib.Math.max.code 2 (some .int), Cond.methodLink RX5 116 yX5_reedPrice, Cond.static yX5_reedPrice, Cond.code yX5_reedPrice cX5_reedPrice 2 (some .int)]
def wsX5_wouldBring : List Cond := .code yX5_wouldBring cX5_wouldBring 5 (some .int) :: ((wsX5_wouldBring_r1 ++ wsX5_wouldBring_r2) ++ wsX50)
def wsX5_would_r1 : List Cond := [Cond.fieldLink RX5 38 "SedgeBargesModel" "thrown" "I", Cond.methodLink RX5 91 yX5_isBarge, Cond.instanceMethod yX5_isBarge, Cond.selects RX5 yX5_isBarge yX5_isBarge, Cond.initialized RX5, Cond.code yX5_isBarge cX5_isBarge 2 (some .boolean), Cond.fieldLink RX5 48 "SedgeBargesModel" "barges" "I", Cond.methodLink RX5 44 yX5_isIn, Cond.static yX5_isIn, Cond.code yX5_isIn cX5_isIn 3 (some .boolean), Cond.methodLink RX5 134 yX5_wouldBring, Cond.instanceMethod yX5_wouldBring, Cond.selects RX5 yX5_wouldBring yX5_wouldBring, Cond.code yX5_wouldBring cX5_wouldBring 5 (some .int), Cond.fieldLink RX5 23 "SedgeBargesModel" "store" "[I", Cond.fieldLink RX5 20 "SedgeBargesModel" "g" "[I", Cond.fieldLink RX5 104 "SedgeBargesModel" "LANDING" "[I", Cond.methodLink RX5 94 yX5_days, Cond.static yX5_days, Cond.code yX5_days cX5_days 2 (some .int), Cond.methodLink RX5 88 Lib.Math.abs.name, Cond.static Lib.Math.abs.name, Cond.initialized "java/lang/Math", Cond.code Lib.Math.abs.name Lib.Math.abs.code 1 (some .int)]
def wsX5_would_r2 : List Cond := [Cond.methodLink RX5 131 yX5_left, Cond.static yX5_left, Cond.code yX5_left cX5_left 1 (some .int), Cond.methodLink RX5 122 yX5_brings, Cond.instanceMethod yX5_brings, Cond.selects RX5 yX5_brings yX5_brings, Cond.code yX5_brings cX5_brings 4 (some .int), Cond.methodLink RX5 113 yX5_price, Cond.static yX5_price, Cond.code yX5_price cX5_price 2 (some .int), Cond.fieldLink RX5 107 "SedgeBargesModel" "WORTH" "[I", Cond.methodLink RX5 110 Lib.Math.max.name, Cond.static Lib.Math.max.name, Cond.code Lib.Math.max.name Lib.Math.max.code 2 (some .int), Cond.methodLink RX5 116 yX5_reedPrice, Cond.static yX5_reedPrice, Cond.code yX5_reedPrice cX5_reedPrice 2 (some .int), Cond.methodLink RX5 58 yX5_no, Cond.instanceMethod yX5_no, Cond.selects RX5 yX5_no yX5_no, Cond.code yX5_no cX5_no 2 (some .int)]
def wsX5_would : List Cond := .code yX5_would cX5_would 3 (some .int) :: ((wsX5_would_r1 ++ wsX5_would_r2) ++ wsX50)
def wsX5_advise_r1 : List Cond := [Cond.fieldLink RX5 38 "SedgeBargesModel" "thrown" "I", Cond.methodLink RX5 91 yX5_isBarge, Cond.instanceMethod yX5_isBarge, Cond.selects RX5 yX5_isBarge yX5_isBarge, Cond.initialized RX5, Cond.code yX5_isBarge cX5_isBarge 2 (some .boolean), Cond.fieldLink RX5 48 "SedgeBargesModel" "barges" "I", Cond.methodLink RX5 44 yX5_isIn, Cond.static yX5_isIn, Cond.code yX5_isIn cX5_isIn 3 (some .boolean), Cond.methodLink RX5 58 yX5_no, Cond.instanceMethod yX5_no, Cond.selects RX5 yX5_no yX5_no, Cond.code yX5_no cX5_no 2 (some .int), Cond.methodLink RX5 134 yX5_wouldBring, Cond.instanceMethod yX5_wouldBring, Cond.selects RX5 yX5_wouldBring yX5_wouldBring, Cond.code yX5_wouldBring cX5_wouldBring 5 (some .int), Cond.fieldLink RX5 23 "SedgeBargesModel" "store" "[I", Cond.fieldLink RX5 20 "SedgeBargesModel" "g" "[I", Cond.fieldLink RX5 104 "SedgeBargesModel" "LANDING" "[I", Cond.methodLink RX5 94 yX5_days, Cond.static yX5_days, Cond.code yX5_days cX5_days 2 (some .int)]
def wsX5_advise_r2 : List Cond := [Cond.methodLink RX5 88 Lib.Math.abs.name, Cond.static Lib.Math.abs.name, Cond.initialized "java/lang/Math", Cond.code Lib.Math.abs.name Lib.Math.abs.code 1 (some .int), Cond.methodLink RX5 131 yX5_left, Cond.static yX5_left, Cond.code yX5_left cX5_left 1 (some .int), Cond.methodLink RX5 122 yX5_brings, Cond.instanceMethod yX5_brings, Cond.selects RX5 yX5_brings yX5_brings, Cond.code yX5_brings cX5_brings 4 (some .int), Cond.methodLink RX5 113 yX5_price, Cond.static yX5_price, Cond.code yX5_price cX5_price 2 (some .int), Cond.fieldLink RX5 107 "SedgeBargesModel" "WORTH" "[I", Cond.methodLink RX5 110 Lib.Math.max.name, Cond.static Lib.Math.max.name, Cond.code Lib.Math.max.name Lib.Math.max.code 2 (some .int), Cond.methodLink RX5 116 yX5_reedPrice, Cond.static yX5_reedPrice, Cond.code yX5_reedPrice cX5_reedPrice 2 (some .int)]
def wsX5_advise : List Cond := .code yX5_advise cX5_advise 4 (some .int) :: ((wsX5_advise_r1 ++ wsX5_advise_r2) ++ wsX50)
def wsX5_sailOn : List Cond := .code yX5_sailOn cX5_sailOn 5 none :: ([.methodLink RX5 73 Lib.Math.min.name, .static Lib.Math.min.name, .initialized "java/lang/Math", .code Lib.Math.min.name Lib.Math.min.code 2 (some .int), .methodLink RX5 110 Lib.Math.max.name, .static Lib.Math.max.name, .code Lib.Math.max.name Lib.Math.max.code 2 (some .int)])
def wsX5_rot : List Cond := .code yX5_rot cX5_rot 3 (some .int) :: ([])
def wsX5_pass_r1 : List Cond := [Cond.fieldLink RX5 48 "SedgeBargesModel" "barges" "I", Cond.fieldLink RX5 41 "SedgeBargesModel" "beds" "I", Cond.methodLink RX5 141 yX5_sailOn, Cond.instanceMethod yX5_sailOn, Cond.selects RX5 yX5_sailOn yX5_sailOn, Cond.initialized RX5, Cond.code yX5_sailOn cX5_sailOn 5 none, Cond.methodLink RX5 73 Lib.Math.min.name, Cond.static Lib.Math.min.name, Cond.initialized "java/lang/Math", Cond.code Lib.Math.min.name Lib.Math.min.code 2 (some .int), Cond.methodLink RX5 110 Lib.Math.max.name, Cond.static Lib.Math.max.name, Cond.code Lib.Math.max.name Lib.Math.max.code 2 (some .int), Cond.methodLink RX5 145 yX5_rot, Cond.static yX5_rot, Cond.code yX5_rot cX5_rot 3 (some .int), Cond.methodLink RX5 131 yX5_left, Cond.static yX5_left, Cond.code yX5_left cX5_left 1 (some .int), Cond.methodLink RX5 84 yX5_endYear, Cond.instanceMethod yX5_endYear, Cond.selects RX5 yX5_endYear yX5_endYear, Cond.code yX5_endYear cX5_endYear 4 none]
def wsX5_pass_r2 : List Cond := [Cond.fieldLink RX5 35 "SedgeBargesModel" "more" "[I", Cond.methodLink RX5 137 yX5_hasReedBeside, Cond.instanceMethod yX5_hasReedBeside, Cond.selects RX5 yX5_hasReedBeside yX5_hasReedBeside, Cond.code yX5_hasReedBeside cX5_hasReedBeside 5 (some .boolean), Cond.methodLink RX5 88 Lib.Math.abs.name, Cond.static Lib.Math.abs.name, Cond.code Lib.Math.abs.name Lib.Math.abs.code 1 (some .int)]
def wsX5_pass : List Cond := .code yX5_pass cX5_pass 7 (some .int) :: ((wsX5_pass_r1 ++ wsX5_pass_r2) ++ wsX50)
def wsX5_pass__r1 : List Cond := [Cond.fieldLink RX5 38 "SedgeBargesModel" "thrown" "I", Cond.fieldLink RX5 16 "SedgeBargesModel" "b" "[I", Cond.fieldLink RX5 20 "SedgeBargesModel" "g" "[I", Cond.fieldLink RX5 23 "SedgeBargesModel" "store" "[I", Cond.fieldLink RX5 148 "SedgeBargesModel" "day" "I", Cond.fieldLink RX5 155 "SedgeBargesModel" "rotted" "I", Cond.methodLink RX5 44 yX5_isIn, Cond.static yX5_isIn, Cond.initialized RX5, Cond.code yX5_isIn cX5_isIn 3 (some .boolean), Cond.methodLink RX5 58 yX5_no, Cond.instanceMethod yX5_no, Cond.selects RX5 yX5_no yX5_no, Cond.code yX5_no cX5_no 2 (some .int), Cond.methodLink RX5 151 yX5_pass, Cond.instanceMethod yX5_pass, Cond.selects RX5 yX5_pass yX5_pass, Cond.code yX5_pass cX5_pass 7 (some .int), Cond.fieldLink RX5 48 "SedgeBargesModel" "barges" "I", Cond.fieldLink RX5 41 "SedgeBargesModel" "beds" "I", Cond.methodLink RX5 141 yX5_sailOn, Cond.instanceMethod yX5_sailOn, Cond.selects RX5 yX5_sailOn yX5_sailOn, Cond.code yX5_sailOn cX5_sailOn 5 none]
def wsX5_pass__r2 : List Cond := [Cond.methodLink RX5 73 Lib.Math.min.name, Cond.static Lib.Math.min.name, Cond.initialized "java/lang/Math", Cond.code Lib.Math.min.name Lib.Math.min.code 2 (some .int), Cond.methodLink RX5 110 Lib.Math.max.name, Cond.static Lib.Math.max.name, Cond.code Lib.Math.max.name Lib.Math.max.code 2 (some .int), Cond.methodLink RX5 145 yX5_rot, Cond.static yX5_rot, Cond.code yX5_rot cX5_rot 3 (some .int), Cond.methodLink RX5 131 yX5_left, Cond.static yX5_left, Cond.code yX5_left cX5_left 1 (some .int), Cond.methodLink RX5 84 yX5_endYear, Cond.instanceMethod yX5_endYear, Cond.selects RX5 yX5_endYear yX5_endYear, Cond.code yX5_endYear cX5_endYear 4 none, Cond.fieldLink RX5 35 "SedgeBargesModel" "more" "[I", Cond.methodLink RX5 137 yX5_hasReedBeside, Cond.instanceMethod yX5_hasReedBeside, Cond.selects RX5 yX5_hasReedBeside yX5_hasReedBeside, Cond.code yX5_hasReedBeside cX5_hasReedBeside 5 (some .boolean), Cond.methodLink RX5 88 Lib.Math.abs.name, Cond.static Lib.Math.abs.name]
def wsX5_pass__r3 : List Cond := [Cond.code Lib.Math.abs.name Lib.Math.abs.code 1 (some .int)]
def wsX5_pass_ : List Cond := .code yX5_pass_ cX5_pass_ 4 (some .int) :: ((wsX5_pass__r1 ++ (wsX5_pass__r2 ++ wsX5_pass__r3)) ++ wsX50)
def wsX5_sum : List Cond := .code yX5_sum cX5_sum 5 (some .int) :: ([.fieldLink RX5 41 "SedgeBargesModel" "beds" "I"] ++ wsX50)
def wsX5_giveAll : List Cond := .code yX5_giveAll cX5_giveAll 4 (some .int) :: ([.fieldLink RX5 41 "SedgeBargesModel" "beds" "I", .methodLink RX5 54 yX5_gives, .static yX5_gives, .initialized RX5, .code yX5_gives cX5_gives 2 (some .int), .fieldLink RX5 51 "SedgeBargesModel" "GROWTH" "[I"] ++ wsX50)
def wsX5_aboardAll : List Cond := .code yX5_aboardAll cX5_aboardAll 3 (some .int) :: ([.fieldLink RX5 48 "SedgeBargesModel" "barges" "I", .methodLink RX5 101 yX5_aboard, .instanceMethod yX5_aboard, .selects RX5 yX5_aboard yX5_aboard, .initialized RX5, .code yX5_aboard cX5_aboard 2 (some .int), .fieldLink RX5 20 "SedgeBargesModel" "g" "[I"] ++ wsX50)
def wsX5_summed : List Cond := .code yX5_summed cX5_summed 5 (some .int) :: ([.methodLink RX5 164 yX5_giveAll, .instanceMethod yX5_giveAll, .selects RX5 yX5_giveAll yX5_giveAll, .initialized RX5, .code yX5_giveAll cX5_giveAll 4 (some .int), .fieldLink RX5 41 "SedgeBargesModel" "beds" "I", .methodLink RX5 54 yX5_gives, .static yX5_gives, .code yX5_gives cX5_gives 2 (some .int), .fieldLink RX5 51 "SedgeBargesModel" "GROWTH" "[I", .methodLink RX5 168 yX5_sum, .instanceMethod yX5_sum, .selects RX5 yX5_sum yX5_sum, .code yX5_sum cX5_sum 5 (some .int)] ++ wsX50)
def wsX5_counted_r1 : List Cond := [Cond.fieldLink RX5 148 "SedgeBargesModel" "day" "I", Cond.fieldLink RX5 7 "SedgeBargesModel" "coins" "I", Cond.fieldLink RX5 13 "SedgeBargesModel" "ties" "I", Cond.fieldLink RX5 41 "SedgeBargesModel" "beds" "I", Cond.fieldLink RX5 16 "SedgeBargesModel" "b" "[I", Cond.fieldLink RX5 48 "SedgeBargesModel" "barges" "I", Cond.fieldLink RX5 23 "SedgeBargesModel" "store" "[I", Cond.fieldLink RX5 155 "SedgeBargesModel" "rotted" "I", Cond.methodLink RX5 168 yX5_sum, Cond.instanceMethod yX5_sum, Cond.selects RX5 yX5_sum yX5_sum, Cond.initialized RX5, Cond.code yX5_sum cX5_sum 5 (some .int), Cond.methodLink RX5 171 yX5_aboardAll, Cond.instanceMethod yX5_aboardAll, Cond.selects RX5 yX5_aboardAll yX5_aboardAll, Cond.code yX5_aboardAll cX5_aboardAll 3 (some .int), Cond.methodLink RX5 101 yX5_aboard, Cond.instanceMethod yX5_aboard, Cond.selects RX5 yX5_aboard yX5_aboard, Cond.code yX5_aboard cX5_aboard 2 (some .int), Cond.fieldLink RX5 20 "SedgeBargesModel" "g" "[I", Cond.methodLink RX5 175 yX5_summed, Cond.instanceMethod yX5_summed]
def wsX5_counted_r2 : List Cond := [Cond.selects RX5 yX5_summed yX5_summed, Cond.code yX5_summed cX5_summed 5 (some .int), Cond.methodLink RX5 164 yX5_giveAll, Cond.instanceMethod yX5_giveAll, Cond.selects RX5 yX5_giveAll yX5_giveAll, Cond.code yX5_giveAll cX5_giveAll 4 (some .int), Cond.methodLink RX5 54 yX5_gives, Cond.static yX5_gives, Cond.code yX5_gives cX5_gives 2 (some .int), Cond.fieldLink RX5 51 "SedgeBargesModel" "GROWTH" "[I"]
def wsX5_counted : List Cond := .code yX5_counted cX5_counted 2 (some .int) :: ((wsX5_counted_r1 ++ wsX5_counted_r2) ++ wsX50)
def wsX5_count_r1 : List Cond := [Cond.fieldLink RX5 38 "SedgeBargesModel" "thrown" "I", Cond.methodLink RX5 44 yX5_isIn, Cond.static yX5_isIn, Cond.initialized RX5, Cond.code yX5_isIn cX5_isIn 3 (some .boolean), Cond.methodLink RX5 179 yX5_counted, Cond.instanceMethod yX5_counted, Cond.selects RX5 yX5_counted yX5_counted, Cond.code yX5_counted cX5_counted 2 (some .int), Cond.fieldLink RX5 148 "SedgeBargesModel" "day" "I", Cond.fieldLink RX5 7 "SedgeBargesModel" "coins" "I", Cond.fieldLink RX5 13 "SedgeBargesModel" "ties" "I", Cond.fieldLink RX5 41 "SedgeBargesModel" "beds" "I", Cond.fieldLink RX5 16 "SedgeBargesModel" "b" "[I", Cond.fieldLink RX5 48 "SedgeBargesModel" "barges" "I", Cond.fieldLink RX5 23 "SedgeBargesModel" "store" "[I", Cond.fieldLink RX5 155 "SedgeBargesModel" "rotted" "I", Cond.methodLink RX5 168 yX5_sum, Cond.instanceMethod yX5_sum, Cond.selects RX5 yX5_sum yX5_sum, Cond.code yX5_sum cX5_sum 5 (some .int), Cond.methodLink RX5 171 yX5_aboardAll, Cond.instanceMethod yX5_aboardAll, Cond.selects RX5 yX5_aboardAll yX5_aboardAll]
def wsX5_count_r2 : List Cond := [Cond.code yX5_aboardAll cX5_aboardAll 3 (some .int), Cond.methodLink RX5 101 yX5_aboard, Cond.instanceMethod yX5_aboard, Cond.selects RX5 yX5_aboard yX5_aboard, Cond.code yX5_aboard cX5_aboard 2 (some .int), Cond.fieldLink RX5 20 "SedgeBargesModel" "g" "[I", Cond.methodLink RX5 175 yX5_summed, Cond.instanceMethod yX5_summed, Cond.selects RX5 yX5_summed yX5_summed, Cond.code yX5_summed cX5_summed 5 (some .int), Cond.methodLink RX5 164 yX5_giveAll, Cond.instanceMethod yX5_giveAll, Cond.selects RX5 yX5_giveAll yX5_giveAll, Cond.code yX5_giveAll cX5_giveAll 4 (some .int), Cond.methodLink RX5 54 yX5_gives, Cond.static yX5_gives, Cond.code yX5_gives cX5_gives 2 (some .int), Cond.fieldLink RX5 51 "SedgeBargesModel" "GROWTH" "[I", Cond.methodLink RX5 58 yX5_no, Cond.instanceMethod yX5_no, Cond.selects RX5 yX5_no yX5_no, Cond.code yX5_no cX5_no 2 (some .int)]
def wsX5_count : List Cond := .code yX5_count cX5_count 2 (some .int) :: ((wsX5_count_r1 ++ wsX5_count_r2) ++ wsX50)
def wsX5_foresee_r1 : List Cond := [Cond.fieldLink RX5 38 "SedgeBargesModel" "thrown" "I", Cond.fieldLink RX5 155 "SedgeBargesModel" "rotted" "I", Cond.fieldLink RX5 26 "SedgeBargesModel" "bAhead" "[I", Cond.fieldLink RX5 29 "SedgeBargesModel" "gAhead" "[I", Cond.fieldLink RX5 32 "SedgeBargesModel" "storeAhead" "[I", Cond.fieldLink RX5 148 "SedgeBargesModel" "day" "I", Cond.methodLink RX5 44 yX5_isIn, Cond.static yX5_isIn, Cond.initialized RX5, Cond.code yX5_isIn cX5_isIn 3 (some .boolean), Cond.methodLink RX5 58 yX5_no, Cond.instanceMethod yX5_no, Cond.selects RX5 yX5_no yX5_no, Cond.code yX5_no cX5_no 2 (some .int), Cond.methodLink RX5 81 yX5_lookAhead, Cond.instanceMethod yX5_lookAhead, Cond.selects RX5 yX5_lookAhead yX5_lookAhead, Cond.code yX5_lookAhead cX5_lookAhead 1 none, Cond.fieldLink RX5 16 "SedgeBargesModel" "b" "[I", Cond.methodLink RX5 158 arraycopyName, Cond.native arraycopyName, Cond.static arraycopyName, Cond.initialized "java/lang/System", Cond.fieldLink RX5 20 "SedgeBargesModel" "g" "[I"]
def wsX5_foresee_r2 : List Cond := [Cond.fieldLink RX5 23 "SedgeBargesModel" "store" "[I", Cond.methodLink RX5 151 yX5_pass, Cond.instanceMethod yX5_pass, Cond.selects RX5 yX5_pass yX5_pass, Cond.code yX5_pass cX5_pass 7 (some .int), Cond.fieldLink RX5 48 "SedgeBargesModel" "barges" "I", Cond.fieldLink RX5 41 "SedgeBargesModel" "beds" "I", Cond.methodLink RX5 141 yX5_sailOn, Cond.instanceMethod yX5_sailOn, Cond.selects RX5 yX5_sailOn yX5_sailOn, Cond.code yX5_sailOn cX5_sailOn 5 none, Cond.methodLink RX5 73 Lib.Math.min.name, Cond.static Lib.Math.min.name, Cond.initialized "java/lang/Math", Cond.code Lib.Math.min.name Lib.Math.min.code 2 (some .int), Cond.methodLink RX5 110 Lib.Math.max.name, Cond.static Lib.Math.max.name, Cond.code Lib.Math.max.name Lib.Math.max.code 2 (some .int), Cond.methodLink RX5 145 yX5_rot, Cond.static yX5_rot, Cond.code yX5_rot cX5_rot 3 (some .int), Cond.methodLink RX5 131 yX5_left, Cond.static yX5_left, Cond.code yX5_left cX5_left 1 (some .int)]
def wsX5_foresee_r3 : List Cond := [Cond.methodLink RX5 84 yX5_endYear, Cond.instanceMethod yX5_endYear, Cond.selects RX5 yX5_endYear yX5_endYear, Cond.code yX5_endYear cX5_endYear 4 none, Cond.fieldLink RX5 35 "SedgeBargesModel" "more" "[I", Cond.methodLink RX5 137 yX5_hasReedBeside, Cond.instanceMethod yX5_hasReedBeside, Cond.selects RX5 yX5_hasReedBeside yX5_hasReedBeside, Cond.code yX5_hasReedBeside cX5_hasReedBeside 5 (some .boolean), Cond.methodLink RX5 88 Lib.Math.abs.name, Cond.static Lib.Math.abs.name, Cond.code Lib.Math.abs.name Lib.Math.abs.code 1 (some .int), Cond.methodLink RX5 175 yX5_summed, Cond.instanceMethod yX5_summed, Cond.selects RX5 yX5_summed yX5_summed, Cond.code yX5_summed cX5_summed 5 (some .int), Cond.methodLink RX5 164 yX5_giveAll, Cond.instanceMethod yX5_giveAll, Cond.selects RX5 yX5_giveAll yX5_giveAll, Cond.code yX5_giveAll cX5_giveAll 4 (some .int), Cond.methodLink RX5 54 yX5_gives, Cond.static yX5_gives, Cond.code yX5_gives cX5_gives 2 (some .int), Cond.fieldLink RX5 51 "SedgeBargesModel" "GROWTH" "[I"]
def wsX5_foresee_r4 : List Cond := [Cond.methodLink RX5 168 yX5_sum, Cond.instanceMethod yX5_sum, Cond.selects RX5 yX5_sum yX5_sum, Cond.code yX5_sum cX5_sum 5 (some .int)]
def wsX5_foresee : List Cond := .code yX5_foresee cX5_foresee 5 (some .int) :: ((wsX5_foresee_r1 ++ (wsX5_foresee_r2 ++ (wsX5_foresee_r3 ++ wsX5_foresee_r4))) ++ wsX50)
def wsX5_mean : List Cond := .code yX5_mean cX5_mean 1 (some .double) :: ([.fieldLink RX5 38 "SedgeBargesModel" "thrown" "I", .fieldLink RX5 41 "SedgeBargesModel" "beds" "I", .fieldLink RX5 16 "SedgeBargesModel" "b" "[I", .methodLink RX5 168 yX5_sum, .instanceMethod yX5_sum, .selects RX5 yX5_sum yX5_sum, .initialized RX5, .code yX5_sum cX5_sum 5 (some .int)] ++ wsX50)
def wsX5_digest_r1 : List Cond := [Cond.fieldLink RX5 38 "SedgeBargesModel" "thrown" "I", Cond.constantLong RX5 182 (1277), Cond.constantLong RX5 184 (31), Cond.fieldLink RX5 41 "SedgeBargesModel" "beds" "I", Cond.fieldLink RX5 48 "SedgeBargesModel" "barges" "I", Cond.methodLink RX5 179 yX5_counted, Cond.instanceMethod yX5_counted, Cond.selects RX5 yX5_counted yX5_counted, Cond.initialized RX5, Cond.code yX5_counted cX5_counted 2 (some .int), Cond.fieldLink RX5 148 "SedgeBargesModel" "day" "I", Cond.fieldLink RX5 7 "SedgeBargesModel" "coins" "I", Cond.fieldLink RX5 13 "SedgeBargesModel" "ties" "I", Cond.fieldLink RX5 16 "SedgeBargesModel" "b" "[I", Cond.fieldLink RX5 23 "SedgeBargesModel" "store" "[I", Cond.fieldLink RX5 155 "SedgeBargesModel" "rotted" "I", Cond.methodLink RX5 168 yX5_sum, Cond.instanceMethod yX5_sum, Cond.selects RX5 yX5_sum yX5_sum, Cond.code yX5_sum cX5_sum 5 (some .int), Cond.methodLink RX5 171 yX5_aboardAll, Cond.instanceMethod yX5_aboardAll, Cond.selects RX5 yX5_aboardAll yX5_aboardAll, Cond.code yX5_aboardAll cX5_aboardAll 3 (some .int)]
def wsX5_digest_r2 : List Cond := [Cond.methodLink RX5 101 yX5_aboard, Cond.instanceMethod yX5_aboard, Cond.selects RX5 yX5_aboard yX5_aboard, Cond.code yX5_aboard cX5_aboard 2 (some .int), Cond.fieldLink RX5 20 "SedgeBargesModel" "g" "[I", Cond.methodLink RX5 175 yX5_summed, Cond.instanceMethod yX5_summed, Cond.selects RX5 yX5_summed yX5_summed, Cond.code yX5_summed cX5_summed 5 (some .int), Cond.methodLink RX5 164 yX5_giveAll, Cond.instanceMethod yX5_giveAll, Cond.selects RX5 yX5_giveAll yX5_giveAll, Cond.code yX5_giveAll cX5_giveAll 4 (some .int), Cond.methodLink RX5 54 yX5_gives, Cond.static yX5_gives, Cond.code yX5_gives cX5_gives 2 (some .int), Cond.fieldLink RX5 51 "SedgeBargesModel" "GROWTH" "[I", Cond.methodLink RX5 78 yX5_bedTold, Cond.instanceMethod yX5_bedTold, Cond.selects RX5 yX5_bedTold yX5_bedTold, Cond.code yX5_bedTold cX5_bedTold 4 (some .int), Cond.methodLink RX5 66 yX5_givesSedge, Cond.static yX5_givesSedge, Cond.code yX5_givesSedge cX5_givesSedge 2 (some .int)]
def wsX5_digest_r3 : List Cond := [Cond.methodLink RX5 125 yX5_bargeTold, Cond.instanceMethod yX5_bargeTold, Cond.selects RX5 yX5_bargeTold yX5_bargeTold, Cond.code yX5_bargeTold cX5_bargeTold 4 (some .int), Cond.methodLink RX5 119 yX5_landingAt, Cond.static yX5_landingAt, Cond.code yX5_landingAt cX5_landingAt 2 (some .int), Cond.fieldLink RX5 104 "SedgeBargesModel" "LANDING" "[I", Cond.methodLink RX5 128 yX5_landingTold, Cond.instanceMethod yX5_landingTold, Cond.selects RX5 yX5_landingTold yX5_landingTold, Cond.code yX5_landingTold cX5_landingTold 3 (some .int), Cond.methodLink RX5 113 yX5_price, Cond.static yX5_price, Cond.code yX5_price cX5_price 2 (some .int), Cond.fieldLink RX5 107 "SedgeBargesModel" "WORTH" "[I", Cond.methodLink RX5 110 Lib.Math.max.name, Cond.static Lib.Math.max.name, Cond.initialized "java/lang/Math", Cond.code Lib.Math.max.name Lib.Math.max.code 2 (some .int), Cond.methodLink RX5 116 yX5_reedPrice, Cond.static yX5_reedPrice, Cond.code yX5_reedPrice cX5_reedPrice 2 (some .int)]
def wsX5_digest : List Cond := .code yX5_digest cX5_digest 4 (some .long) :: ((wsX5_digest_r1 ++ (wsX5_digest_r2 ++ wsX5_digest_r3)) ++ wsX50)
def wsJ9_abs_0f7a4 : List Cond := .code yJ9_abs_0f7a4 cJ9_abs_0f7a4 1 (some .int) :: ([])
def wsJ9_max_7cf53 : List Cond := .code yJ9_max_7cf53 cJ9_max_7cf53 2 (some .int) :: ([])
def wsJ9_min_7cf53 : List Cond := .code yJ9_min_7cf53 cJ9_min_7cf53 2 (some .int) :: ([])
def wsL_bed_r1 : List Cond := [Cond.classLink RL 13 "java/lang/IndexOutOfBoundsException", Cond.classLink RL 15 "java/lang/IllegalArgumentException", Cond.classLink RL 17 "java/lang/IllegalStateException", Cond.methodLink RL 7 yX4_bed, Cond.instanceMethod yX4_bed, Cond.selects RX4 yX4_bed yX4_bed, Cond.initialized RX4, Cond.code yX4_bed cX4_bed 4 (some .int), Cond.classLink RX4 23 "java/lang/IllegalArgumentException", Cond.initialized "java/lang/IllegalArgumentException", Cond.classLink RX4 42 "java/lang/IllegalStateException", Cond.initialized "java/lang/IllegalStateException", Cond.fieldLink RX4 10 "SedgeBarges" "now" "LSedgeBarges$Waterway;", Cond.methodLink RX4 19 yX4_needPlace, Cond.static yX4_needPlace, Cond.code yX4_needPlace cX4_needPlace 1 none, Cond.classLink RX4 161 "java/lang/IndexOutOfBoundsException", Cond.initialized "java/lang/IndexOutOfBoundsException", Cond.methodLink RX4 36 yX1_areFull, Cond.instanceMethod yX1_areFull, Cond.selects RX1 yX1_areFull yX1_areFull, Cond.initialized RX1, Cond.code yX1_areFull cX1_areFull 1 (some .boolean), Cond.fieldLink RX1 39 "SedgeBarges$Beds" "number" "I"]
def wsL_bed_r2 : List Cond := [Cond.methodLink RX4 47 yX1_add, Cond.instanceMethod yX1_add, Cond.selects RX1 yX1_add yX1_add, Cond.code yX1_add cX1_add 5 (some .int), Cond.fieldLink RX1 9 "SedgeBarges$Beds" "place" "[I", Cond.fieldLink RX1 15 "SedgeBarges$Beds" "size" "[I", Cond.fieldLink RX1 18 "SedgeBarges$Beds" "age" "[I", Cond.fieldLink RX1 21 "SedgeBarges$Beds" "sedge" "[I"]
def wsL_bed : List Cond := .codeWith yL_bed cL_bed 6 (some .int) [(0, 12, 15, 13), (0, 12, 19, 15), (0, 12, 23, 17)] :: ((wsL_bed_r1 ++ wsL_bed_r2) ++ wsX40 ++ wsX30 ++ wsX10 ++ (vx_atS RX4 27 "java/lang/IllegalArgumentException" ["java/lang/RuntimeException", "java/lang/Exception"]).filter goodWord ++ (vx_atS RX4 46 "java/lang/IllegalStateException" ["java/lang/RuntimeException", "java/lang/Exception"]).filter goodWord ++ (vx_atS RX4 165 "java/lang/IndexOutOfBoundsException" ["java/lang/RuntimeException", "java/lang/Exception"]).filter goodWord)
def wsL_cut_r1 : List Cond := [Cond.classLink RL 13 "java/lang/IndexOutOfBoundsException", Cond.classLink RL 17 "java/lang/IllegalStateException", Cond.methodLink RL 19 yX4_cut, Cond.instanceMethod yX4_cut, Cond.selects RX4 yX4_cut yX4_cut, Cond.initialized RX4, Cond.code yX4_cut cX4_cut 2 (some .int), Cond.classLink RX4 42 "java/lang/IllegalStateException", Cond.initialized "java/lang/IllegalStateException", Cond.fieldLink RX4 10 "SedgeBarges" "now" "LSedgeBarges$Waterway;", Cond.methodLink RX4 51 yX4_needBed, Cond.instanceMethod yX4_needBed, Cond.selects RX4 yX4_needBed yX4_needBed, Cond.code yX4_needBed cX4_needBed 2 none, Cond.classLink RX4 161 "java/lang/IndexOutOfBoundsException", Cond.initialized "java/lang/IndexOutOfBoundsException", Cond.methodLink RX4 60 yX1_cutDown, Cond.instanceMethod yX1_cutDown, Cond.selects RX1 yX1_cutDown yX1_cutDown, Cond.initialized RX1, Cond.code yX1_cutDown cX1_cutDown 4 (some .int), Cond.fieldLink RX1 24 "SedgeBarges$Beds" "untiedSedge" "[I", Cond.fieldLink RX1 27 "SedgeBarges$Beds" "untiedReed" "[I", Cond.fieldLink RX1 18 "SedgeBarges$Beds" "age" "[I"]
def wsL_cut_r2 : List Cond := [Cond.methodLink RX1 46 yX1_given, Cond.instanceMethod yX1_given, Cond.selects RX1 yX1_given yX1_given, Cond.code yX1_given cX1_given 4 (some .int), Cond.fieldLink RX1 15 "SedgeBarges$Beds" "size" "[I", Cond.methodLink RX1 50 yX1_sedgeGiven, Cond.instanceMethod yX1_sedgeGiven, Cond.selects RX1 yX1_sedgeGiven yX1_sedgeGiven, Cond.code yX1_sedgeGiven cX1_sedgeGiven 2 (some .int), Cond.fieldLink RX1 21 "SedgeBarges$Beds" "sedge" "[I"]
def wsL_cut : List Cond := .codeWith yL_cut cL_cut 4 (some .int) [(0, 9, 12, 13), (0, 9, 15, 17)] :: ((wsL_cut_r1 ++ wsL_cut_r2) ++ wsX40 ++ wsX30 ++ wsX10 ++ (vx_atS RX4 46 "java/lang/IllegalStateException" ["java/lang/RuntimeException", "java/lang/Exception"]).filter goodWord ++ (vx_atS RX4 165 "java/lang/IndexOutOfBoundsException" ["java/lang/RuntimeException", "java/lang/Exception"]).filter goodWord)
def wsL_tie_r1 : List Cond := [Cond.classLink RL 13 "java/lang/IndexOutOfBoundsException", Cond.methodLink RL 23 yX4_tie, Cond.instanceMethod yX4_tie, Cond.selects RX4 yX4_tie yX4_tie, Cond.initialized RX4, Cond.code yX4_tie cX4_tie 3 (some .int), Cond.fieldLink RX4 10 "SedgeBarges" "now" "LSedgeBarges$Waterway;", Cond.methodLink RX4 51 yX4_needBed, Cond.instanceMethod yX4_needBed, Cond.selects RX4 yX4_needBed yX4_needBed, Cond.code yX4_needBed cX4_needBed 2 none, Cond.classLink RX4 161 "java/lang/IndexOutOfBoundsException", Cond.initialized "java/lang/IndexOutOfBoundsException", Cond.methodLink RX4 68 yX1_tieUp, Cond.instanceMethod yX1_tieUp, Cond.selects RX1 yX1_tieUp yX1_tieUp, Cond.initialized RX1, Cond.code yX1_tieUp cX1_tieUp 5 (some .int), Cond.fieldLink RX1 24 "SedgeBarges$Beds" "untiedSedge" "[I", Cond.methodLink RX1 53 Lib.Math.min.name, Cond.static Lib.Math.min.name, Cond.initialized "java/lang/Math", Cond.code Lib.Math.min.name Lib.Math.min.code 2 (some .int), Cond.fieldLink RX1 27 "SedgeBarges$Beds" "untiedReed" "[I"]
def wsL_tie_r2 : List Cond := [Cond.fieldLink RX1 30 "SedgeBarges$Beds" "tiedSedge" "[I", Cond.fieldLink RX1 33 "SedgeBarges$Beds" "tiedReed" "[I"]
def wsL_tie : List Cond := .codeWith yL_tie cL_tie 4 (some .int) [(0, 9, 12, 13)] :: ((wsL_tie_r1 ++ wsL_tie_r2) ++ wsX40 ++ wsX30 ++ wsX10 ++ (vx_atS RX4 165 "java/lang/IndexOutOfBoundsException" ["java/lang/RuntimeException", "java/lang/Exception"]).filter goodWord)
def wsL_buy : List Cond := .codeWith yL_buy cL_buy 4 (some .int) [(0, 9, 12, 15), (0, 9, 15, 17)] :: ([.classLink RL 15 "java/lang/IllegalArgumentException", .classLink RL 17 "java/lang/IllegalStateException", .methodLink RL 26 yX4_buy, .instanceMethod yX4_buy, .selects RX4 yX4_buy yX4_buy, .initialized RX4, .code yX4_buy cX4_buy 3 (some .int), .classLink RX4 23 "java/lang/IllegalArgumentException", .initialized "java/lang/IllegalArgumentException", .classLink RX4 42 "java/lang/IllegalStateException", .initialized "java/lang/IllegalStateException", .fieldLink RX4 10 "SedgeBarges" "now" "LSedgeBarges$Waterway;", .methodLink RX4 74 yX4_tenthRoundedUp, .static yX4_tenthRoundedUp, .code yX4_tenthRoundedUp cX4_tenthRoundedUp 1 (some .int)] ++ wsX40 ++ wsX30 ++ (vx_atS RX4 27 "java/lang/IllegalArgumentException" ["java/lang/RuntimeException", "java/lang/Exception"]).filter goodWord ++ (vx_atS RX4 46 "java/lang/IllegalStateException" ["java/lang/RuntimeException", "java/lang/Exception"]).filter goodWord)
def wsL_about_r1 : List Cond := [Cond.classLink RL 13 "java/lang/IndexOutOfBoundsException", Cond.methodLink RL 29 yX4_about, Cond.instanceMethod yX4_about, Cond.selects RX4 yX4_about yX4_about, Cond.initialized RX4, Cond.code yX4_about cX4_about 3 (some .int), Cond.fieldLink RX4 10 "SedgeBarges" "now" "LSedgeBarges$Waterway;", Cond.methodLink RX4 51 yX4_needBed, Cond.instanceMethod yX4_needBed, Cond.selects RX4 yX4_needBed yX4_needBed, Cond.code yX4_needBed cX4_needBed 2 none, Cond.classLink RX4 161 "java/lang/IndexOutOfBoundsException", Cond.initialized "java/lang/IndexOutOfBoundsException", Cond.methodLink RX4 82 yX4_needFigure, Cond.static yX4_needFigure, Cond.code yX4_needFigure cX4_needFigure 2 none, Cond.methodLink RX4 86 yX1_tell, Cond.instanceMethod yX1_tell, Cond.selects RX1 yX1_tell yX1_tell, Cond.initialized RX1, Cond.code yX1_tell cX1_tell 3 (some .int), Cond.fieldLink RX1 9 "SedgeBarges$Beds" "place" "[I", Cond.fieldLink RX1 15 "SedgeBarges$Beds" "size" "[I", Cond.fieldLink RX1 18 "SedgeBarges$Beds" "age" "[I"]
def wsL_about_r2 : List Cond := [Cond.fieldLink RX1 21 "SedgeBarges$Beds" "sedge" "[I", Cond.fieldLink RX1 24 "SedgeBarges$Beds" "untiedSedge" "[I", Cond.fieldLink RX1 27 "SedgeBarges$Beds" "untiedReed" "[I", Cond.fieldLink RX1 30 "SedgeBarges$Beds" "tiedSedge" "[I", Cond.fieldLink RX1 33 "SedgeBarges$Beds" "tiedReed" "[I", Cond.methodLink RX1 46 yX1_given, Cond.instanceMethod yX1_given, Cond.selects RX1 yX1_given yX1_given, Cond.code yX1_given cX1_given 4 (some .int), Cond.methodLink RX1 50 yX1_sedgeGiven, Cond.instanceMethod yX1_sedgeGiven, Cond.selects RX1 yX1_sedgeGiven yX1_sedgeGiven, Cond.code yX1_sedgeGiven cX1_sedgeGiven 2 (some .int)]
def wsL_about : List Cond := .codeWith yL_about cL_about 5 (some .int) [(0, 10, 13, 13)] :: ((wsL_about_r1 ++ wsL_about_r2) ++ wsX40 ++ wsX30 ++ wsX10 ++ (vx_atS RX4 165 "java/lang/IndexOutOfBoundsException" ["java/lang/RuntimeException", "java/lang/Exception"]).filter goodWord)
def wsL_best_r1 : List Cond := [Cond.classLink RL 13 "java/lang/IndexOutOfBoundsException", Cond.methodLink RL 33 yX4_best, Cond.instanceMethod yX4_best, Cond.selects RX4 yX4_best yX4_best, Cond.initialized RX4, Cond.code yX4_best cX4_best 6 (some .int), Cond.fieldLink RX4 16 "SedgeBarges" "ahead" "LSedgeBarges$Waterway;", Cond.fieldLink RX4 10 "SedgeBarges" "now" "LSedgeBarges$Waterway;", Cond.methodLink RX4 51 yX4_needBed, Cond.instanceMethod yX4_needBed, Cond.selects RX4 yX4_needBed yX4_needBed, Cond.code yX4_needBed cX4_needBed 2 none, Cond.classLink RX4 161 "java/lang/IndexOutOfBoundsException", Cond.initialized "java/lang/IndexOutOfBoundsException", Cond.methodLink RX4 89 yX1_copyFrom, Cond.instanceMethod yX1_copyFrom, Cond.selects RX1 yX1_copyFrom yX1_copyFrom, Cond.initialized RX1, Cond.code yX1_copyFrom cX1_copyFrom 3 none, Cond.fieldLink RX1 39 "SedgeBarges$Beds" "number" "I", Cond.fieldLink RX1 9 "SedgeBarges$Beds" "place" "[I", Cond.fieldLink RX1 15 "SedgeBarges$Beds" "size" "[I", Cond.fieldLink RX1 18 "SedgeBarges$Beds" "age" "[I", Cond.fieldLink RX1 21 "SedgeBarges$Beds" "sedge" "[I"]
def wsL_best_r2 : List Cond := [Cond.fieldLink RX1 24 "SedgeBarges$Beds" "untiedSedge" "[I", Cond.fieldLink RX1 27 "SedgeBarges$Beds" "untiedReed" "[I", Cond.fieldLink RX1 30 "SedgeBarges$Beds" "tiedSedge" "[I", Cond.fieldLink RX1 33 "SedgeBarges$Beds" "tiedReed" "[I", Cond.methodLink RX4 93 yX1_sedgeGiven, Cond.instanceMethod yX1_sedgeGiven, Cond.selects RX1 yX1_sedgeGiven yX1_sedgeGiven, Cond.code yX1_sedgeGiven cX1_sedgeGiven 2 (some .int), Cond.methodLink RX1 46 yX1_given, Cond.instanceMethod yX1_given, Cond.selects RX1 yX1_given yX1_given, Cond.code yX1_given cX1_given 4 (some .int), Cond.methodLink RX4 96 yX1_endYear, Cond.instanceMethod yX1_endYear, Cond.selects RX1 yX1_endYear yX1_endYear, Cond.code yX1_endYear cX1_endYear 2 none, Cond.fieldLink RX1 36 "SedgeBarges$Beds" "change" "[I", Cond.methodLink RX1 53 Lib.Math.min.name, Cond.static Lib.Math.min.name, Cond.initialized "java/lang/Math", Cond.code Lib.Math.min.name Lib.Math.min.code 2 (some .int), Cond.methodLink RX1 69 Lib.Math.max.name, Cond.static Lib.Math.max.name, Cond.code Lib.Math.max.name Lib.Math.max.code 2 (some .int)]
def wsL_best_r3 : List Cond := [Cond.methodLink RX1 62 yX1_changeByAge, Cond.static yX1_changeByAge, Cond.code yX1_changeByAge cX1_changeByAge 1 (some .int), Cond.methodLink RX1 65 yX1_isCreptInto, Cond.instanceMethod yX1_isCreptInto, Cond.selects RX1 yX1_isCreptInto yX1_isCreptInto, Cond.code yX1_isCreptInto cX1_isCreptInto 3 (some .boolean), Cond.methodLink RX1 72 Lib.Math.abs.name, Cond.static Lib.Math.abs.name, Cond.code Lib.Math.abs.name Lib.Math.abs.code 1 (some .int)]
def wsL_best : List Cond := .codeWith yL_best cL_best 4 (some .int) [(0, 9, 12, 13)] :: ((wsL_best_r1 ++ (wsL_best_r2 ++ wsL_best_r3)) ++ wsX40 ++ wsX30 ++ wsX10 ++ (vx_atS RX4 165 "java/lang/IndexOutOfBoundsException" ["java/lang/RuntimeException", "java/lang/Exception"]).filter goodWord)
def wsL_barge_r1 : List Cond := [Cond.classLink RL 13 "java/lang/IndexOutOfBoundsException", Cond.classLink RL 17 "java/lang/IllegalStateException", Cond.methodLink RL 36 yX4_barge, Cond.instanceMethod yX4_barge, Cond.selects RX4 yX4_barge yX4_barge, Cond.initialized RX4, Cond.code yX4_barge cX4_barge 2 (some .int), Cond.classLink RX4 42 "java/lang/IllegalStateException", Cond.initialized "java/lang/IllegalStateException", Cond.fieldLink RX4 10 "SedgeBarges" "now" "LSedgeBarges$Waterway;", Cond.methodLink RX4 19 yX4_needPlace, Cond.static yX4_needPlace, Cond.code yX4_needPlace cX4_needPlace 1 none, Cond.classLink RX4 161 "java/lang/IndexOutOfBoundsException", Cond.initialized "java/lang/IndexOutOfBoundsException", Cond.methodLink RX4 103 yX0_areFull, Cond.instanceMethod yX0_areFull, Cond.selects RX0 yX0_areFull yX0_areFull, Cond.initialized RX0, Cond.code yX0_areFull cX0_areFull 1 (some .boolean), Cond.fieldLink RX0 27 "SedgeBarges$Barges" "number" "I", Cond.methodLink RX4 108 yX0_add, Cond.instanceMethod yX0_add, Cond.selects RX0 yX0_add yX0_add]
def wsL_barge_r2 : List Cond := [Cond.code yX0_add cX0_add 3 (some .int), Cond.fieldLink RX0 9 "SedgeBarges$Barges" "place" "[I", Cond.fieldLink RX0 15 "SedgeBarges$Barges" "goal" "[I"]
def wsL_barge : List Cond := .codeWith yL_barge cL_barge 4 (some .int) [(0, 9, 12, 13), (0, 9, 15, 17)] :: ((wsL_barge_r1 ++ wsL_barge_r2) ++ wsX40 ++ wsX30 ++ wsX00 ++ (vx_atS RX4 46 "java/lang/IllegalStateException" ["java/lang/RuntimeException", "java/lang/Exception"]).filter goodWord ++ (vx_atS RX4 165 "java/lang/IndexOutOfBoundsException" ["java/lang/RuntimeException", "java/lang/Exception"]).filter goodWord)
def wsL_sail_r1 : List Cond := [Cond.classLink RL 13 "java/lang/IndexOutOfBoundsException", Cond.methodLink RL 39 yX4_sail, Cond.instanceMethod yX4_sail, Cond.selects RX4 yX4_sail yX4_sail, Cond.initialized RX4, Cond.code yX4_sail cX4_sail 3 (some .int), Cond.fieldLink RX4 10 "SedgeBarges" "now" "LSedgeBarges$Waterway;", Cond.methodLink RX4 110 yX4_needBarge, Cond.instanceMethod yX4_needBarge, Cond.selects RX4 yX4_needBarge yX4_needBarge, Cond.code yX4_needBarge cX4_needBarge 2 none, Cond.classLink RX4 161 "java/lang/IndexOutOfBoundsException", Cond.initialized "java/lang/IndexOutOfBoundsException", Cond.methodLink RX4 19 yX4_needPlace, Cond.static yX4_needPlace, Cond.code yX4_needPlace cX4_needPlace 1 none, Cond.methodLink RX4 113 yX0_send, Cond.instanceMethod yX0_send, Cond.selects RX0 yX0_send yX0_send, Cond.initialized RX0, Cond.code yX0_send cX0_send 4 (some .int), Cond.fieldLink RX0 9 "SedgeBarges$Barges" "place" "[I", Cond.methodLink RX0 31 Lib.Math.abs.name, Cond.static Lib.Math.abs.name]
def wsL_sail_r2 : List Cond := [Cond.initialized "java/lang/Math", Cond.code Lib.Math.abs.name Lib.Math.abs.code 1 (some .int), Cond.fieldLink RX0 15 "SedgeBarges$Barges" "goal" "[I"]
def wsL_sail : List Cond := .codeWith yL_sail cL_sail 5 (some .int) [(0, 10, 13, 13)] :: ((wsL_sail_r1 ++ wsL_sail_r2) ++ wsX40 ++ wsX30 ++ wsX00 ++ (vx_atS RX4 165 "java/lang/IndexOutOfBoundsException" ["java/lang/RuntimeException", "java/lang/Exception"]).filter goodWord)
def wsL_load_r1 : List Cond := [Cond.classLink RL 13 "java/lang/IndexOutOfBoundsException", Cond.classLink RL 17 "java/lang/IllegalStateException", Cond.methodLink RL 42 yX4_load, Cond.instanceMethod yX4_load, Cond.selects RX4 yX4_load yX4_load, Cond.initialized RX4, Cond.code yX4_load cX4_load 3 (some .int), Cond.classLink RX4 42 "java/lang/IllegalStateException", Cond.initialized "java/lang/IllegalStateException", Cond.fieldLink RX4 10 "SedgeBarges" "now" "LSedgeBarges$Waterway;", Cond.methodLink RX4 110 yX4_needBarge, Cond.instanceMethod yX4_needBarge, Cond.selects RX4 yX4_needBarge yX4_needBarge, Cond.code yX4_needBarge cX4_needBarge 2 none, Cond.classLink RX4 161 "java/lang/IndexOutOfBoundsException", Cond.initialized "java/lang/IndexOutOfBoundsException", Cond.methodLink RX4 51 yX4_needBed, Cond.instanceMethod yX4_needBed, Cond.selects RX4 yX4_needBed yX4_needBed, Cond.code yX4_needBed cX4_needBed 2 none, Cond.methodLink RX4 122 yX3_takeAboard, Cond.instanceMethod yX3_takeAboard, Cond.selects RX3 yX3_takeAboard yX3_takeAboard, Cond.initialized RX3]
def wsL_load_r2 : List Cond := [Cond.code yX3_takeAboard cX3_takeAboard 6 (some .int), Cond.fieldLink RX3 28 "SedgeBarges$Waterway" "barges" "LSedgeBarges$Barges;", Cond.fieldLink RX3 21 "SedgeBarges$Waterway" "beds" "LSedgeBarges$Beds;", Cond.methodLink RX3 63 Lib.Math.min.name, Cond.static Lib.Math.min.name, Cond.initialized "java/lang/Math", Cond.code Lib.Math.min.name Lib.Math.min.code 2 (some .int), Cond.methodLink RX3 55 yX0_aboard, Cond.instanceMethod yX0_aboard, Cond.selects RX0 yX0_aboard yX0_aboard, Cond.initialized RX0, Cond.code yX0_aboard cX0_aboard 2 (some .int), Cond.fieldLink RX0 18 "SedgeBarges$Barges" "sedge" "[I", Cond.fieldLink RX0 21 "SedgeBarges$Barges" "reed" "[I"]
def wsL_load : List Cond := .codeWith yL_load cL_load 5 (some .int) [(0, 10, 13, 13), (0, 10, 17, 17)] :: ((wsL_load_r1 ++ wsL_load_r2) ++ wsX40 ++ wsX30 ++ wsX00 ++ wsX10 ++ (vx_atS RX4 46 "java/lang/IllegalStateException" ["java/lang/RuntimeException", "java/lang/Exception"]).filter goodWord ++ (vx_atS RX4 165 "java/lang/IndexOutOfBoundsException" ["java/lang/RuntimeException", "java/lang/Exception"]).filter goodWord)
def wsL_sell_r1 : List Cond := [Cond.classLink RL 13 "java/lang/IndexOutOfBoundsException", Cond.classLink RL 17 "java/lang/IllegalStateException", Cond.methodLink RL 45 yX4_sell, Cond.instanceMethod yX4_sell, Cond.selects RX4 yX4_sell yX4_sell, Cond.initialized RX4, Cond.code yX4_sell cX4_sell 3 (some .int), Cond.classLink RX4 42 "java/lang/IllegalStateException", Cond.initialized "java/lang/IllegalStateException", Cond.fieldLink RX4 10 "SedgeBarges" "now" "LSedgeBarges$Waterway;", Cond.methodLink RX4 110 yX4_needBarge, Cond.instanceMethod yX4_needBarge, Cond.selects RX4 yX4_needBarge yX4_needBarge, Cond.code yX4_needBarge cX4_needBarge 2 none, Cond.classLink RX4 161 "java/lang/IndexOutOfBoundsException", Cond.initialized "java/lang/IndexOutOfBoundsException", Cond.methodLink RX4 125 yX4_landingAt, Cond.static yX4_landingAt, Cond.code yX4_landingAt cX4_landingAt 2 (some .int), Cond.fieldLink RX4 147 "SedgeBarges" "LANDING_PLACE" "[I", Cond.methodLink RX4 130 yX3_sellAll, Cond.instanceMethod yX3_sellAll, Cond.selects RX3 yX3_sellAll yX3_sellAll, Cond.initialized RX3]
def wsL_sell_r2 : List Cond := [Cond.code yX3_sellAll cX3_sellAll 5 (some .int), Cond.fieldLink RX3 28 "SedgeBarges$Waterway" "barges" "LSedgeBarges$Barges;", Cond.fieldLink RX3 35 "SedgeBarges$Waterway" "landings" "LSedgeBarges$Landings;", Cond.fieldLink RX3 9 "SedgeBarges$Waterway" "coins" "I", Cond.methodLink RX3 55 yX0_aboard, Cond.instanceMethod yX0_aboard, Cond.selects RX0 yX0_aboard yX0_aboard, Cond.initialized RX0, Cond.code yX0_aboard cX0_aboard 2 (some .int), Cond.fieldLink RX0 18 "SedgeBarges$Barges" "sedge" "[I", Cond.fieldLink RX0 21 "SedgeBarges$Barges" "reed" "[I", Cond.methodLink RX3 78 yX2_sedgePrice, Cond.instanceMethod yX2_sedgePrice, Cond.selects RX2 yX2_sedgePrice yX2_sedgePrice, Cond.initialized RX2, Cond.code yX2_sedgePrice cX2_sedgePrice 2 (some .int), Cond.fieldLink RX2 9 "SedgeBarges$Landings" "store" "[I", Cond.methodLink RX2 18 Lib.Math.max.name, Cond.static Lib.Math.max.name, Cond.initialized "java/lang/Math", Cond.code Lib.Math.max.name Lib.Math.max.code 2 (some .int), Cond.methodLink RX3 81 yX2_reedPrice, Cond.instanceMethod yX2_reedPrice, Cond.selects RX2 yX2_reedPrice yX2_reedPrice]
def wsL_sell_r3 : List Cond := [Cond.code yX2_reedPrice cX2_reedPrice 2 (some .int), Cond.methodLink RX2 24 yX2_sedgePrice]
def wsL_sell : List Cond := .codeWith yL_sell cL_sell 4 (some .int) [(0, 9, 12, 13), (0, 9, 15, 17)] :: ((wsL_sell_r1 ++ (wsL_sell_r2 ++ wsL_sell_r3)) ++ wsX40 ++ wsX30 ++ wsX00 ++ wsX20 ++ (vx_atS RX4 46 "java/lang/IllegalStateException" ["java/lang/RuntimeException", "java/lang/Exception"]).filter goodWord ++ (vx_atS RX4 165 "java/lang/IndexOutOfBoundsException" ["java/lang/RuntimeException", "java/lang/Exception"]).filter goodWord)
def wsL_told_r1 : List Cond := [Cond.classLink RL 13 "java/lang/IndexOutOfBoundsException", Cond.methodLink RL 48 yX4_told, Cond.instanceMethod yX4_told, Cond.selects RX4 yX4_told yX4_told, Cond.initialized RX4, Cond.code yX4_told cX4_told 3 (some .int), Cond.fieldLink RX4 10 "SedgeBarges" "now" "LSedgeBarges$Waterway;", Cond.methodLink RX4 110 yX4_needBarge, Cond.instanceMethod yX4_needBarge, Cond.selects RX4 yX4_needBarge yX4_needBarge, Cond.code yX4_needBarge cX4_needBarge 2 none, Cond.classLink RX4 161 "java/lang/IndexOutOfBoundsException", Cond.initialized "java/lang/IndexOutOfBoundsException", Cond.methodLink RX4 82 yX4_needFigure, Cond.static yX4_needFigure, Cond.code yX4_needFigure cX4_needFigure 2 none, Cond.methodLink RX4 133 yX0_tell, Cond.instanceMethod yX0_tell, Cond.selects RX0 yX0_tell yX0_tell, Cond.initialized RX0, Cond.code yX0_tell cX0_tell 3 (some .int), Cond.fieldLink RX0 9 "SedgeBarges$Barges" "place" "[I", Cond.fieldLink RX0 15 "SedgeBarges$Barges" "goal" "[I", Cond.fieldLink RX0 18 "SedgeBarges$Barges" "sedge" "[I"]
def wsL_told_r2 : List Cond := [Cond.fieldLink RX0 21 "SedgeBarges$Barges" "reed" "[I", Cond.fieldLink RX0 24 "SedgeBarges$Barges" "brought" "[I", Cond.static yX4_landingAt, Cond.code yX4_landingAt cX4_landingAt 2 (some .int), Cond.fieldLink RX4 147 "SedgeBarges" "LANDING_PLACE" "[I"]
def wsL_told : List Cond := .codeWith yL_told cL_told 5 (some .int) [(0, 10, 13, 13)] :: ((wsL_told_r1 ++ wsL_told_r2) ++ wsX40 ++ wsX30 ++ wsX00 ++ (vx_atS RX4 165 "java/lang/IndexOutOfBoundsException" ["java/lang/RuntimeException", "java/lang/Exception"]).filter goodWord)
def wsL_landing_r1 : List Cond := [Cond.classLink RL 13 "java/lang/IndexOutOfBoundsException", Cond.methodLink RL 51 yX4_landing, Cond.instanceMethod yX4_landing, Cond.selects RX4 yX4_landing yX4_landing, Cond.initialized RX4, Cond.code yX4_landing cX4_landing 3 (some .int), Cond.fieldLink RX4 10 "SedgeBarges" "now" "LSedgeBarges$Waterway;", Cond.methodLink RX4 134 yX4_needLanding, Cond.static yX4_needLanding, Cond.code yX4_needLanding cX4_needLanding 1 none, Cond.classLink RX4 161 "java/lang/IndexOutOfBoundsException", Cond.initialized "java/lang/IndexOutOfBoundsException", Cond.methodLink RX4 82 yX4_needFigure, Cond.static yX4_needFigure, Cond.code yX4_needFigure cX4_needFigure 2 none, Cond.methodLink RX4 141 yX2_tell, Cond.instanceMethod yX2_tell, Cond.selects RX2 yX2_tell yX2_tell, Cond.initialized RX2, Cond.code yX2_tell cX2_tell 3 (some .int), Cond.fieldLink RX2 9 "SedgeBarges$Landings" "store" "[I", Cond.methodLink RX2 24 yX2_sedgePrice, Cond.instanceMethod yX2_sedgePrice, Cond.selects RX2 yX2_sedgePrice yX2_sedgePrice]
def wsL_landing_r2 : List Cond := [Cond.code yX2_sedgePrice cX2_sedgePrice 2 (some .int), Cond.methodLink RX2 18 Lib.Math.max.name, Cond.static Lib.Math.max.name, Cond.initialized "java/lang/Math", Cond.code Lib.Math.max.name Lib.Math.max.code 2 (some .int), Cond.methodLink RX2 34 yX2_reedPrice, Cond.instanceMethod yX2_reedPrice, Cond.selects RX2 yX2_reedPrice yX2_reedPrice, Cond.code yX2_reedPrice cX2_reedPrice 2 (some .int)]
def wsL_landing : List Cond := .codeWith yL_landing cL_landing 5 (some .int) [(0, 10, 13, 13)] :: ((wsL_landing_r1 ++ wsL_landing_r2) ++ wsX40 ++ wsX30 ++ wsX20 ++ (vx_atS RX4 165 "java/lang/IndexOutOfBoundsException" ["java/lang/RuntimeException", "java/lang/Exception"]).filter goodWord)
def wsL_would_r1 : List Cond := [Cond.classLink RL 13 "java/lang/IndexOutOfBoundsException", Cond.methodLink RL 54 yX4_would, Cond.instanceMethod yX4_would, Cond.selects RX4 yX4_would yX4_would, Cond.initialized RX4, Cond.code yX4_would cX4_would 4 (some .int), Cond.fieldLink RX4 16 "SedgeBarges" "ahead" "LSedgeBarges$Waterway;", Cond.fieldLink RX4 10 "SedgeBarges" "now" "LSedgeBarges$Waterway;", Cond.fieldLink RX4 147 "SedgeBarges" "LANDING_PLACE" "[I", Cond.methodLink RX4 110 yX4_needBarge, Cond.instanceMethod yX4_needBarge, Cond.selects RX4 yX4_needBarge yX4_needBarge, Cond.code yX4_needBarge cX4_needBarge 2 none, Cond.classLink RX4 161 "java/lang/IndexOutOfBoundsException", Cond.initialized "java/lang/IndexOutOfBoundsException", Cond.methodLink RX4 134 yX4_needLanding, Cond.static yX4_needLanding, Cond.code yX4_needLanding cX4_needLanding 1 none, Cond.methodLink RX4 144 yX3_copyFrom, Cond.instanceMethod yX3_copyFrom, Cond.selects RX3 yX3_copyFrom yX3_copyFrom, Cond.initialized RX3, Cond.code yX3_copyFrom cX3_copyFrom 2 none, Cond.fieldLink RX3 39 "SedgeBarges$Waterway" "day" "I"]
def wsL_would_r2 : List Cond := [Cond.fieldLink RX3 9 "SedgeBarges$Waterway" "coins" "I", Cond.fieldLink RX3 15 "SedgeBarges$Waterway" "ties" "I", Cond.fieldLink RX3 42 "SedgeBarges$Waterway" "rotted" "I", Cond.fieldLink RX3 21 "SedgeBarges$Waterway" "beds" "LSedgeBarges$Beds;", Cond.fieldLink RX3 28 "SedgeBarges$Waterway" "barges" "LSedgeBarges$Barges;", Cond.fieldLink RX3 35 "SedgeBarges$Waterway" "landings" "LSedgeBarges$Landings;", Cond.methodLink RX3 45 yX1_copyFrom, Cond.instanceMethod yX1_copyFrom, Cond.selects RX1 yX1_copyFrom yX1_copyFrom, Cond.initialized RX1, Cond.code yX1_copyFrom cX1_copyFrom 3 none, Cond.fieldLink RX1 39 "SedgeBarges$Beds" "number" "I", Cond.fieldLink RX1 9 "SedgeBarges$Beds" "place" "[I", Cond.fieldLink RX1 15 "SedgeBarges$Beds" "size" "[I", Cond.fieldLink RX1 18 "SedgeBarges$Beds" "age" "[I", Cond.fieldLink RX1 21 "SedgeBarges$Beds" "sedge" "[I", Cond.fieldLink RX1 24 "SedgeBarges$Beds" "untiedSedge" "[I", Cond.fieldLink RX1 27 "SedgeBarges$Beds" "untiedReed" "[I", Cond.fieldLink RX1 30 "SedgeBarges$Beds" "tiedSedge" "[I", Cond.fieldLink RX1 33 "SedgeBarges$Beds" "tiedReed" "[I", Cond.methodLink RX3 49 yX0_copyFrom, Cond.instanceMethod yX0_copyFrom, Cond.selects RX0 yX0_copyFrom yX0_copyFrom, Cond.initialized RX0]
def wsL_would_r3 : List Cond := [Cond.code yX0_copyFrom cX0_copyFrom 3 none, Cond.fieldLink RX0 27 "SedgeBarges$Barges" "number" "I", Cond.fieldLink RX0 9 "SedgeBarges$Barges" "place" "[I", Cond.fieldLink RX0 15 "SedgeBarges$Barges" "goal" "[I", Cond.fieldLink RX0 18 "SedgeBarges$Barges" "sedge" "[I", Cond.fieldLink RX0 21 "SedgeBarges$Barges" "reed" "[I", Cond.fieldLink RX0 24 "SedgeBarges$Barges" "brought" "[I", Cond.methodLink RX3 52 yX2_copyFrom, Cond.instanceMethod yX2_copyFrom, Cond.selects RX2 yX2_copyFrom yX2_copyFrom, Cond.initialized RX2, Cond.code yX2_copyFrom cX2_copyFrom 3 none, Cond.fieldLink RX2 9 "SedgeBarges$Landings" "store" "[I", Cond.methodLink RX4 113 yX0_send, Cond.instanceMethod yX0_send, Cond.selects RX0 yX0_send yX0_send, Cond.code yX0_send cX0_send 4 (some .int), Cond.methodLink RX0 31 Lib.Math.abs.name, Cond.static Lib.Math.abs.name, Cond.initialized "java/lang/Math", Cond.code Lib.Math.abs.name Lib.Math.abs.code 1 (some .int), Cond.methodLink RX4 150 yX3_passDays, Cond.instanceMethod yX3_passDays, Cond.selects RX3 yX3_passDays yX3_passDays]
def wsL_would_r4 : List Cond := [Cond.code yX3_passDays cX3_passDays 4 (some .int), Cond.methodLink RX3 90 yX3_passDay, Cond.instanceMethod yX3_passDay, Cond.selects RX3 yX3_passDay yX3_passDay, Cond.code yX3_passDay cX3_passDay 1 none, Cond.methodLink RX3 93 yX0_sailOn, Cond.instanceMethod yX0_sailOn, Cond.selects RX0 yX0_sailOn yX0_sailOn, Cond.code yX0_sailOn cX0_sailOn 3 none, Cond.methodLink RX0 37 Lib.Math.min.name, Cond.static Lib.Math.min.name, Cond.code Lib.Math.min.name Lib.Math.min.code 2 (some .int), Cond.methodLink RX0 41 Lib.Math.max.name, Cond.static Lib.Math.max.name, Cond.code Lib.Math.max.name Lib.Math.max.code 2 (some .int), Cond.methodLink RX3 96 yX1_rot, Cond.instanceMethod yX1_rot, Cond.selects RX1 yX1_rot yX1_rot, Cond.code yX1_rot cX1_rot 5 (some .int), Cond.static yX4_tenthRoundedUp, Cond.code yX4_tenthRoundedUp cX4_tenthRoundedUp 1 (some .int), Cond.methodLink RX3 100 yX2_thatch, Cond.instanceMethod yX2_thatch, Cond.selects RX2 yX2_thatch yX2_thatch]
def wsL_would_r5 : List Cond := [Cond.code yX2_thatch cX2_thatch 2 none, Cond.static yX4_twentiethRoundedUp, Cond.code yX4_twentiethRoundedUp cX4_twentiethRoundedUp 1 (some .int), Cond.methodLink RX3 103 yX1_endYear, Cond.instanceMethod yX1_endYear, Cond.selects RX1 yX1_endYear yX1_endYear, Cond.code yX1_endYear cX1_endYear 2 none, Cond.fieldLink RX1 36 "SedgeBarges$Beds" "change" "[I", Cond.methodLink RX1 53 Lib.Math.min.name, Cond.methodLink RX1 69 Lib.Math.max.name, Cond.methodLink RX1 62 yX1_changeByAge, Cond.static yX1_changeByAge, Cond.code yX1_changeByAge cX1_changeByAge 1 (some .int), Cond.methodLink RX1 65 yX1_isCreptInto, Cond.instanceMethod yX1_isCreptInto, Cond.selects RX1 yX1_isCreptInto yX1_isCreptInto, Cond.code yX1_isCreptInto cX1_isCreptInto 3 (some .boolean), Cond.methodLink RX1 72 Lib.Math.abs.name, Cond.methodLink RX4 130 yX3_sellAll, Cond.instanceMethod yX3_sellAll, Cond.selects RX3 yX3_sellAll yX3_sellAll, Cond.code yX3_sellAll cX3_sellAll 5 (some .int), Cond.methodLink RX3 55 yX0_aboard, Cond.instanceMethod yX0_aboard]
def wsL_would_r6 : List Cond := [Cond.selects RX0 yX0_aboard yX0_aboard, Cond.code yX0_aboard cX0_aboard 2 (some .int), Cond.methodLink RX3 78 yX2_sedgePrice, Cond.instanceMethod yX2_sedgePrice, Cond.selects RX2 yX2_sedgePrice yX2_sedgePrice, Cond.code yX2_sedgePrice cX2_sedgePrice 2 (some .int), Cond.methodLink RX2 18 Lib.Math.max.name, Cond.methodLink RX3 81 yX2_reedPrice, Cond.instanceMethod yX2_reedPrice, Cond.selects RX2 yX2_reedPrice yX2_reedPrice, Cond.code yX2_reedPrice cX2_reedPrice 2 (some .int), Cond.methodLink RX2 24 yX2_sedgePrice]
def wsL_would : List Cond := .codeWith yL_would cL_would 5 (some .int) [(0, 10, 13, 13)] :: ((wsL_would_r1 ++ (wsL_would_r2 ++ (wsL_would_r3 ++ (wsL_would_r4 ++ (wsL_would_r5 ++ wsL_would_r6))))) ++ wsX40 ++ wsX30 ++ wsX00 ++ wsX10 ++ wsX20 ++ (vx_atS RX4 165 "java/lang/IndexOutOfBoundsException" ["java/lang/RuntimeException", "java/lang/Exception"]).filter goodWord)
def wsL_advise_r1 : List Cond := [Cond.classLink RL 13 "java/lang/IndexOutOfBoundsException", Cond.methodLink RL 57 yX4_advise, Cond.instanceMethod yX4_advise, Cond.selects RX4 yX4_advise yX4_advise, Cond.initialized RX4, Cond.code yX4_advise cX4_advise 6 (some .int), Cond.methodLink RX4 110 yX4_needBarge, Cond.instanceMethod yX4_needBarge, Cond.selects RX4 yX4_needBarge yX4_needBarge, Cond.code yX4_needBarge cX4_needBarge 2 none, Cond.classLink RX4 161 "java/lang/IndexOutOfBoundsException", Cond.initialized "java/lang/IndexOutOfBoundsException", Cond.fieldLink RX4 10 "SedgeBarges" "now" "LSedgeBarges$Waterway;", Cond.methodLink RX4 153 yX4_would, Cond.instanceMethod yX4_would, Cond.selects RX4 yX4_would yX4_would, Cond.code yX4_would cX4_would 4 (some .int), Cond.fieldLink RX4 16 "SedgeBarges" "ahead" "LSedgeBarges$Waterway;", Cond.fieldLink RX4 147 "SedgeBarges" "LANDING_PLACE" "[I", Cond.methodLink RX4 134 yX4_needLanding, Cond.static yX4_needLanding, Cond.code yX4_needLanding cX4_needLanding 1 none, Cond.methodLink RX4 144 yX3_copyFrom, Cond.instanceMethod yX3_copyFrom]
def wsL_advise_r2 : List Cond := [Cond.selects RX3 yX3_copyFrom yX3_copyFrom, Cond.initialized RX3, Cond.code yX3_copyFrom cX3_copyFrom 2 none, Cond.fieldLink RX3 39 "SedgeBarges$Waterway" "day" "I", Cond.fieldLink RX3 9 "SedgeBarges$Waterway" "coins" "I", Cond.fieldLink RX3 15 "SedgeBarges$Waterway" "ties" "I", Cond.fieldLink RX3 42 "SedgeBarges$Waterway" "rotted" "I", Cond.fieldLink RX3 21 "SedgeBarges$Waterway" "beds" "LSedgeBarges$Beds;", Cond.fieldLink RX3 28 "SedgeBarges$Waterway" "barges" "LSedgeBarges$Barges;", Cond.fieldLink RX3 35 "SedgeBarges$Waterway" "landings" "LSedgeBarges$Landings;", Cond.methodLink RX3 45 yX1_copyFrom, Cond.instanceMethod yX1_copyFrom, Cond.selects RX1 yX1_copyFrom yX1_copyFrom, Cond.initialized RX1, Cond.code yX1_copyFrom cX1_copyFrom 3 none, Cond.fieldLink RX1 39 "SedgeBarges$Beds" "number" "I", Cond.fieldLink RX1 9 "SedgeBarges$Beds" "place" "[I", Cond.fieldLink RX1 15 "SedgeBarges$Beds" "size" "[I", Cond.fieldLink RX1 18 "SedgeBarges$Beds" "age" "[I", Cond.fieldLink RX1 21 "SedgeBarges$Beds" "sedge" "[I", Cond.fieldLink RX1 24 "SedgeBarges$Beds" "untiedSedge" "[I", Cond.fieldLink RX1 27 "SedgeBarges$Beds" "untiedReed" "[I", Cond.fieldLink RX1 30 "SedgeBarges$Beds" "tiedSedge" "[I", Cond.fieldLink RX1 33 "SedgeBarges$Beds" "tiedReed" "[I"]
def wsL_advise_r3 : List Cond := [Cond.methodLink RX3 49 yX0_copyFrom, Cond.instanceMethod yX0_copyFrom, Cond.selects RX0 yX0_copyFrom yX0_copyFrom, Cond.initialized RX0, Cond.code yX0_copyFrom cX0_copyFrom 3 none, Cond.fieldLink RX0 27 "SedgeBarges$Barges" "number" "I", Cond.fieldLink RX0 9 "SedgeBarges$Barges" "place" "[I", Cond.fieldLink RX0 15 "SedgeBarges$Barges" "goal" "[I", Cond.fieldLink RX0 18 "SedgeBarges$Barges" "sedge" "[I", Cond.fieldLink RX0 21 "SedgeBarges$Barges" "reed" "[I", Cond.fieldLink RX0 24 "SedgeBarges$Barges" "brought" "[I", Cond.methodLink RX3 52 yX2_copyFrom, Cond.instanceMethod yX2_copyFrom, Cond.selects RX2 yX2_copyFrom yX2_copyFrom, Cond.initialized RX2, Cond.code yX2_copyFrom cX2_copyFrom 3 none, Cond.fieldLink RX2 9 "SedgeBarges$Landings" "store" "[I", Cond.methodLink RX4 113 yX0_send, Cond.instanceMethod yX0_send, Cond.selects RX0 yX0_send yX0_send, Cond.code yX0_send cX0_send 4 (some .int), Cond.methodLink RX0 31 Lib.Math.abs.name, Cond.static Lib.Math.abs.name, Cond.initialized "java/lang/Math"]
def wsL_advise_r4 : List Cond := [Cond.code Lib.Math.abs.name Lib.Math.abs.code 1 (some .int), Cond.methodLink RX4 150 yX3_passDays, Cond.instanceMethod yX3_passDays, Cond.selects RX3 yX3_passDays yX3_passDays, Cond.code yX3_passDays cX3_passDays 4 (some .int), Cond.methodLink RX3 90 yX3_passDay, Cond.instanceMethod yX3_passDay, Cond.selects RX3 yX3_passDay yX3_passDay, Cond.code yX3_passDay cX3_passDay 1 none, Cond.methodLink RX3 93 yX0_sailOn, Cond.instanceMethod yX0_sailOn, Cond.selects RX0 yX0_sailOn yX0_sailOn, Cond.code yX0_sailOn cX0_sailOn 3 none, Cond.methodLink RX0 37 Lib.Math.min.name, Cond.static Lib.Math.min.name, Cond.code Lib.Math.min.name Lib.Math.min.code 2 (some .int), Cond.methodLink RX0 41 Lib.Math.max.name, Cond.static Lib.Math.max.name, Cond.code Lib.Math.max.name Lib.Math.max.code 2 (some .int), Cond.methodLink RX3 96 yX1_rot, Cond.instanceMethod yX1_rot, Cond.selects RX1 yX1_rot yX1_rot, Cond.code yX1_rot cX1_rot 5 (some .int), Cond.static yX4_tenthRoundedUp]
def wsL_advise_r5 : List Cond := [Cond.code yX4_tenthRoundedUp cX4_tenthRoundedUp 1 (some .int), Cond.methodLink RX3 100 yX2_thatch, Cond.instanceMethod yX2_thatch, Cond.selects RX2 yX2_thatch yX2_thatch, Cond.code yX2_thatch cX2_thatch 2 none, Cond.static yX4_twentiethRoundedUp, Cond.code yX4_twentiethRoundedUp cX4_twentiethRoundedUp 1 (some .int), Cond.methodLink RX3 103 yX1_endYear, Cond.instanceMethod yX1_endYear, Cond.selects RX1 yX1_endYear yX1_endYear, Cond.code yX1_endYear cX1_endYear 2 none, Cond.fieldLink RX1 36 "SedgeBarges$Beds" "change" "[I", Cond.methodLink RX1 53 Lib.Math.min.name, Cond.methodLink RX1 69 Lib.Math.max.name, Cond.methodLink RX1 62 yX1_changeByAge, Cond.static yX1_changeByAge, Cond.code yX1_changeByAge cX1_changeByAge 1 (some .int), Cond.methodLink RX1 65 yX1_isCreptInto, Cond.instanceMethod yX1_isCreptInto, Cond.selects RX1 yX1_isCreptInto yX1_isCreptInto, Cond.code yX1_isCreptInto cX1_isCreptInto 3 (some .boolean), Cond.methodLink RX1 72 Lib.Math.abs.name, Cond.methodLink RX4 130 yX3_sellAll, Cond.instanceMethod yX3_sellAll]
def wsL_advise_r6 : List Cond := [Cond.selects RX3 yX3_sellAll yX3_sellAll, Cond.code yX3_sellAll cX3_sellAll 5 (some .int), Cond.methodLink RX3 55 yX0_aboard, Cond.instanceMethod yX0_aboard, Cond.selects RX0 yX0_aboard yX0_aboard, Cond.code yX0_aboard cX0_aboard 2 (some .int), Cond.methodLink RX3 78 yX2_sedgePrice, Cond.instanceMethod yX2_sedgePrice, Cond.selects RX2 yX2_sedgePrice yX2_sedgePrice, Cond.code yX2_sedgePrice cX2_sedgePrice 2 (some .int), Cond.methodLink RX2 18 Lib.Math.max.name, Cond.methodLink RX3 81 yX2_reedPrice, Cond.instanceMethod yX2_reedPrice, Cond.selects RX2 yX2_reedPrice yX2_reedPrice, Cond.code yX2_reedPrice cX2_reedPrice 2 (some .int), Cond.methodLink RX2 24 yX2_sedgePrice]
def wsL_advise : List Cond := .codeWith yL_advise cL_advise 4 (some .int) [(0, 9, 12, 13)] :: ((wsL_advise_r1 ++ (wsL_advise_r2 ++ (wsL_advise_r3 ++ (wsL_advise_r4 ++ (wsL_advise_r5 ++ wsL_advise_r6))))) ++ wsX40 ++ wsX30 ++ wsX00 ++ wsX10 ++ wsX20 ++ (vx_atS RX4 165 "java/lang/IndexOutOfBoundsException" ["java/lang/RuntimeException", "java/lang/Exception"]).filter goodWord)
def wsL_count_r1 : List Cond := [Cond.classLink RL 13 "java/lang/IndexOutOfBoundsException", Cond.methodLink RL 60 yX4_count, Cond.instanceMethod yX4_count, Cond.selects RX4 yX4_count yX4_count, Cond.initialized RX4, Cond.code yX4_count cX4_count 2 (some .int), Cond.fieldLink RX4 10 "SedgeBarges" "now" "LSedgeBarges$Waterway;", Cond.methodLink RX4 82 yX4_needFigure, Cond.static yX4_needFigure, Cond.code yX4_needFigure cX4_needFigure 2 none, Cond.classLink RX4 161 "java/lang/IndexOutOfBoundsException", Cond.initialized "java/lang/IndexOutOfBoundsException", Cond.methodLink RX4 156 yX3_tell, Cond.instanceMethod yX3_tell, Cond.selects RX3 yX3_tell yX3_tell, Cond.initialized RX3, Cond.code yX3_tell cX3_tell 2 (some .int), Cond.fieldLink RX3 39 "SedgeBarges$Waterway" "day" "I", Cond.fieldLink RX3 9 "SedgeBarges$Waterway" "coins" "I", Cond.fieldLink RX3 15 "SedgeBarges$Waterway" "ties" "I", Cond.fieldLink RX3 21 "SedgeBarges$Waterway" "beds" "LSedgeBarges$Beds;", Cond.fieldLink RX3 28 "SedgeBarges$Waterway" "barges" "LSedgeBarges$Barges;", Cond.fieldLink RX3 35 "SedgeBarges$Waterway" "landings" "LSedgeBarges$Landings;", Cond.fieldLink RX3 42 "SedgeBarges$Waterway" "rotted" "I"]
def wsL_count_r2 : List Cond := [Cond.methodLink RX3 109 yX1_givenByAll, Cond.instanceMethod yX1_givenByAll, Cond.selects RX1 yX1_givenByAll yX1_givenByAll, Cond.initialized RX1, Cond.code yX1_givenByAll cX1_givenByAll 3 (some .int), Cond.fieldLink RX1 39 "SedgeBarges$Beds" "number" "I", Cond.methodLink RX1 46 yX1_given, Cond.instanceMethod yX1_given, Cond.selects RX1 yX1_given yX1_given, Cond.code yX1_given cX1_given 4 (some .int), Cond.fieldLink RX1 18 "SedgeBarges$Beds" "age" "[I", Cond.fieldLink RX1 15 "SedgeBarges$Beds" "size" "[I", Cond.methodLink RX3 112 yX1_untiedOfAll, Cond.instanceMethod yX1_untiedOfAll, Cond.selects RX1 yX1_untiedOfAll yX1_untiedOfAll, Cond.code yX1_untiedOfAll cX1_untiedOfAll 3 (some .int), Cond.fieldLink RX1 24 "SedgeBarges$Beds" "untiedSedge" "[I", Cond.fieldLink RX1 27 "SedgeBarges$Beds" "untiedReed" "[I", Cond.methodLink RX3 115 yX1_tiedOfAll, Cond.instanceMethod yX1_tiedOfAll, Cond.selects RX1 yX1_tiedOfAll yX1_tiedOfAll, Cond.code yX1_tiedOfAll cX1_tiedOfAll 3 (some .int), Cond.fieldLink RX1 30 "SedgeBarges$Beds" "tiedSedge" "[I", Cond.fieldLink RX1 33 "SedgeBarges$Beds" "tiedReed" "[I"]
def wsL_count_r3 : List Cond := [Cond.methodLink RX3 119 yX0_aboardAll, Cond.instanceMethod yX0_aboardAll, Cond.selects RX0 yX0_aboardAll yX0_aboardAll, Cond.initialized RX0, Cond.code yX0_aboardAll cX0_aboardAll 3 (some .int), Cond.fieldLink RX0 27 "SedgeBarges$Barges" "number" "I", Cond.methodLink RX0 47 yX0_aboard, Cond.instanceMethod yX0_aboard, Cond.selects RX0 yX0_aboard yX0_aboard, Cond.code yX0_aboard cX0_aboard 2 (some .int), Cond.fieldLink RX0 18 "SedgeBarges$Barges" "sedge" "[I", Cond.fieldLink RX0 21 "SedgeBarges$Barges" "reed" "[I", Cond.methodLink RX3 122 yX2_storeOfAll, Cond.instanceMethod yX2_storeOfAll, Cond.selects RX2 yX2_storeOfAll yX2_storeOfAll, Cond.initialized RX2, Cond.code yX2_storeOfAll cX2_storeOfAll 3 (some .int), Cond.fieldLink RX2 9 "SedgeBarges$Landings" "store" "[I"]
def wsL_count : List Cond := .codeWith yL_count cL_count 4 (some .int) [(0, 9, 12, 13)] :: ((wsL_count_r1 ++ (wsL_count_r2 ++ wsL_count_r3)) ++ wsX40 ++ wsX30 ++ wsX10 ++ wsX00 ++ wsX20 ++ (vx_atS RX4 165 "java/lang/IndexOutOfBoundsException" ["java/lang/RuntimeException", "java/lang/Exception"]).filter goodWord)
def wsL_pass_r1 : List Cond := [Cond.classLink RL 15 "java/lang/IllegalArgumentException", Cond.methodLink RL 63 yX4_pass, Cond.instanceMethod yX4_pass, Cond.selects RX4 yX4_pass yX4_pass, Cond.initialized RX4, Cond.code yX4_pass cX4_pass 2 (some .int), Cond.fieldLink RX4 10 "SedgeBarges" "now" "LSedgeBarges$Waterway;", Cond.methodLink RX4 158 yX4_needDays, Cond.static yX4_needDays, Cond.code yX4_needDays cX4_needDays 1 none, Cond.classLink RX4 23 "java/lang/IllegalArgumentException", Cond.initialized "java/lang/IllegalArgumentException", Cond.methodLink RX4 150 yX3_passDays, Cond.instanceMethod yX3_passDays, Cond.selects RX3 yX3_passDays yX3_passDays, Cond.initialized RX3, Cond.code yX3_passDays cX3_passDays 4 (some .int), Cond.fieldLink RX3 42 "SedgeBarges$Waterway" "rotted" "I", Cond.methodLink RX3 90 yX3_passDay, Cond.instanceMethod yX3_passDay, Cond.selects RX3 yX3_passDay yX3_passDay, Cond.code yX3_passDay cX3_passDay 1 none, Cond.fieldLink RX3 28 "SedgeBarges$Waterway" "barges" "LSedgeBarges$Barges;", Cond.fieldLink RX3 21 "SedgeBarges$Waterway" "beds" "LSedgeBarges$Beds;"]
def wsL_pass_r2 : List Cond := [Cond.fieldLink RX3 35 "SedgeBarges$Waterway" "landings" "LSedgeBarges$Landings;", Cond.fieldLink RX3 39 "SedgeBarges$Waterway" "day" "I", Cond.methodLink RX3 93 yX0_sailOn, Cond.instanceMethod yX0_sailOn, Cond.selects RX0 yX0_sailOn yX0_sailOn, Cond.initialized RX0, Cond.code yX0_sailOn cX0_sailOn 3 none, Cond.fieldLink RX0 27 "SedgeBarges$Barges" "number" "I", Cond.fieldLink RX0 15 "SedgeBarges$Barges" "goal" "[I", Cond.fieldLink RX0 9 "SedgeBarges$Barges" "place" "[I", Cond.methodLink RX0 37 Lib.Math.min.name, Cond.static Lib.Math.min.name, Cond.initialized "java/lang/Math", Cond.code Lib.Math.min.name Lib.Math.min.code 2 (some .int), Cond.methodLink RX0 41 Lib.Math.max.name, Cond.static Lib.Math.max.name, Cond.code Lib.Math.max.name Lib.Math.max.code 2 (some .int), Cond.methodLink RX3 96 yX1_rot, Cond.instanceMethod yX1_rot, Cond.selects RX1 yX1_rot yX1_rot, Cond.initialized RX1, Cond.code yX1_rot cX1_rot 5 (some .int), Cond.fieldLink RX1 39 "SedgeBarges$Beds" "number" "I", Cond.fieldLink RX1 24 "SedgeBarges$Beds" "untiedSedge" "[I"]
def wsL_pass_r3 : List Cond := [Cond.fieldLink RX1 27 "SedgeBarges$Beds" "untiedReed" "[I", Cond.static yX4_tenthRoundedUp, Cond.code yX4_tenthRoundedUp cX4_tenthRoundedUp 1 (some .int), Cond.methodLink RX3 100 yX2_thatch, Cond.instanceMethod yX2_thatch, Cond.selects RX2 yX2_thatch yX2_thatch, Cond.initialized RX2, Cond.code yX2_thatch cX2_thatch 2 none, Cond.fieldLink RX2 9 "SedgeBarges$Landings" "store" "[I", Cond.static yX4_twentiethRoundedUp, Cond.code yX4_twentiethRoundedUp cX4_twentiethRoundedUp 1 (some .int), Cond.methodLink RX3 103 yX1_endYear, Cond.instanceMethod yX1_endYear, Cond.selects RX1 yX1_endYear yX1_endYear, Cond.code yX1_endYear cX1_endYear 2 none, Cond.fieldLink RX1 36 "SedgeBarges$Beds" "change" "[I", Cond.fieldLink RX1 18 "SedgeBarges$Beds" "age" "[I", Cond.fieldLink RX1 21 "SedgeBarges$Beds" "sedge" "[I", Cond.methodLink RX1 53 Lib.Math.min.name, Cond.methodLink RX1 69 Lib.Math.max.name, Cond.methodLink RX1 62 yX1_changeByAge, Cond.static yX1_changeByAge, Cond.code yX1_changeByAge cX1_changeByAge 1 (some .int), Cond.methodLink RX1 65 yX1_isCreptInto]
def wsL_pass_r4 : List Cond := [Cond.instanceMethod yX1_isCreptInto, Cond.selects RX1 yX1_isCreptInto yX1_isCreptInto, Cond.code yX1_isCreptInto cX1_isCreptInto 3 (some .boolean), Cond.fieldLink RX1 9 "SedgeBarges$Beds" "place" "[I", Cond.methodLink RX1 72 Lib.Math.abs.name, Cond.static Lib.Math.abs.name, Cond.code Lib.Math.abs.name Lib.Math.abs.code 1 (some .int)]
def wsL_pass : List Cond := .codeWith yL_pass cL_pass 4 (some .int) [(0, 9, 12, 15)] :: ((wsL_pass_r1 ++ (wsL_pass_r2 ++ (wsL_pass_r3 ++ wsL_pass_r4))) ++ wsX40 ++ wsX30 ++ wsX00 ++ wsX10 ++ wsX20 ++ (vx_atS RX4 27 "java/lang/IllegalArgumentException" ["java/lang/RuntimeException", "java/lang/Exception"]).filter goodWord)
def wsL_foresee_r1 : List Cond := [Cond.classLink RL 15 "java/lang/IllegalArgumentException", Cond.classLink RL 13 "java/lang/IndexOutOfBoundsException", Cond.methodLink RL 66 yX4_foresee, Cond.instanceMethod yX4_foresee, Cond.selects RX4 yX4_foresee yX4_foresee, Cond.initialized RX4, Cond.code yX4_foresee cX4_foresee 3 (some .int), Cond.classLink RX4 161 "java/lang/IndexOutOfBoundsException", Cond.initialized "java/lang/IndexOutOfBoundsException", Cond.fieldLink RX4 16 "SedgeBarges" "ahead" "LSedgeBarges$Waterway;", Cond.fieldLink RX4 10 "SedgeBarges" "now" "LSedgeBarges$Waterway;", Cond.methodLink RX4 158 yX4_needDays, Cond.static yX4_needDays, Cond.code yX4_needDays cX4_needDays 1 none, Cond.classLink RX4 23 "java/lang/IllegalArgumentException", Cond.initialized "java/lang/IllegalArgumentException", Cond.methodLink RX4 144 yX3_copyFrom, Cond.instanceMethod yX3_copyFrom, Cond.selects RX3 yX3_copyFrom yX3_copyFrom, Cond.initialized RX3, Cond.code yX3_copyFrom cX3_copyFrom 2 none, Cond.fieldLink RX3 39 "SedgeBarges$Waterway" "day" "I", Cond.fieldLink RX3 9 "SedgeBarges$Waterway" "coins" "I", Cond.fieldLink RX3 15 "SedgeBarges$Waterway" "ties" "I"]
def wsL_foresee_r2 : List Cond := [Cond.fieldLink RX3 42 "SedgeBarges$Waterway" "rotted" "I", Cond.fieldLink RX3 21 "SedgeBarges$Waterway" "beds" "LSedgeBarges$Beds;", Cond.fieldLink RX3 28 "SedgeBarges$Waterway" "barges" "LSedgeBarges$Barges;", Cond.fieldLink RX3 35 "SedgeBarges$Waterway" "landings" "LSedgeBarges$Landings;", Cond.methodLink RX3 45 yX1_copyFrom, Cond.instanceMethod yX1_copyFrom, Cond.selects RX1 yX1_copyFrom yX1_copyFrom, Cond.initialized RX1, Cond.code yX1_copyFrom cX1_copyFrom 3 none, Cond.fieldLink RX1 39 "SedgeBarges$Beds" "number" "I", Cond.fieldLink RX1 9 "SedgeBarges$Beds" "place" "[I", Cond.fieldLink RX1 15 "SedgeBarges$Beds" "size" "[I", Cond.fieldLink RX1 18 "SedgeBarges$Beds" "age" "[I", Cond.fieldLink RX1 21 "SedgeBarges$Beds" "sedge" "[I", Cond.fieldLink RX1 24 "SedgeBarges$Beds" "untiedSedge" "[I", Cond.fieldLink RX1 27 "SedgeBarges$Beds" "untiedReed" "[I", Cond.fieldLink RX1 30 "SedgeBarges$Beds" "tiedSedge" "[I", Cond.fieldLink RX1 33 "SedgeBarges$Beds" "tiedReed" "[I", Cond.methodLink RX3 49 yX0_copyFrom, Cond.instanceMethod yX0_copyFrom, Cond.selects RX0 yX0_copyFrom yX0_copyFrom, Cond.initialized RX0, Cond.code yX0_copyFrom cX0_copyFrom 3 none, Cond.fieldLink RX0 27 "SedgeBarges$Barges" "number" "I"]
def wsL_foresee_r3 : List Cond := [Cond.fieldLink RX0 9 "SedgeBarges$Barges" "place" "[I", Cond.fieldLink RX0 15 "SedgeBarges$Barges" "goal" "[I", Cond.fieldLink RX0 18 "SedgeBarges$Barges" "sedge" "[I", Cond.fieldLink RX0 21 "SedgeBarges$Barges" "reed" "[I", Cond.fieldLink RX0 24 "SedgeBarges$Barges" "brought" "[I", Cond.methodLink RX3 52 yX2_copyFrom, Cond.instanceMethod yX2_copyFrom, Cond.selects RX2 yX2_copyFrom yX2_copyFrom, Cond.initialized RX2, Cond.code yX2_copyFrom cX2_copyFrom 3 none, Cond.fieldLink RX2 9 "SedgeBarges$Landings" "store" "[I", Cond.methodLink RX4 150 yX3_passDays, Cond.instanceMethod yX3_passDays, Cond.selects RX3 yX3_passDays yX3_passDays, Cond.code yX3_passDays cX3_passDays 4 (some .int), Cond.methodLink RX3 90 yX3_passDay, Cond.instanceMethod yX3_passDay, Cond.selects RX3 yX3_passDay yX3_passDay, Cond.code yX3_passDay cX3_passDay 1 none, Cond.methodLink RX3 93 yX0_sailOn, Cond.instanceMethod yX0_sailOn, Cond.selects RX0 yX0_sailOn yX0_sailOn, Cond.code yX0_sailOn cX0_sailOn 3 none, Cond.methodLink RX0 37 Lib.Math.min.name]
def wsL_foresee_r4 : List Cond := [Cond.static Lib.Math.min.name, Cond.initialized "java/lang/Math", Cond.code Lib.Math.min.name Lib.Math.min.code 2 (some .int), Cond.methodLink RX0 41 Lib.Math.max.name, Cond.static Lib.Math.max.name, Cond.code Lib.Math.max.name Lib.Math.max.code 2 (some .int), Cond.methodLink RX3 96 yX1_rot, Cond.instanceMethod yX1_rot, Cond.selects RX1 yX1_rot yX1_rot, Cond.code yX1_rot cX1_rot 5 (some .int), Cond.static yX4_tenthRoundedUp, Cond.code yX4_tenthRoundedUp cX4_tenthRoundedUp 1 (some .int), Cond.methodLink RX3 100 yX2_thatch, Cond.instanceMethod yX2_thatch, Cond.selects RX2 yX2_thatch yX2_thatch, Cond.code yX2_thatch cX2_thatch 2 none, Cond.static yX4_twentiethRoundedUp, Cond.code yX4_twentiethRoundedUp cX4_twentiethRoundedUp 1 (some .int), Cond.methodLink RX3 103 yX1_endYear, Cond.instanceMethod yX1_endYear, Cond.selects RX1 yX1_endYear yX1_endYear, Cond.code yX1_endYear cX1_endYear 2 none, Cond.fieldLink RX1 36 "SedgeBarges$Beds" "change" "[I", Cond.methodLink RX1 53 Lib.Math.min.name]
def wsL_foresee_r5 : List Cond := [Cond.methodLink RX1 69 Lib.Math.max.name, Cond.methodLink RX1 62 yX1_changeByAge, Cond.static yX1_changeByAge, Cond.code yX1_changeByAge cX1_changeByAge 1 (some .int), Cond.methodLink RX1 65 yX1_isCreptInto, Cond.instanceMethod yX1_isCreptInto, Cond.selects RX1 yX1_isCreptInto yX1_isCreptInto, Cond.code yX1_isCreptInto cX1_isCreptInto 3 (some .boolean), Cond.methodLink RX1 72 Lib.Math.abs.name, Cond.static Lib.Math.abs.name, Cond.code Lib.Math.abs.name Lib.Math.abs.code 1 (some .int), Cond.methodLink RX4 156 yX3_tell, Cond.instanceMethod yX3_tell, Cond.selects RX3 yX3_tell yX3_tell, Cond.code yX3_tell cX3_tell 2 (some .int), Cond.methodLink RX3 109 yX1_givenByAll, Cond.instanceMethod yX1_givenByAll, Cond.selects RX1 yX1_givenByAll yX1_givenByAll, Cond.code yX1_givenByAll cX1_givenByAll 3 (some .int), Cond.methodLink RX1 46 yX1_given, Cond.instanceMethod yX1_given, Cond.selects RX1 yX1_given yX1_given, Cond.code yX1_given cX1_given 4 (some .int), Cond.methodLink RX3 112 yX1_untiedOfAll]
def wsL_foresee_r6 : List Cond := [Cond.instanceMethod yX1_untiedOfAll, Cond.selects RX1 yX1_untiedOfAll yX1_untiedOfAll, Cond.code yX1_untiedOfAll cX1_untiedOfAll 3 (some .int), Cond.methodLink RX3 115 yX1_tiedOfAll, Cond.instanceMethod yX1_tiedOfAll, Cond.selects RX1 yX1_tiedOfAll yX1_tiedOfAll, Cond.code yX1_tiedOfAll cX1_tiedOfAll 3 (some .int), Cond.methodLink RX3 119 yX0_aboardAll, Cond.instanceMethod yX0_aboardAll, Cond.selects RX0 yX0_aboardAll yX0_aboardAll, Cond.code yX0_aboardAll cX0_aboardAll 3 (some .int), Cond.methodLink RX0 47 yX0_aboard, Cond.instanceMethod yX0_aboard, Cond.selects RX0 yX0_aboard yX0_aboard, Cond.code yX0_aboard cX0_aboard 2 (some .int), Cond.methodLink RX3 122 yX2_storeOfAll, Cond.instanceMethod yX2_storeOfAll, Cond.selects RX2 yX2_storeOfAll yX2_storeOfAll, Cond.code yX2_storeOfAll cX2_storeOfAll 3 (some .int)]
def wsL_foresee : List Cond := .codeWith yL_foresee cL_foresee 5 (some .int) [(0, 10, 13, 15), (0, 10, 17, 13)] :: ((wsL_foresee_r1 ++ (wsL_foresee_r2 ++ (wsL_foresee_r3 ++ (wsL_foresee_r4 ++ (wsL_foresee_r5 ++ wsL_foresee_r6))))) ++ wsX40 ++ wsX30 ++ wsX10 ++ wsX00 ++ wsX20 ++ (vx_atS RX4 165 "java/lang/IndexOutOfBoundsException" ["java/lang/RuntimeException", "java/lang/Exception"]).filter goodWord ++ (vx_atS RX4 27 "java/lang/IllegalArgumentException" ["java/lang/RuntimeException", "java/lang/Exception"]).filter goodWord)
def wsL_law0_r1 : List Cond := [Cond.classLink RL 8 RX4, Cond.instantiable RX4 2, Cond.initialized RX4, Cond.classLink RL 70 RX5, Cond.instantiable RX5 14, Cond.initialized RX5, Cond.arrayClass .long, Cond.methodLink RL 69 yX4_init, Cond.instanceMethod yX4_init, Cond.code yX4_init cX4_init 1 none, Cond.methodLink RX4 1 objectInit, Cond.instanceMethod objectInit, Cond.code objectInit ⟨#[0xb1]⟩ 1 none, Cond.classLink RX4 7 RX3, Cond.instantiable RX3 7, Cond.initialized RX3, Cond.fieldLink RX4 10 "SedgeBarges" "now" "LSedgeBarges$Waterway;", Cond.fieldLink RX4 16 "SedgeBarges" "ahead" "LSedgeBarges$Waterway;", Cond.instanceMethod yX3_init, Cond.code yX3_init cX3_init 1 none, Cond.methodLink RX3 3 objectInit, Cond.fieldLink RX3 9 "SedgeBarges$Waterway" "coins" "I", Cond.fieldLink RX3 15 "SedgeBarges$Waterway" "ties" "I", Cond.classLink RX3 18 RX1]
def wsL_law0_r2 : List Cond := [Cond.instantiable RX1 10, Cond.initialized RX1, Cond.fieldLink RX3 21 "SedgeBarges$Waterway" "beds" "LSedgeBarges$Beds;", Cond.classLink RX3 25 RX0, Cond.instantiable RX0 6, Cond.initialized RX0, Cond.fieldLink RX3 28 "SedgeBarges$Waterway" "barges" "LSedgeBarges$Barges;", Cond.classLink RX3 32 RX2, Cond.instantiable RX2 1, Cond.initialized RX2, Cond.fieldLink RX3 35 "SedgeBarges$Waterway" "landings" "LSedgeBarges$Landings;", Cond.instanceMethod yX1_init, Cond.code yX1_init cX1_init 1 none, Cond.methodLink RX1 3 objectInit, Cond.arrayClass .int, Cond.fieldLink RX1 9 "SedgeBarges$Beds" "place" "[I", Cond.fieldLink RX1 15 "SedgeBarges$Beds" "size" "[I", Cond.fieldLink RX1 18 "SedgeBarges$Beds" "age" "[I", Cond.fieldLink RX1 21 "SedgeBarges$Beds" "sedge" "[I", Cond.fieldLink RX1 24 "SedgeBarges$Beds" "untiedSedge" "[I", Cond.fieldLink RX1 27 "SedgeBarges$Beds" "untiedReed" "[I", Cond.fieldLink RX1 30 "SedgeBarges$Beds" "tiedSedge" "[I", Cond.fieldLink RX1 33 "SedgeBarges$Beds" "tiedReed" "[I", Cond.fieldLink RX1 36 "SedgeBarges$Beds" "change" "[I"]
def wsL_law0_r3 : List Cond := [Cond.instanceMethod yX0_init, Cond.code yX0_init cX0_init 1 none, Cond.methodLink RX0 3 objectInit, Cond.fieldLink RX0 9 "SedgeBarges$Barges" "place" "[I", Cond.fieldLink RX0 15 "SedgeBarges$Barges" "goal" "[I", Cond.fieldLink RX0 18 "SedgeBarges$Barges" "sedge" "[I", Cond.fieldLink RX0 21 "SedgeBarges$Barges" "reed" "[I", Cond.fieldLink RX0 24 "SedgeBarges$Barges" "brought" "[I", Cond.instanceMethod yX2_init, Cond.code yX2_init cX2_init 1 none, Cond.methodLink RX2 3 objectInit, Cond.fieldLink RX2 9 "SedgeBarges$Landings" "store" "[I", Cond.methodLink RL 72 yX5_init, Cond.instanceMethod yX5_init, Cond.code yX5_init cX5_init 1 none, Cond.methodLink RX5 1 objectInit, Cond.fieldLink RX5 7 "SedgeBargesModel" "coins" "I", Cond.fieldLink RX5 13 "SedgeBargesModel" "ties" "I", Cond.fieldLink RX5 16 "SedgeBargesModel" "b" "[I", Cond.fieldLink RX5 20 "SedgeBargesModel" "g" "[I", Cond.fieldLink RX5 23 "SedgeBargesModel" "store" "[I", Cond.fieldLink RX5 26 "SedgeBargesModel" "bAhead" "[I", Cond.fieldLink RX5 29 "SedgeBargesModel" "gAhead" "[I", Cond.fieldLink RX5 32 "SedgeBargesModel" "storeAhead" "[I"]
def wsL_law0_r4 : List Cond := [Cond.fieldLink RX5 35 "SedgeBargesModel" "more" "[I", Cond.methodLink RL 73 yL_bed, Cond.static yL_bed, Cond.initialized RL, Cond.codeWith yL_bed cL_bed 6 (some .int) [(0, 12, 15, 13), (0, 12, 19, 15), (0, 12, 23, 17)], Cond.classLink RL 13 "java/lang/IndexOutOfBoundsException", Cond.classLink RL 15 "java/lang/IllegalArgumentException", Cond.classLink RL 17 "java/lang/IllegalStateException", Cond.methodLink RL 7 yX4_bed, Cond.instanceMethod yX4_bed, Cond.selects RX4 yX4_bed yX4_bed, Cond.code yX4_bed cX4_bed 4 (some .int), Cond.classLink RX4 23 "java/lang/IllegalArgumentException", Cond.initialized "java/lang/IllegalArgumentException", Cond.classLink RX4 42 "java/lang/IllegalStateException", Cond.initialized "java/lang/IllegalStateException", Cond.methodLink RX4 19 yX4_needPlace, Cond.static yX4_needPlace, Cond.code yX4_needPlace cX4_needPlace 1 none, Cond.classLink RX4 161 "java/lang/IndexOutOfBoundsException", Cond.initialized "java/lang/IndexOutOfBoundsException", Cond.methodLink RX4 36 yX1_areFull, Cond.instanceMethod yX1_areFull, Cond.selects RX1 yX1_areFull yX1_areFull]
def wsL_law0_r5 : List Cond := [Cond.code yX1_areFull cX1_areFull 1 (some .boolean), Cond.fieldLink RX1 39 "SedgeBarges$Beds" "number" "I", Cond.methodLink RX4 47 yX1_add, Cond.instanceMethod yX1_add, Cond.selects RX1 yX1_add yX1_add, Cond.code yX1_add cX1_add 5 (some .int), Cond.methodLink RL 78 yX5_bed, Cond.instanceMethod yX5_bed, Cond.selects RX5 yX5_bed yX5_bed, Cond.code yX5_bed cX5_bed 5 (some .int), Cond.fieldLink RX5 38 "SedgeBargesModel" "thrown" "I", Cond.fieldLink RX5 41 "SedgeBargesModel" "beds" "I", Cond.methodLink RX5 44 yX5_isIn, Cond.static yX5_isIn, Cond.code yX5_isIn cX5_isIn 3 (some .boolean), Cond.methodLink RX5 58 yX5_no, Cond.instanceMethod yX5_no, Cond.selects RX5 yX5_no yX5_no, Cond.code yX5_no cX5_no 2 (some .int), Cond.methodLink RL 79 yX5_thrown, Cond.instanceMethod yX5_thrown, Cond.selects RX5 yX5_thrown yX5_thrown, Cond.code yX5_thrown cX5_thrown 1 (some .int), Cond.methodLink RL 83 yL_cut]
def wsL_law0_r6 : List Cond := [Cond.static yL_cut, Cond.codeWith yL_cut cL_cut 4 (some .int) [(0, 9, 12, 13), (0, 9, 15, 17)], Cond.methodLink RL 19 yX4_cut, Cond.instanceMethod yX4_cut, Cond.selects RX4 yX4_cut yX4_cut, Cond.code yX4_cut cX4_cut 2 (some .int), Cond.methodLink RX4 51 yX4_needBed, Cond.instanceMethod yX4_needBed, Cond.selects RX4 yX4_needBed yX4_needBed, Cond.code yX4_needBed cX4_needBed 2 none, Cond.methodLink RX4 60 yX1_cutDown, Cond.instanceMethod yX1_cutDown, Cond.selects RX1 yX1_cutDown yX1_cutDown, Cond.code yX1_cutDown cX1_cutDown 4 (some .int), Cond.methodLink RX1 46 yX1_given, Cond.instanceMethod yX1_given, Cond.selects RX1 yX1_given yX1_given, Cond.code yX1_given cX1_given 4 (some .int), Cond.methodLink RX1 50 yX1_sedgeGiven, Cond.instanceMethod yX1_sedgeGiven, Cond.selects RX1 yX1_sedgeGiven yX1_sedgeGiven, Cond.code yX1_sedgeGiven cX1_sedgeGiven 2 (some .int), Cond.methodLink RL 86 yX5_cut, Cond.instanceMethod yX5_cut]
def wsL_law0_r7 : List Cond := [Cond.selects RX5 yX5_cut yX5_cut, Cond.code yX5_cut cX5_cut 5 (some .int), Cond.methodLink RX5 62 yX5_isBed, Cond.instanceMethod yX5_isBed, Cond.selects RX5 yX5_isBed yX5_isBed, Cond.code yX5_isBed cX5_isBed 2 (some .boolean), Cond.methodLink RX5 54 yX5_gives, Cond.static yX5_gives, Cond.code yX5_gives cX5_gives 2 (some .int), Cond.fieldLink RX5 51 "SedgeBargesModel" "GROWTH" "[I", Cond.methodLink RX5 66 yX5_givesSedge, Cond.static yX5_givesSedge, Cond.code yX5_givesSedge cX5_givesSedge 2 (some .int), Cond.methodLink RL 87 yL_tie, Cond.static yL_tie, Cond.codeWith yL_tie cL_tie 4 (some .int) [(0, 9, 12, 13)], Cond.methodLink RL 23 yX4_tie, Cond.instanceMethod yX4_tie, Cond.selects RX4 yX4_tie yX4_tie, Cond.code yX4_tie cX4_tie 3 (some .int), Cond.methodLink RX4 68 yX1_tieUp, Cond.instanceMethod yX1_tieUp, Cond.selects RX1 yX1_tieUp yX1_tieUp, Cond.code yX1_tieUp cX1_tieUp 5 (some .int)]
def wsL_law0_r8 : List Cond := [Cond.methodLink RX1 53 Lib.Math.min.name, Cond.static Lib.Math.min.name, Cond.initialized "java/lang/Math", Cond.code Lib.Math.min.name Lib.Math.min.code 2 (some .int), Cond.methodLink RL 89 yX5_tie, Cond.instanceMethod yX5_tie, Cond.selects RX5 yX5_tie yX5_tie, Cond.code yX5_tie cX5_tie 2 (some .int), Cond.methodLink RX5 69 yX5_tieOf, Cond.instanceMethod yX5_tieOf, Cond.selects RX5 yX5_tieOf yX5_tieOf, Cond.code yX5_tieOf cX5_tieOf 4 (some .int), Cond.methodLink RX5 73 Lib.Math.min.name, Cond.methodLink RL 90 yL_buy, Cond.static yL_buy, Cond.codeWith yL_buy cL_buy 4 (some .int) [(0, 9, 12, 15), (0, 9, 15, 17)], Cond.methodLink RL 26 yX4_buy, Cond.instanceMethod yX4_buy, Cond.selects RX4 yX4_buy yX4_buy, Cond.code yX4_buy cX4_buy 3 (some .int), Cond.methodLink RX4 74 yX4_tenthRoundedUp, Cond.static yX4_tenthRoundedUp, Cond.code yX4_tenthRoundedUp cX4_tenthRoundedUp 1 (some .int), Cond.methodLink RL 92 yX5_buy]
def wsL_law0_r9 : List Cond := [Cond.instanceMethod yX5_buy, Cond.selects RX5 yX5_buy yX5_buy, Cond.code yX5_buy cX5_buy 2 (some .int), Cond.methodLink RL 93 yL_about, Cond.static yL_about, Cond.codeWith yL_about cL_about 5 (some .int) [(0, 10, 13, 13)], Cond.methodLink RL 29 yX4_about, Cond.instanceMethod yX4_about, Cond.selects RX4 yX4_about yX4_about, Cond.code yX4_about cX4_about 3 (some .int), Cond.methodLink RX4 82 yX4_needFigure, Cond.static yX4_needFigure, Cond.code yX4_needFigure cX4_needFigure 2 none, Cond.methodLink RX4 86 yX1_tell, Cond.instanceMethod yX1_tell, Cond.selects RX1 yX1_tell yX1_tell, Cond.code yX1_tell cX1_tell 3 (some .int), Cond.methodLink RL 96 yX5_about, Cond.instanceMethod yX5_about, Cond.selects RX5 yX5_about yX5_about, Cond.code yX5_about cX5_about 3 (some .int), Cond.methodLink RX5 78 yX5_bedTold, Cond.instanceMethod yX5_bedTold, Cond.selects RX5 yX5_bedTold yX5_bedTold]
def wsL_law0_r10 : List Cond := [Cond.code yX5_bedTold cX5_bedTold 4 (some .int), Cond.methodLink RL 97 yL_best, Cond.static yL_best, Cond.codeWith yL_best cL_best 4 (some .int) [(0, 9, 12, 13)], Cond.methodLink RL 33 yX4_best, Cond.instanceMethod yX4_best, Cond.selects RX4 yX4_best yX4_best, Cond.code yX4_best cX4_best 6 (some .int), Cond.methodLink RX4 89 yX1_copyFrom, Cond.instanceMethod yX1_copyFrom, Cond.selects RX1 yX1_copyFrom yX1_copyFrom, Cond.code yX1_copyFrom cX1_copyFrom 3 none, Cond.methodLink RX4 93 yX1_sedgeGiven, Cond.methodLink RX4 96 yX1_endYear, Cond.instanceMethod yX1_endYear, Cond.selects RX1 yX1_endYear yX1_endYear, Cond.code yX1_endYear cX1_endYear 2 none, Cond.methodLink RX1 69 Lib.Math.max.name, Cond.static Lib.Math.max.name, Cond.code Lib.Math.max.name Lib.Math.max.code 2 (some .int), Cond.methodLink RX1 62 yX1_changeByAge, Cond.static yX1_changeByAge, Cond.code yX1_changeByAge cX1_changeByAge 1 (some .int), Cond.methodLink RX1 65 yX1_isCreptInto]
def wsL_law0_r11 : List Cond := [Cond.instanceMethod yX1_isCreptInto, Cond.selects RX1 yX1_isCreptInto yX1_isCreptInto, Cond.code yX1_isCreptInto cX1_isCreptInto 3 (some .boolean), Cond.methodLink RX1 72 Lib.Math.abs.name, Cond.static Lib.Math.abs.name, Cond.code Lib.Math.abs.name Lib.Math.abs.code 1 (some .int), Cond.methodLink RL 99 yX5_best, Cond.instanceMethod yX5_best, Cond.selects RX5 yX5_best yX5_best, Cond.code yX5_best cX5_best 6 (some .int), Cond.methodLink RX5 81 yX5_lookAhead, Cond.instanceMethod yX5_lookAhead, Cond.selects RX5 yX5_lookAhead yX5_lookAhead, Cond.code yX5_lookAhead cX5_lookAhead 1 none, Cond.methodLink RX5 158 arraycopyName, Cond.native arraycopyName, Cond.static arraycopyName, Cond.initialized "java/lang/System", Cond.methodLink RX5 84 yX5_endYear, Cond.instanceMethod yX5_endYear, Cond.selects RX5 yX5_endYear yX5_endYear, Cond.code yX5_endYear cX5_endYear 4 none, Cond.methodLink RX5 110 Lib.Math.max.name, Cond.methodLink RX5 137 yX5_hasReedBeside]
def wsL_law0_r12 : List Cond := [Cond.instanceMethod yX5_hasReedBeside, Cond.selects RX5 yX5_hasReedBeside yX5_hasReedBeside, Cond.code yX5_hasReedBeside cX5_hasReedBeside 5 (some .boolean), Cond.methodLink RX5 88 Lib.Math.abs.name, Cond.methodLink RL 100 yL_barge, Cond.static yL_barge, Cond.codeWith yL_barge cL_barge 4 (some .int) [(0, 9, 12, 13), (0, 9, 15, 17)], Cond.methodLink RL 36 yX4_barge, Cond.instanceMethod yX4_barge, Cond.selects RX4 yX4_barge yX4_barge, Cond.code yX4_barge cX4_barge 2 (some .int), Cond.methodLink RX4 103 yX0_areFull, Cond.instanceMethod yX0_areFull, Cond.selects RX0 yX0_areFull yX0_areFull, Cond.code yX0_areFull cX0_areFull 1 (some .boolean), Cond.fieldLink RX0 27 "SedgeBarges$Barges" "number" "I", Cond.methodLink RX4 108 yX0_add, Cond.instanceMethod yX0_add, Cond.selects RX0 yX0_add yX0_add, Cond.code yX0_add cX0_add 3 (some .int), Cond.methodLink RL 102 yX5_barge, Cond.instanceMethod yX5_barge, Cond.selects RX5 yX5_barge yX5_barge, Cond.code yX5_barge cX5_barge 2 (some .int)]
def wsL_law0_r13 : List Cond := [Cond.fieldLink RX5 48 "SedgeBargesModel" "barges" "I", Cond.methodLink RL 103 yL_sail, Cond.static yL_sail, Cond.codeWith yL_sail cL_sail 5 (some .int) [(0, 10, 13, 13)], Cond.methodLink RL 39 yX4_sail, Cond.instanceMethod yX4_sail, Cond.selects RX4 yX4_sail yX4_sail, Cond.code yX4_sail cX4_sail 3 (some .int), Cond.methodLink RX4 110 yX4_needBarge, Cond.instanceMethod yX4_needBarge, Cond.selects RX4 yX4_needBarge yX4_needBarge, Cond.code yX4_needBarge cX4_needBarge 2 none, Cond.methodLink RX4 113 yX0_send, Cond.instanceMethod yX0_send, Cond.selects RX0 yX0_send yX0_send, Cond.code yX0_send cX0_send 4 (some .int), Cond.methodLink RX0 31 Lib.Math.abs.name, Cond.methodLink RL 105 yX5_sail, Cond.instanceMethod yX5_sail, Cond.selects RX5 yX5_sail yX5_sail, Cond.code yX5_sail cX5_sail 4 (some .int), Cond.methodLink RX5 91 yX5_isBarge, Cond.instanceMethod yX5_isBarge, Cond.selects RX5 yX5_isBarge yX5_isBarge]
def wsL_law0_r14 : List Cond := [Cond.code yX5_isBarge cX5_isBarge 2 (some .boolean), Cond.methodLink RX5 94 yX5_days, Cond.static yX5_days, Cond.code yX5_days cX5_days 2 (some .int), Cond.methodLink RL 106 yL_load, Cond.static yL_load, Cond.codeWith yL_load cL_load 5 (some .int) [(0, 10, 13, 13), (0, 10, 17, 17)], Cond.methodLink RL 42 yX4_load, Cond.instanceMethod yX4_load, Cond.selects RX4 yX4_load yX4_load, Cond.code yX4_load cX4_load 3 (some .int), Cond.methodLink RX4 122 yX3_takeAboard, Cond.instanceMethod yX3_takeAboard, Cond.selects RX3 yX3_takeAboard yX3_takeAboard, Cond.code yX3_takeAboard cX3_takeAboard 6 (some .int), Cond.methodLink RX3 63 Lib.Math.min.name, Cond.methodLink RX3 55 yX0_aboard, Cond.instanceMethod yX0_aboard, Cond.selects RX0 yX0_aboard yX0_aboard, Cond.code yX0_aboard cX0_aboard 2 (some .int), Cond.methodLink RL 108 yX5_load, Cond.instanceMethod yX5_load, Cond.selects RX5 yX5_load yX5_load, Cond.code yX5_load cX5_load 3 (some .int)]
def wsL_law0_r15 : List Cond := [Cond.methodLink RX5 97 yX5_loadOf, Cond.instanceMethod yX5_loadOf, Cond.selects RX5 yX5_loadOf yX5_loadOf, Cond.code yX5_loadOf cX5_loadOf 5 (some .int), Cond.methodLink RX5 101 yX5_aboard, Cond.instanceMethod yX5_aboard, Cond.selects RX5 yX5_aboard yX5_aboard, Cond.code yX5_aboard cX5_aboard 2 (some .int), Cond.methodLink RL 109 yL_sell, Cond.static yL_sell, Cond.codeWith yL_sell cL_sell 4 (some .int) [(0, 9, 12, 13), (0, 9, 15, 17)], Cond.methodLink RL 45 yX4_sell, Cond.instanceMethod yX4_sell, Cond.selects RX4 yX4_sell yX4_sell, Cond.code yX4_sell cX4_sell 3 (some .int), Cond.methodLink RX4 125 yX4_landingAt, Cond.static yX4_landingAt, Cond.code yX4_landingAt cX4_landingAt 2 (some .int), Cond.fieldLink RX4 147 "SedgeBarges" "LANDING_PLACE" "[I", Cond.methodLink RX4 130 yX3_sellAll, Cond.instanceMethod yX3_sellAll, Cond.selects RX3 yX3_sellAll yX3_sellAll, Cond.code yX3_sellAll cX3_sellAll 5 (some .int), Cond.methodLink RX3 78 yX2_sedgePrice]
def wsL_law0_r16 : List Cond := [Cond.instanceMethod yX2_sedgePrice, Cond.selects RX2 yX2_sedgePrice yX2_sedgePrice, Cond.code yX2_sedgePrice cX2_sedgePrice 2 (some .int), Cond.methodLink RX2 18 Lib.Math.max.name, Cond.methodLink RX3 81 yX2_reedPrice, Cond.instanceMethod yX2_reedPrice, Cond.selects RX2 yX2_reedPrice yX2_reedPrice, Cond.code yX2_reedPrice cX2_reedPrice 2 (some .int), Cond.methodLink RX2 24 yX2_sedgePrice, Cond.methodLink RL 111 yX5_sell, Cond.instanceMethod yX5_sell, Cond.selects RX5 yX5_sell yX5_sell, Cond.code yX5_sell cX5_sell 5 (some .int), Cond.methodLink RX5 119 yX5_landingAt, Cond.static yX5_landingAt, Cond.code yX5_landingAt cX5_landingAt 2 (some .int), Cond.fieldLink RX5 104 "SedgeBargesModel" "LANDING" "[I", Cond.methodLink RX5 122 yX5_brings, Cond.instanceMethod yX5_brings, Cond.selects RX5 yX5_brings yX5_brings, Cond.code yX5_brings cX5_brings 4 (some .int), Cond.methodLink RX5 113 yX5_price, Cond.static yX5_price, Cond.code yX5_price cX5_price 2 (some .int)]
def wsL_law0_r17 : List Cond := [Cond.fieldLink RX5 107 "SedgeBargesModel" "WORTH" "[I", Cond.methodLink RX5 116 yX5_reedPrice, Cond.static yX5_reedPrice, Cond.code yX5_reedPrice cX5_reedPrice 2 (some .int), Cond.methodLink RL 112 yL_told, Cond.static yL_told, Cond.codeWith yL_told cL_told 5 (some .int) [(0, 10, 13, 13)], Cond.methodLink RL 48 yX4_told, Cond.instanceMethod yX4_told, Cond.selects RX4 yX4_told yX4_told, Cond.code yX4_told cX4_told 3 (some .int), Cond.methodLink RX4 133 yX0_tell, Cond.instanceMethod yX0_tell, Cond.selects RX0 yX0_tell yX0_tell, Cond.code yX0_tell cX0_tell 3 (some .int), Cond.methodLink RL 114 yX5_told, Cond.instanceMethod yX5_told, Cond.selects RX5 yX5_told yX5_told, Cond.code yX5_told cX5_told 3 (some .int), Cond.methodLink RX5 125 yX5_bargeTold, Cond.instanceMethod yX5_bargeTold, Cond.selects RX5 yX5_bargeTold yX5_bargeTold, Cond.code yX5_bargeTold cX5_bargeTold 4 (some .int), Cond.methodLink RL 115 yL_landing]
def wsL_law0_r18 : List Cond := [Cond.static yL_landing, Cond.codeWith yL_landing cL_landing 5 (some .int) [(0, 10, 13, 13)], Cond.methodLink RL 51 yX4_landing, Cond.instanceMethod yX4_landing, Cond.selects RX4 yX4_landing yX4_landing, Cond.code yX4_landing cX4_landing 3 (some .int), Cond.methodLink RX4 134 yX4_needLanding, Cond.static yX4_needLanding, Cond.code yX4_needLanding cX4_needLanding 1 none, Cond.methodLink RX4 141 yX2_tell, Cond.instanceMethod yX2_tell, Cond.selects RX2 yX2_tell yX2_tell, Cond.code yX2_tell cX2_tell 3 (some .int), Cond.methodLink RX2 34 yX2_reedPrice, Cond.methodLink RL 117 yX5_landing, Cond.instanceMethod yX5_landing, Cond.selects RX5 yX5_landing yX5_landing, Cond.code yX5_landing cX5_landing 3 (some .int), Cond.methodLink RX5 128 yX5_landingTold, Cond.instanceMethod yX5_landingTold, Cond.selects RX5 yX5_landingTold yX5_landingTold, Cond.code yX5_landingTold cX5_landingTold 3 (some .int), Cond.methodLink RL 118 yL_would, Cond.static yL_would]
def wsL_law0_r19 : List Cond := [Cond.codeWith yL_would cL_would 5 (some .int) [(0, 10, 13, 13)], Cond.methodLink RL 54 yX4_would, Cond.instanceMethod yX4_would, Cond.selects RX4 yX4_would yX4_would, Cond.code yX4_would cX4_would 4 (some .int), Cond.methodLink RX4 144 yX3_copyFrom, Cond.instanceMethod yX3_copyFrom, Cond.selects RX3 yX3_copyFrom yX3_copyFrom, Cond.code yX3_copyFrom cX3_copyFrom 2 none, Cond.fieldLink RX3 39 "SedgeBarges$Waterway" "day" "I", Cond.fieldLink RX3 42 "SedgeBarges$Waterway" "rotted" "I", Cond.methodLink RX3 45 yX1_copyFrom, Cond.methodLink RX3 49 yX0_copyFrom, Cond.instanceMethod yX0_copyFrom, Cond.selects RX0 yX0_copyFrom yX0_copyFrom, Cond.code yX0_copyFrom cX0_copyFrom 3 none, Cond.methodLink RX3 52 yX2_copyFrom, Cond.instanceMethod yX2_copyFrom, Cond.selects RX2 yX2_copyFrom yX2_copyFrom, Cond.code yX2_copyFrom cX2_copyFrom 3 none, Cond.methodLink RX4 150 yX3_passDays, Cond.instanceMethod yX3_passDays, Cond.selects RX3 yX3_passDays yX3_passDays, Cond.code yX3_passDays cX3_passDays 4 (some .int)]
def wsL_law0_r20 : List Cond := [Cond.methodLink RX3 90 yX3_passDay, Cond.instanceMethod yX3_passDay, Cond.selects RX3 yX3_passDay yX3_passDay, Cond.code yX3_passDay cX3_passDay 1 none, Cond.methodLink RX3 93 yX0_sailOn, Cond.instanceMethod yX0_sailOn, Cond.selects RX0 yX0_sailOn yX0_sailOn, Cond.code yX0_sailOn cX0_sailOn 3 none, Cond.methodLink RX0 37 Lib.Math.min.name, Cond.methodLink RX0 41 Lib.Math.max.name, Cond.methodLink RX3 96 yX1_rot, Cond.instanceMethod yX1_rot, Cond.selects RX1 yX1_rot yX1_rot, Cond.code yX1_rot cX1_rot 5 (some .int), Cond.methodLink RX3 100 yX2_thatch, Cond.instanceMethod yX2_thatch, Cond.selects RX2 yX2_thatch yX2_thatch, Cond.code yX2_thatch cX2_thatch 2 none, Cond.static yX4_twentiethRoundedUp, Cond.code yX4_twentiethRoundedUp cX4_twentiethRoundedUp 1 (some .int), Cond.methodLink RX3 103 yX1_endYear, Cond.methodLink RL 120 yX5_would, Cond.instanceMethod yX5_would, Cond.selects RX5 yX5_would yX5_would]
def wsL_law0_r21 : List Cond := [Cond.code yX5_would cX5_would 3 (some .int), Cond.methodLink RX5 134 yX5_wouldBring, Cond.instanceMethod yX5_wouldBring, Cond.selects RX5 yX5_wouldBring yX5_wouldBring, Cond.code yX5_wouldBring cX5_wouldBring 5 (some .int), Cond.methodLink RX5 131 yX5_left, Cond.static yX5_left, Cond.code yX5_left cX5_left 1 (some .int), Cond.methodLink RL 121 yL_advise, Cond.static yL_advise, Cond.codeWith yL_advise cL_advise 4 (some .int) [(0, 9, 12, 13)], Cond.methodLink RL 57 yX4_advise, Cond.instanceMethod yX4_advise, Cond.selects RX4 yX4_advise yX4_advise, Cond.code yX4_advise cX4_advise 6 (some .int), Cond.methodLink RX4 153 yX4_would, Cond.methodLink RL 123 yX5_advise, Cond.instanceMethod yX5_advise, Cond.selects RX5 yX5_advise yX5_advise, Cond.code yX5_advise cX5_advise 4 (some .int), Cond.methodLink RL 124 yL_count, Cond.static yL_count, Cond.codeWith yL_count cL_count 4 (some .int) [(0, 9, 12, 13)], Cond.methodLink RL 60 yX4_count]
def wsL_law0_r22 : List Cond := [Cond.instanceMethod yX4_count, Cond.selects RX4 yX4_count yX4_count, Cond.code yX4_count cX4_count 2 (some .int), Cond.methodLink RX4 156 yX3_tell, Cond.instanceMethod yX3_tell, Cond.selects RX3 yX3_tell yX3_tell, Cond.code yX3_tell cX3_tell 2 (some .int), Cond.methodLink RX3 109 yX1_givenByAll, Cond.instanceMethod yX1_givenByAll, Cond.selects RX1 yX1_givenByAll yX1_givenByAll, Cond.code yX1_givenByAll cX1_givenByAll 3 (some .int), Cond.methodLink RX3 112 yX1_untiedOfAll, Cond.instanceMethod yX1_untiedOfAll, Cond.selects RX1 yX1_untiedOfAll yX1_untiedOfAll, Cond.code yX1_untiedOfAll cX1_untiedOfAll 3 (some .int), Cond.methodLink RX3 115 yX1_tiedOfAll, Cond.instanceMethod yX1_tiedOfAll, Cond.selects RX1 yX1_tiedOfAll yX1_tiedOfAll, Cond.code yX1_tiedOfAll cX1_tiedOfAll 3 (some .int), Cond.methodLink RX3 119 yX0_aboardAll, Cond.instanceMethod yX0_aboardAll, Cond.selects RX0 yX0_aboardAll yX0_aboardAll, Cond.code yX0_aboardAll cX0_aboardAll 3 (some .int), Cond.methodLink RX0 47 yX0_aboard]
def wsL_law0_r23 : List Cond := [Cond.methodLink RX3 122 yX2_storeOfAll, Cond.instanceMethod yX2_storeOfAll, Cond.selects RX2 yX2_storeOfAll yX2_storeOfAll, Cond.code yX2_storeOfAll cX2_storeOfAll 3 (some .int), Cond.methodLink RL 126 yX5_count, Cond.instanceMethod yX5_count, Cond.selects RX5 yX5_count yX5_count, Cond.code yX5_count cX5_count 2 (some .int), Cond.methodLink RX5 179 yX5_counted, Cond.instanceMethod yX5_counted, Cond.selects RX5 yX5_counted yX5_counted, Cond.code yX5_counted cX5_counted 2 (some .int), Cond.fieldLink RX5 148 "SedgeBargesModel" "day" "I", Cond.fieldLink RX5 155 "SedgeBargesModel" "rotted" "I", Cond.methodLink RX5 168 yX5_sum, Cond.instanceMethod yX5_sum, Cond.selects RX5 yX5_sum yX5_sum, Cond.code yX5_sum cX5_sum 5 (some .int), Cond.methodLink RX5 171 yX5_aboardAll, Cond.instanceMethod yX5_aboardAll, Cond.selects RX5 yX5_aboardAll yX5_aboardAll, Cond.code yX5_aboardAll cX5_aboardAll 3 (some .int), Cond.methodLink RX5 175 yX5_summed, Cond.instanceMethod yX5_summed]
def wsL_law0_r24 : List Cond := [Cond.selects RX5 yX5_summed yX5_summed, Cond.code yX5_summed cX5_summed 5 (some .int), Cond.methodLink RX5 164 yX5_giveAll, Cond.instanceMethod yX5_giveAll, Cond.selects RX5 yX5_giveAll yX5_giveAll, Cond.code yX5_giveAll cX5_giveAll 4 (some .int), Cond.methodLink RL 127 yL_pass, Cond.static yL_pass, Cond.codeWith yL_pass cL_pass 4 (some .int) [(0, 9, 12, 15)], Cond.methodLink RL 63 yX4_pass, Cond.instanceMethod yX4_pass, Cond.selects RX4 yX4_pass yX4_pass, Cond.code yX4_pass cX4_pass 2 (some .int), Cond.methodLink RX4 158 yX4_needDays, Cond.static yX4_needDays, Cond.code yX4_needDays cX4_needDays 1 none, Cond.methodLink RL 129 yX5_pass_, Cond.instanceMethod yX5_pass_, Cond.selects RX5 yX5_pass_ yX5_pass_, Cond.code yX5_pass_ cX5_pass_ 4 (some .int), Cond.methodLink RX5 151 yX5_pass, Cond.instanceMethod yX5_pass, Cond.selects RX5 yX5_pass yX5_pass, Cond.code yX5_pass cX5_pass 7 (some .int)]
def wsL_law0_r25 : List Cond := [Cond.methodLink RX5 141 yX5_sailOn, Cond.instanceMethod yX5_sailOn, Cond.selects RX5 yX5_sailOn yX5_sailOn, Cond.code yX5_sailOn cX5_sailOn 5 none, Cond.methodLink RX5 145 yX5_rot, Cond.static yX5_rot, Cond.code yX5_rot cX5_rot 3 (some .int), Cond.methodLink RL 130 yL_foresee, Cond.static yL_foresee, Cond.codeWith yL_foresee cL_foresee 5 (some .int) [(0, 10, 13, 15), (0, 10, 17, 13)], Cond.methodLink RL 66 yX4_foresee, Cond.instanceMethod yX4_foresee, Cond.selects RX4 yX4_foresee yX4_foresee, Cond.code yX4_foresee cX4_foresee 3 (some .int), Cond.methodLink RL 132 yX5_foresee, Cond.instanceMethod yX5_foresee, Cond.selects RX5 yX5_foresee yX5_foresee, Cond.code yX5_foresee cX5_foresee 5 (some .int), Cond.methodLink RL 133 yX4_mean, Cond.instanceMethod yX4_mean, Cond.selects RX4 yX4_mean yX4_mean, Cond.code yX4_mean cX4_mean 1 (some .double), Cond.methodLink RX4 169 yX1_sedgeOfAll, Cond.instanceMethod yX1_sedgeOfAll]
def wsL_law0_r26 : List Cond := [Cond.selects RX1 yX1_sedgeOfAll yX1_sedgeOfAll, Cond.code yX1_sedgeOfAll cX1_sedgeOfAll 3 (some .int), Cond.methodLink RL 137 yX5_mean, Cond.instanceMethod yX5_mean, Cond.selects RX5 yX5_mean yX5_mean, Cond.code yX5_mean cX5_mean 1 (some .double), Cond.methodLink RL 138 yX4_digest, Cond.instanceMethod yX4_digest, Cond.selects RX4 yX4_digest yX4_digest, Cond.code yX4_digest cX4_digest 5 (some .long), Cond.constantLong RX4 173 (1277), Cond.constantLong RX4 175 (31), Cond.methodLink RL 142 yX5_digest, Cond.instanceMethod yX5_digest, Cond.selects RX5 yX5_digest yX5_digest, Cond.code yX5_digest cX5_digest 4 (some .long), Cond.constantLong RX5 182 (1277), Cond.constantLong RX5 184 (31)]
def wsL_law0 : List Cond := (wsL_law0_r1 ++ (wsL_law0_r2 ++ (wsL_law0_r3 ++ (wsL_law0_r4 ++ (wsL_law0_r5 ++ (wsL_law0_r6 ++ (wsL_law0_r7 ++ (wsL_law0_r8 ++ (wsL_law0_r9 ++ (wsL_law0_r10 ++ (wsL_law0_r11 ++ (wsL_law0_r12 ++ (wsL_law0_r13 ++ (wsL_law0_r14 ++ (wsL_law0_r15 ++ (wsL_law0_r16 ++ (wsL_law0_r17 ++ (wsL_law0_r18 ++ (wsL_law0_r19 ++ (wsL_law0_r20 ++ (wsL_law0_r21 ++ (wsL_law0_r22 ++ (wsL_law0_r23 ++ (wsL_law0_r24 ++ (wsL_law0_r25 ++ wsL_law0_r26))))))))))))))))))))))))) ++ wsX40 ++ wsX50 ++ wsX30 ++ wsX10 ++ wsX00 ++ wsX20 ++ ([] : List Cond)
def wsL_law : List Cond := wsL_law0 ++ (vx_atS RX4 27 "java/lang/IllegalArgumentException" ["java/lang/RuntimeException", "java/lang/Exception"]).filter goodWord ++ (vx_atS RX4 46 "java/lang/IllegalStateException" ["java/lang/RuntimeException", "java/lang/Exception"]).filter goodWord ++ (vx_atS RX4 165 "java/lang/IndexOutOfBoundsException" ["java/lang/RuntimeException", "java/lang/Exception"]).filter goodWord
set_option maxRecDepth 20000 in
theorem wsL_law_in0 : ∀ w ∈ wsL_law0, w ∈ lw_tbl := fun w h => (goodIn_p wsL_law0 [45, 48, 53, 59, 103, 134, 626, 267, 270, 359, 379, 678, 681, 685, 674, 386, 390, 396, 200, 230, 689, 693, 696, 701, 403, 407, 410, 705, 709, 417, 421, 714, 429, 432, 226, 718, 722, 440, 444, 449, 253, 452, 456, 459, 726, 730, 737, 741, 467, 471, 476, 747, 483, 487, 492, 751, 755, 758, 500, 505, 218, 762, 766, 770, 514, 237, 520, 248, 257, 774, 777, 783, 786, 791, 529, 234, 795, 799, 536, 539, 243, 803, 807, 547, 551, 556, 560, 564, 568, 572, 578, 583, 586, 811, 815, 818, 594, 822, 602, 192, 196, 206, 210, 214, 222, 841, 845, 849, 853, 857, 861, 609, 612, 826, 830, 834, 837, 620, 865, 178, 182, 869, 186, 873] (by decide +kernel) (by decide +kernel) w h).1
theorem wsL_law_x0 : ∀ w ∈ (vx_atS RX4 27 "java/lang/IllegalArgumentException" ["java/lang/RuntimeException", "java/lang/Exception"]).filter goodWord, w ∈ lw_tbl := by decide +kernel
theorem wsL_law_x1 : ∀ w ∈ (vx_atS RX4 46 "java/lang/IllegalStateException" ["java/lang/RuntimeException", "java/lang/Exception"]).filter goodWord, w ∈ lw_tbl := by decide +kernel
theorem wsL_law_x2 : ∀ w ∈ (vx_atS RX4 165 "java/lang/IndexOutOfBoundsException" ["java/lang/RuntimeException", "java/lang/Exception"]).filter goodWord, w ∈ lw_tbl := by decide +kernel
theorem wsL_law_in : ∀ w ∈ wsL_law, w ∈ lw_tbl := fun w h => (List.mem_append.mp h).elim (fun h => (List.mem_append.mp h).elim (fun h => (List.mem_append.mp h).elim (fun h => wsL_law_in0 w h) (fun h => wsL_law_x0 w h)) (fun h => wsL_law_x1 w h)) (fun h => wsL_law_x2 w h)
theorem inlX0 : ∀ w ∈ wsX00, w ∈ wsL_law := fun _ h => List.mem_append_left _ (List.mem_append_left _ (List.mem_append_left _ (List.mem_append_left _ (List.mem_append_left _ (List.mem_append_right _ h)))))
theorem inX0 : ∀ w ∈ wsX00, w ∈ lw_tbl := fun w h => wsL_law_in w (inlX0 w h)
theorem inlX1 : ∀ w ∈ wsX10, w ∈ wsL_law := fun _ h => List.mem_append_left _ (List.mem_append_left _ (List.mem_append_left _ (List.mem_append_left _ (List.mem_append_left _ (List.mem_append_left _ (List.mem_append_right _ h))))))
theorem inX1 : ∀ w ∈ wsX10, w ∈ lw_tbl := fun w h => wsL_law_in w (inlX1 w h)
theorem inlX2 : ∀ w ∈ wsX20, w ∈ wsL_law := fun _ h => List.mem_append_left _ (List.mem_append_left _ (List.mem_append_left _ (List.mem_append_left _ (List.mem_append_right _ h))))
theorem inX2 : ∀ w ∈ wsX20, w ∈ lw_tbl := fun w h => wsL_law_in w (inlX2 w h)
theorem inlX3 : ∀ w ∈ wsX30, w ∈ wsL_law := fun _ h => List.mem_append_left _ (List.mem_append_left _ (List.mem_append_left _ (List.mem_append_left _ (List.mem_append_left _ (List.mem_append_left _ (List.mem_append_left _ (List.mem_append_right _ h)))))))
theorem inX3 : ∀ w ∈ wsX30, w ∈ lw_tbl := fun w h => wsL_law_in w (inlX3 w h)
theorem inlX4 : ∀ w ∈ wsX40, w ∈ wsL_law := fun _ h => List.mem_append_left _ (List.mem_append_left _ (List.mem_append_left _ (List.mem_append_left _ (List.mem_append_left _ (List.mem_append_left _ (List.mem_append_left _ (List.mem_append_left _ (List.mem_append_left _ (List.mem_append_right _ h)))))))))
theorem inX4 : ∀ w ∈ wsX40, w ∈ lw_tbl := fun w h => wsL_law_in w (inlX4 w h)
theorem inlX5 : ∀ w ∈ wsX50, w ∈ wsL_law := fun _ h => List.mem_append_left _ (List.mem_append_left _ (List.mem_append_left _ (List.mem_append_left _ (List.mem_append_left _ (List.mem_append_left _ (List.mem_append_left _ (List.mem_append_left _ (List.mem_append_right _ h))))))))
theorem inX5 : ∀ w ∈ wsX50, w ∈ lw_tbl := fun w h => wsL_law_in w (inlX5 w h)
theorem inJ9 : ∀ w ∈ wsJ90, w ∈ lw_tbl := by decide +kernel
theorem inJ0 : ∀ w ∈ wsJ00, w ∈ lw_tbl := by decide +kernel
theorem inJ10 : ∀ w ∈ wsJ100, w ∈ lw_tbl := by decide +kernel
theorem dX0_init_0 : decode cX0_init 0 = .ok (.aload_n 0, 1) := by decide +kernel
theorem dX0_init_1 : decode cX0_init 1 = .ok (.invokespecial 3, 3) := by decide +kernel
theorem dX0_init_4 : decode cX0_init 4 = .ok (.aload_n 0, 1) := by decide +kernel
theorem dX0_init_5 : decode cX0_init 5 = .ok (.iconst 3, 1) := by decide +kernel
theorem dX0_init_6 : decode cX0_init 6 = .ok (.newarray .int, 2) := by decide +kernel
theorem dX0_init_8 : decode cX0_init 8 = .ok (.putfield 9, 3) := by decide +kernel
theorem dX0_init_11 : decode cX0_init 11 = .ok (.aload_n 0, 1) := by decide +kernel
theorem dX0_init_12 : decode cX0_init 12 = .ok (.iconst 3, 1) := by decide +kernel
theorem dX0_init_13 : decode cX0_init 13 = .ok (.newarray .int, 2) := by decide +kernel
theorem dX0_init_15 : decode cX0_init 15 = .ok (.putfield 15, 3) := by decide +kernel
theorem dX0_init_18 : decode cX0_init 18 = .ok (.aload_n 0, 1) := by decide +kernel
theorem dX0_init_19 : decode cX0_init 19 = .ok (.iconst 3, 1) := by decide +kernel
theorem dX0_init_20 : decode cX0_init 20 = .ok (.newarray .int, 2) := by decide +kernel
theorem dX0_init_22 : decode cX0_init 22 = .ok (.putfield 18, 3) := by decide +kernel
theorem dX0_init_25 : decode cX0_init 25 = .ok (.aload_n 0, 1) := by decide +kernel
theorem dX0_init_26 : decode cX0_init 26 = .ok (.iconst 3, 1) := by decide +kernel
theorem dX0_init_27 : decode cX0_init 27 = .ok (.newarray .int, 2) := by decide +kernel
theorem dX0_init_29 : decode cX0_init 29 = .ok (.putfield 21, 3) := by decide +kernel
theorem dX0_init_32 : decode cX0_init 32 = .ok (.aload_n 0, 1) := by decide +kernel
theorem dX0_init_33 : decode cX0_init 33 = .ok (.iconst 3, 1) := by decide +kernel
theorem dX0_init_34 : decode cX0_init 34 = .ok (.newarray .int, 2) := by decide +kernel
theorem dX0_init_36 : decode cX0_init 36 = .ok (.putfield 24, 3) := by decide +kernel
theorem dX0_init_39 : decode cX0_init 39 = .ok (.return_, 1) := by decide +kernel
theorem dX0_areFull_0 : decode cX0_areFull 0 = .ok (.aload_n 0, 1) := by decide +kernel
theorem dX0_areFull_1 : decode cX0_areFull 1 = .ok (.getfield 27, 3) := by decide +kernel
theorem dX0_areFull_4 : decode cX0_areFull 4 = .ok (.iconst 3, 1) := by decide +kernel
theorem dX0_areFull_5 : decode cX0_areFull 5 = .ok (.if_icmp .lt 7, 3) := by decide +kernel
theorem dX0_areFull_8 : decode cX0_areFull 8 = .ok (.iconst 1, 1) := by decide +kernel
theorem dX0_areFull_9 : decode cX0_areFull 9 = .ok (.goto 4, 3) := by decide +kernel
theorem dX0_areFull_12 : decode cX0_areFull 12 = .ok (.iconst 0, 1) := by decide +kernel
theorem dX0_areFull_13 : decode cX0_areFull 13 = .ok (.ireturn, 1) := by decide +kernel
theorem dX0_add_0 : decode cX0_add 0 = .ok (.aload_n 0, 1) := by decide +kernel
theorem dX0_add_1 : decode cX0_add 1 = .ok (.getfield 27, 3) := by decide +kernel
theorem dX0_add_4 : decode cX0_add 4 = .ok (.istore_n 2, 1) := by decide +kernel
theorem dX0_add_5 : decode cX0_add 5 = .ok (.aload_n 0, 1) := by decide +kernel
theorem dX0_add_6 : decode cX0_add 6 = .ok (.getfield 9, 3) := by decide +kernel
theorem dX0_add_9 : decode cX0_add 9 = .ok (.iload_n 2, 1) := by decide +kernel
theorem dX0_add_10 : decode cX0_add 10 = .ok (.iload_n 1, 1) := by decide +kernel
theorem dX0_add_11 : decode cX0_add 11 = .ok (.iastore, 1) := by decide +kernel
theorem dX0_add_12 : decode cX0_add 12 = .ok (.aload_n 0, 1) := by decide +kernel
theorem dX0_add_13 : decode cX0_add 13 = .ok (.getfield 15, 3) := by decide +kernel
theorem dX0_add_16 : decode cX0_add 16 = .ok (.iload_n 2, 1) := by decide +kernel
theorem dX0_add_17 : decode cX0_add 17 = .ok (.iconst (-1), 1) := by decide +kernel
theorem dX0_add_18 : decode cX0_add 18 = .ok (.iastore, 1) := by decide +kernel
theorem dX0_add_19 : decode cX0_add 19 = .ok (.aload_n 0, 1) := by decide +kernel
theorem dX0_add_20 : decode cX0_add 20 = .ok (.dup, 1) := by decide +kernel
theorem dX0_add_21 : decode cX0_add 21 = .ok (.getfield 27, 3) := by decide +kernel
theorem dX0_add_24 : decode cX0_add 24 = .ok (.iconst 1, 1) := by decide +kernel
theorem dX0_add_25 : decode cX0_add 25 = .ok (.iadd, 1) := by decide +kernel
theorem dX0_add_26 : decode cX0_add 26 = .ok (.putfield 27, 3) := by decide +kernel
theorem dX0_add_29 : decode cX0_add 29 = .ok (.iload_n 2, 1) := by decide +kernel
theorem dX0_add_30 : decode cX0_add 30 = .ok (.ireturn, 1) := by decide +kernel
theorem dX0_copyFrom_0 : decode cX0_copyFrom 0 = .ok (.aload_n 0, 1) := by decide +kernel
theorem dX0_copyFrom_1 : decode cX0_copyFrom 1 = .ok (.aload_n 1, 1) := by decide +kernel
theorem dX0_copyFrom_2 : decode cX0_copyFrom 2 = .ok (.getfield 27, 3) := by decide +kernel
theorem dX0_copyFrom_5 : decode cX0_copyFrom 5 = .ok (.putfield 27, 3) := by decide +kernel
theorem dX0_copyFrom_8 : decode cX0_copyFrom 8 = .ok (.iconst 0, 1) := by decide +kernel
theorem dX0_copyFrom_9 : decode cX0_copyFrom 9 = .ok (.istore_n 2, 1) := by decide +kernel
theorem dX0_copyFrom_10 : decode cX0_copyFrom 10 = .ok (.iload_n 2, 1) := by decide +kernel
theorem dX0_copyFrom_11 : decode cX0_copyFrom 11 = .ok (.aload_n 0, 1) := by decide +kernel
theorem dX0_copyFrom_12 : decode cX0_copyFrom 12 = .ok (.getfield 27, 3) := by decide +kernel
theorem dX0_copyFrom_15 : decode cX0_copyFrom 15 = .ok (.if_icmp .ge 69, 3) := by decide +kernel
theorem dX0_copyFrom_18 : decode cX0_copyFrom 18 = .ok (.aload_n 0, 1) := by decide +kernel
theorem dX0_copyFrom_19 : decode cX0_copyFrom 19 = .ok (.getfield 9, 3) := by decide +kernel
theorem dX0_copyFrom_22 : decode cX0_copyFrom 22 = .ok (.iload_n 2, 1) := by decide +kernel
theorem dX0_copyFrom_23 : decode cX0_copyFrom 23 = .ok (.aload_n 1, 1) := by decide +kernel
theorem dX0_copyFrom_24 : decode cX0_copyFrom 24 = .ok (.getfield 9, 3) := by decide +kernel
theorem dX0_copyFrom_27 : decode cX0_copyFrom 27 = .ok (.iload_n 2, 1) := by decide +kernel
theorem dX0_copyFrom_28 : decode cX0_copyFrom 28 = .ok (.iaload, 1) := by decide +kernel
theorem dX0_copyFrom_29 : decode cX0_copyFrom 29 = .ok (.iastore, 1) := by decide +kernel
theorem dX0_copyFrom_30 : decode cX0_copyFrom 30 = .ok (.aload_n 0, 1) := by decide +kernel
theorem dX0_copyFrom_31 : decode cX0_copyFrom 31 = .ok (.getfield 15, 3) := by decide +kernel
theorem dX0_copyFrom_34 : decode cX0_copyFrom 34 = .ok (.iload_n 2, 1) := by decide +kernel
theorem dX0_copyFrom_35 : decode cX0_copyFrom 35 = .ok (.aload_n 1, 1) := by decide +kernel
theorem dX0_copyFrom_36 : decode cX0_copyFrom 36 = .ok (.getfield 15, 3) := by decide +kernel
theorem dX0_copyFrom_39 : decode cX0_copyFrom 39 = .ok (.iload_n 2, 1) := by decide +kernel
theorem dX0_copyFrom_40 : decode cX0_copyFrom 40 = .ok (.iaload, 1) := by decide +kernel
theorem dX0_copyFrom_41 : decode cX0_copyFrom 41 = .ok (.iastore, 1) := by decide +kernel
theorem dX0_copyFrom_42 : decode cX0_copyFrom 42 = .ok (.aload_n 0, 1) := by decide +kernel
theorem dX0_copyFrom_43 : decode cX0_copyFrom 43 = .ok (.getfield 18, 3) := by decide +kernel
theorem dX0_copyFrom_46 : decode cX0_copyFrom 46 = .ok (.iload_n 2, 1) := by decide +kernel
theorem dX0_copyFrom_47 : decode cX0_copyFrom 47 = .ok (.aload_n 1, 1) := by decide +kernel
theorem dX0_copyFrom_48 : decode cX0_copyFrom 48 = .ok (.getfield 18, 3) := by decide +kernel
theorem dX0_copyFrom_51 : decode cX0_copyFrom 51 = .ok (.iload_n 2, 1) := by decide +kernel
theorem dX0_copyFrom_52 : decode cX0_copyFrom 52 = .ok (.iaload, 1) := by decide +kernel
theorem dX0_copyFrom_53 : decode cX0_copyFrom 53 = .ok (.iastore, 1) := by decide +kernel
theorem dX0_copyFrom_54 : decode cX0_copyFrom 54 = .ok (.aload_n 0, 1) := by decide +kernel
theorem dX0_copyFrom_55 : decode cX0_copyFrom 55 = .ok (.getfield 21, 3) := by decide +kernel
theorem dX0_copyFrom_58 : decode cX0_copyFrom 58 = .ok (.iload_n 2, 1) := by decide +kernel
theorem dX0_copyFrom_59 : decode cX0_copyFrom 59 = .ok (.aload_n 1, 1) := by decide +kernel
theorem dX0_copyFrom_60 : decode cX0_copyFrom 60 = .ok (.getfield 21, 3) := by decide +kernel
theorem dX0_copyFrom_63 : decode cX0_copyFrom 63 = .ok (.iload_n 2, 1) := by decide +kernel
theorem dX0_copyFrom_64 : decode cX0_copyFrom 64 = .ok (.iaload, 1) := by decide +kernel
theorem dX0_copyFrom_65 : decode cX0_copyFrom 65 = .ok (.iastore, 1) := by decide +kernel
theorem dX0_copyFrom_66 : decode cX0_copyFrom 66 = .ok (.aload_n 0, 1) := by decide +kernel
theorem dX0_copyFrom_67 : decode cX0_copyFrom 67 = .ok (.getfield 24, 3) := by decide +kernel
theorem dX0_copyFrom_70 : decode cX0_copyFrom 70 = .ok (.iload_n 2, 1) := by decide +kernel
theorem dX0_copyFrom_71 : decode cX0_copyFrom 71 = .ok (.aload_n 1, 1) := by decide +kernel
theorem dX0_copyFrom_72 : decode cX0_copyFrom 72 = .ok (.getfield 24, 3) := by decide +kernel
theorem dX0_copyFrom_75 : decode cX0_copyFrom 75 = .ok (.iload_n 2, 1) := by decide +kernel
theorem dX0_copyFrom_76 : decode cX0_copyFrom 76 = .ok (.iaload, 1) := by decide +kernel
theorem dX0_copyFrom_77 : decode cX0_copyFrom 77 = .ok (.iastore, 1) := by decide +kernel
theorem dX0_copyFrom_78 : decode cX0_copyFrom 78 = .ok (.iinc 2 1, 3) := by decide +kernel
theorem dX0_copyFrom_81 : decode cX0_copyFrom 81 = .ok (.goto (-71), 3) := by decide +kernel
theorem dX0_copyFrom_84 : decode cX0_copyFrom 84 = .ok (.return_, 1) := by decide +kernel
theorem dX0_send_0 : decode cX0_send 0 = .ok (.iload_n 2, 1) := by decide +kernel
theorem dX0_send_1 : decode cX0_send 1 = .ok (.aload_n 0, 1) := by decide +kernel
theorem dX0_send_2 : decode cX0_send 2 = .ok (.getfield 9, 3) := by decide +kernel
theorem dX0_send_5 : decode cX0_send 5 = .ok (.iload_n 1, 1) := by decide +kernel
theorem dX0_send_6 : decode cX0_send 6 = .ok (.iaload, 1) := by decide +kernel
theorem dX0_send_7 : decode cX0_send 7 = .ok (.isub, 1) := by decide +kernel
theorem dX0_send_8 : decode cX0_send 8 = .ok (.invokestatic 31, 3) := by decide +kernel
theorem dX0_send_11 : decode cX0_send 11 = .ok (.istore_n 3, 1) := by decide +kernel
theorem dX0_send_12 : decode cX0_send 12 = .ok (.aload_n 0, 1) := by decide +kernel
theorem dX0_send_13 : decode cX0_send 13 = .ok (.getfield 15, 3) := by decide +kernel
theorem dX0_send_16 : decode cX0_send 16 = .ok (.iload_n 1, 1) := by decide +kernel
theorem dX0_send_17 : decode cX0_send 17 = .ok (.iload_n 3, 1) := by decide +kernel
theorem dX0_send_18 : decode cX0_send 18 = .ok (.ifCond .ne 7, 3) := by decide +kernel
theorem dX0_send_21 : decode cX0_send 21 = .ok (.iconst (-1), 1) := by decide +kernel
theorem dX0_send_22 : decode cX0_send 22 = .ok (.goto 4, 3) := by decide +kernel
theorem dX0_send_25 : decode cX0_send 25 = .ok (.iload_n 2, 1) := by decide +kernel
theorem dX0_send_26 : decode cX0_send 26 = .ok (.iastore, 1) := by decide +kernel
theorem dX0_send_27 : decode cX0_send 27 = .ok (.iload_n 3, 1) := by decide +kernel
theorem dX0_send_28 : decode cX0_send 28 = .ok (.iconst 5, 1) := by decide +kernel
theorem dX0_send_29 : decode cX0_send 29 = .ok (.iadd, 1) := by decide +kernel
theorem dX0_send_30 : decode cX0_send 30 = .ok (.iconst 1, 1) := by decide +kernel
theorem dX0_send_31 : decode cX0_send 31 = .ok (.isub, 1) := by decide +kernel
theorem dX0_send_32 : decode cX0_send 32 = .ok (.iconst 5, 1) := by decide +kernel
theorem dX0_send_33 : decode cX0_send 33 = .ok (.idiv, 1) := by decide +kernel
theorem dX0_send_34 : decode cX0_send 34 = .ok (.ireturn, 1) := by decide +kernel
theorem dX0_sailOn_0 : decode cX0_sailOn 0 = .ok (.iconst 0, 1) := by decide +kernel
theorem dX0_sailOn_1 : decode cX0_sailOn 1 = .ok (.istore_n 1, 1) := by decide +kernel
theorem dX0_sailOn_2 : decode cX0_sailOn 2 = .ok (.iload_n 1, 1) := by decide +kernel
theorem dX0_sailOn_3 : decode cX0_sailOn 3 = .ok (.aload_n 0, 1) := by decide +kernel
theorem dX0_sailOn_4 : decode cX0_sailOn 4 = .ok (.getfield 27, 3) := by decide +kernel
theorem dX0_sailOn_7 : decode cX0_sailOn 7 = .ok (.if_icmp .ge 74, 3) := by decide +kernel
theorem dX0_sailOn_10 : decode cX0_sailOn 10 = .ok (.aload_n 0, 1) := by decide +kernel
theorem dX0_sailOn_11 : decode cX0_sailOn 11 = .ok (.getfield 15, 3) := by decide +kernel
theorem dX0_sailOn_14 : decode cX0_sailOn 14 = .ok (.iload_n 1, 1) := by decide +kernel
theorem dX0_sailOn_15 : decode cX0_sailOn 15 = .ok (.iaload, 1) := by decide +kernel
theorem dX0_sailOn_16 : decode cX0_sailOn 16 = .ok (.iconst (-1), 1) := by decide +kernel
theorem dX0_sailOn_17 : decode cX0_sailOn 17 = .ok (.if_icmp .eq 58, 3) := by decide +kernel
theorem dX0_sailOn_20 : decode cX0_sailOn 20 = .ok (.aload_n 0, 1) := by decide +kernel
theorem dX0_sailOn_21 : decode cX0_sailOn 21 = .ok (.getfield 15, 3) := by decide +kernel
theorem dX0_sailOn_24 : decode cX0_sailOn 24 = .ok (.iload_n 1, 1) := by decide +kernel
theorem dX0_sailOn_25 : decode cX0_sailOn 25 = .ok (.iaload, 1) := by decide +kernel
theorem dX0_sailOn_26 : decode cX0_sailOn 26 = .ok (.aload_n 0, 1) := by decide +kernel
theorem dX0_sailOn_27 : decode cX0_sailOn 27 = .ok (.getfield 9, 3) := by decide +kernel
theorem dX0_sailOn_30 : decode cX0_sailOn 30 = .ok (.iload_n 1, 1) := by decide +kernel
theorem dX0_sailOn_31 : decode cX0_sailOn 31 = .ok (.iaload, 1) := by decide +kernel
theorem dX0_sailOn_32 : decode cX0_sailOn 32 = .ok (.isub, 1) := by decide +kernel
theorem dX0_sailOn_33 : decode cX0_sailOn 33 = .ok (.istore_n 2, 1) := by decide +kernel
theorem dX0_sailOn_34 : decode cX0_sailOn 34 = .ok (.aload_n 0, 1) := by decide +kernel
theorem dX0_sailOn_35 : decode cX0_sailOn 35 = .ok (.getfield 9, 3) := by decide +kernel
theorem dX0_sailOn_38 : decode cX0_sailOn 38 = .ok (.iload_n 1, 1) := by decide +kernel
theorem dX0_sailOn_39 : decode cX0_sailOn 39 = .ok (.dup2, 1) := by decide +kernel
theorem dX0_sailOn_40 : decode cX0_sailOn 40 = .ok (.iaload, 1) := by decide +kernel
theorem dX0_sailOn_41 : decode cX0_sailOn 41 = .ok (.bipush (-5), 2) := by decide +kernel
theorem dX0_sailOn_43 : decode cX0_sailOn 43 = .ok (.iconst 5, 1) := by decide +kernel
theorem dX0_sailOn_44 : decode cX0_sailOn 44 = .ok (.iload_n 2, 1) := by decide +kernel
theorem dX0_sailOn_45 : decode cX0_sailOn 45 = .ok (.invokestatic 37, 3) := by decide +kernel
theorem dX0_sailOn_48 : decode cX0_sailOn 48 = .ok (.invokestatic 41, 3) := by decide +kernel
theorem dX0_sailOn_51 : decode cX0_sailOn 51 = .ok (.iadd, 1) := by decide +kernel
theorem dX0_sailOn_52 : decode cX0_sailOn 52 = .ok (.iastore, 1) := by decide +kernel
theorem dX0_sailOn_53 : decode cX0_sailOn 53 = .ok (.aload_n 0, 1) := by decide +kernel
theorem dX0_sailOn_54 : decode cX0_sailOn 54 = .ok (.getfield 9, 3) := by decide +kernel
theorem dX0_sailOn_57 : decode cX0_sailOn 57 = .ok (.iload_n 1, 1) := by decide +kernel
theorem dX0_sailOn_58 : decode cX0_sailOn 58 = .ok (.iaload, 1) := by decide +kernel
theorem dX0_sailOn_59 : decode cX0_sailOn 59 = .ok (.aload_n 0, 1) := by decide +kernel
theorem dX0_sailOn_60 : decode cX0_sailOn 60 = .ok (.getfield 15, 3) := by decide +kernel
theorem dX0_sailOn_63 : decode cX0_sailOn 63 = .ok (.iload_n 1, 1) := by decide +kernel
theorem dX0_sailOn_64 : decode cX0_sailOn 64 = .ok (.iaload, 1) := by decide +kernel
theorem dX0_sailOn_65 : decode cX0_sailOn 65 = .ok (.if_icmp .ne 10, 3) := by decide +kernel
theorem dX0_sailOn_68 : decode cX0_sailOn 68 = .ok (.aload_n 0, 1) := by decide +kernel
theorem dX0_sailOn_69 : decode cX0_sailOn 69 = .ok (.getfield 15, 3) := by decide +kernel
theorem dX0_sailOn_72 : decode cX0_sailOn 72 = .ok (.iload_n 1, 1) := by decide +kernel
theorem dX0_sailOn_73 : decode cX0_sailOn 73 = .ok (.iconst (-1), 1) := by decide +kernel
theorem dX0_sailOn_74 : decode cX0_sailOn 74 = .ok (.iastore, 1) := by decide +kernel
theorem dX0_sailOn_75 : decode cX0_sailOn 75 = .ok (.iinc 1 1, 3) := by decide +kernel
theorem dX0_sailOn_78 : decode cX0_sailOn 78 = .ok (.goto (-76), 3) := by decide +kernel
theorem dX0_sailOn_81 : decode cX0_sailOn 81 = .ok (.return_, 1) := by decide +kernel
theorem dX0_aboard_0 : decode cX0_aboard 0 = .ok (.aload_n 0, 1) := by decide +kernel
theorem dX0_aboard_1 : decode cX0_aboard 1 = .ok (.getfield 18, 3) := by decide +kernel
theorem dX0_aboard_4 : decode cX0_aboard 4 = .ok (.iload_n 1, 1) := by decide +kernel
theorem dX0_aboard_5 : decode cX0_aboard 5 = .ok (.iaload, 1) := by decide +kernel
theorem dX0_aboard_6 : decode cX0_aboard 6 = .ok (.aload_n 0, 1) := by decide +kernel
theorem dX0_aboard_7 : decode cX0_aboard 7 = .ok (.getfield 21, 3) := by decide +kernel
theorem dX0_aboard_10 : decode cX0_aboard 10 = .ok (.iload_n 1, 1) := by decide +kernel
theorem dX0_aboard_11 : decode cX0_aboard 11 = .ok (.iaload, 1) := by decide +kernel
theorem dX0_aboard_12 : decode cX0_aboard 12 = .ok (.iadd, 1) := by decide +kernel
theorem dX0_aboard_13 : decode cX0_aboard 13 = .ok (.ireturn, 1) := by decide +kernel
set_option maxRecDepth 20000 in
theorem ggX0_tell_X4_landingAt : GoodIn wsX0_tell wsX4_landingAt := goodIn_r _ [8, 9] (by decide +kernel) (by decide +kernel)
set_option maxRecDepth 20000 in
theorem gX0_tell_X4_landingAt_n44 : GoodIn wsX0_tell (wsX4_landingAt) := ggX0_tell_X4_landingAt
theorem dX0_tell_0 : decode cX0_tell 0 = .ok (.iload_n 2, 1) := by decide +kernel
theorem dX0_tell_1 : decode cX0_tell 1 = .ok (.tableswitch 73 0 4 #[35, 42, 49, 56, 63], 35) := by decide +kernel
theorem dX0_tell_36 : decode cX0_tell 36 = .ok (.aload_n 0, 1) := by decide +kernel
theorem dX0_tell_37 : decode cX0_tell 37 = .ok (.getfield 9, 3) := by decide +kernel
theorem dX0_tell_40 : decode cX0_tell 40 = .ok (.iload_n 1, 1) := by decide +kernel
theorem dX0_tell_41 : decode cX0_tell 41 = .ok (.iaload, 1) := by decide +kernel
theorem dX0_tell_42 : decode cX0_tell 42 = .ok (.ireturn, 1) := by decide +kernel
theorem dX0_tell_43 : decode cX0_tell 43 = .ok (.aload_n 0, 1) := by decide +kernel
theorem dX0_tell_44 : decode cX0_tell 44 = .ok (.getfield 15, 3) := by decide +kernel
theorem dX0_tell_47 : decode cX0_tell 47 = .ok (.iload_n 1, 1) := by decide +kernel
theorem dX0_tell_48 : decode cX0_tell 48 = .ok (.iaload, 1) := by decide +kernel
theorem dX0_tell_49 : decode cX0_tell 49 = .ok (.ireturn, 1) := by decide +kernel
theorem dX0_tell_50 : decode cX0_tell 50 = .ok (.aload_n 0, 1) := by decide +kernel
theorem dX0_tell_51 : decode cX0_tell 51 = .ok (.getfield 18, 3) := by decide +kernel
theorem dX0_tell_54 : decode cX0_tell 54 = .ok (.iload_n 1, 1) := by decide +kernel
theorem dX0_tell_55 : decode cX0_tell 55 = .ok (.iaload, 1) := by decide +kernel
theorem dX0_tell_56 : decode cX0_tell 56 = .ok (.ireturn, 1) := by decide +kernel
theorem dX0_tell_57 : decode cX0_tell 57 = .ok (.aload_n 0, 1) := by decide +kernel
theorem dX0_tell_58 : decode cX0_tell 58 = .ok (.getfield 21, 3) := by decide +kernel
theorem dX0_tell_61 : decode cX0_tell 61 = .ok (.iload_n 1, 1) := by decide +kernel
theorem dX0_tell_62 : decode cX0_tell 62 = .ok (.iaload, 1) := by decide +kernel
theorem dX0_tell_63 : decode cX0_tell 63 = .ok (.ireturn, 1) := by decide +kernel
theorem dX0_tell_64 : decode cX0_tell 64 = .ok (.aload_n 0, 1) := by decide +kernel
theorem dX0_tell_65 : decode cX0_tell 65 = .ok (.getfield 9, 3) := by decide +kernel
theorem dX0_tell_68 : decode cX0_tell 68 = .ok (.iload_n 1, 1) := by decide +kernel
theorem dX0_tell_69 : decode cX0_tell 69 = .ok (.iaload, 1) := by decide +kernel
theorem dX0_tell_70 : decode cX0_tell 70 = .ok (.invokestatic 44, 3) := by decide +kernel
theorem dX0_tell_73 : decode cX0_tell 73 = .ok (.ireturn, 1) := by decide +kernel
theorem dX0_tell_74 : decode cX0_tell 74 = .ok (.aload_n 0, 1) := by decide +kernel
theorem dX0_tell_75 : decode cX0_tell 75 = .ok (.getfield 24, 3) := by decide +kernel
theorem dX0_tell_78 : decode cX0_tell 78 = .ok (.iload_n 1, 1) := by decide +kernel
theorem dX0_tell_79 : decode cX0_tell 79 = .ok (.iaload, 1) := by decide +kernel
theorem dX0_tell_80 : decode cX0_tell 80 = .ok (.ireturn, 1) := by decide +kernel
set_option maxRecDepth 20000 in
theorem ggX0_aboardAll_X0_aboard : GoodIn wsX0_aboardAll wsX0_aboard := goodIn_r _ [6, 7, 8, 9, 10, 11, 12, 13, 14] (by decide +kernel) (by decide +kernel)
set_option maxRecDepth 20000 in
theorem gX0_aboardAll_X0_aboard : GoodIn wsX0_aboardAll (wsV RX0 47 RX0 yX0_aboard wsX0_aboard) := goodIn_app (goodIn_of _ (by decide +kernel)) ggX0_aboardAll_X0_aboard
theorem dX0_aboardAll_0 : decode cX0_aboardAll 0 = .ok (.iconst 0, 1) := by decide +kernel
theorem dX0_aboardAll_1 : decode cX0_aboardAll 1 = .ok (.istore_n 1, 1) := by decide +kernel
theorem dX0_aboardAll_2 : decode cX0_aboardAll 2 = .ok (.iconst 0, 1) := by decide +kernel
theorem dX0_aboardAll_3 : decode cX0_aboardAll 3 = .ok (.istore_n 2, 1) := by decide +kernel
theorem dX0_aboardAll_4 : decode cX0_aboardAll 4 = .ok (.iload_n 2, 1) := by decide +kernel
theorem dX0_aboardAll_5 : decode cX0_aboardAll 5 = .ok (.aload_n 0, 1) := by decide +kernel
theorem dX0_aboardAll_6 : decode cX0_aboardAll 6 = .ok (.getfield 27, 3) := by decide +kernel
theorem dX0_aboardAll_9 : decode cX0_aboardAll 9 = .ok (.if_icmp .ge 17, 3) := by decide +kernel
theorem dX0_aboardAll_12 : decode cX0_aboardAll 12 = .ok (.iload_n 1, 1) := by decide +kernel
theorem dX0_aboardAll_13 : decode cX0_aboardAll 13 = .ok (.aload_n 0, 1) := by decide +kernel
theorem dX0_aboardAll_14 : decode cX0_aboardAll 14 = .ok (.iload_n 2, 1) := by decide +kernel
theorem dX0_aboardAll_15 : decode cX0_aboardAll 15 = .ok (.invokevirtual 47, 3) := by decide +kernel
theorem dX0_aboardAll_18 : decode cX0_aboardAll 18 = .ok (.iadd, 1) := by decide +kernel
theorem dX0_aboardAll_19 : decode cX0_aboardAll 19 = .ok (.istore_n 1, 1) := by decide +kernel
theorem dX0_aboardAll_20 : decode cX0_aboardAll 20 = .ok (.iinc 2 1, 3) := by decide +kernel
theorem dX0_aboardAll_23 : decode cX0_aboardAll 23 = .ok (.goto (-19), 3) := by decide +kernel
theorem dX0_aboardAll_26 : decode cX0_aboardAll 26 = .ok (.iload_n 1, 1) := by decide +kernel
theorem dX0_aboardAll_27 : decode cX0_aboardAll 27 = .ok (.ireturn, 1) := by decide +kernel
theorem dX1_init_0 : decode cX1_init 0 = .ok (.aload_n 0, 1) := by decide +kernel
theorem dX1_init_1 : decode cX1_init 1 = .ok (.invokespecial 3, 3) := by decide +kernel
theorem dX1_init_4 : decode cX1_init 4 = .ok (.aload_n 0, 1) := by decide +kernel
theorem dX1_init_5 : decode cX1_init 5 = .ok (.bipush 8, 2) := by decide +kernel
theorem dX1_init_7 : decode cX1_init 7 = .ok (.newarray .int, 2) := by decide +kernel
theorem dX1_init_9 : decode cX1_init 9 = .ok (.putfield 9, 3) := by decide +kernel
theorem dX1_init_12 : decode cX1_init 12 = .ok (.aload_n 0, 1) := by decide +kernel
theorem dX1_init_13 : decode cX1_init 13 = .ok (.bipush 8, 2) := by decide +kernel
theorem dX1_init_15 : decode cX1_init 15 = .ok (.newarray .int, 2) := by decide +kernel
theorem dX1_init_17 : decode cX1_init 17 = .ok (.putfield 15, 3) := by decide +kernel
theorem dX1_init_20 : decode cX1_init 20 = .ok (.aload_n 0, 1) := by decide +kernel
theorem dX1_init_21 : decode cX1_init 21 = .ok (.bipush 8, 2) := by decide +kernel
theorem dX1_init_23 : decode cX1_init 23 = .ok (.newarray .int, 2) := by decide +kernel
theorem dX1_init_25 : decode cX1_init 25 = .ok (.putfield 18, 3) := by decide +kernel
theorem dX1_init_28 : decode cX1_init 28 = .ok (.aload_n 0, 1) := by decide +kernel
theorem dX1_init_29 : decode cX1_init 29 = .ok (.bipush 8, 2) := by decide +kernel
theorem dX1_init_31 : decode cX1_init 31 = .ok (.newarray .int, 2) := by decide +kernel
theorem dX1_init_33 : decode cX1_init 33 = .ok (.putfield 21, 3) := by decide +kernel
theorem dX1_init_36 : decode cX1_init 36 = .ok (.aload_n 0, 1) := by decide +kernel
theorem dX1_init_37 : decode cX1_init 37 = .ok (.bipush 8, 2) := by decide +kernel
theorem dX1_init_39 : decode cX1_init 39 = .ok (.newarray .int, 2) := by decide +kernel
theorem dX1_init_41 : decode cX1_init 41 = .ok (.putfield 24, 3) := by decide +kernel
theorem dX1_init_44 : decode cX1_init 44 = .ok (.aload_n 0, 1) := by decide +kernel
theorem dX1_init_45 : decode cX1_init 45 = .ok (.bipush 8, 2) := by decide +kernel
theorem dX1_init_47 : decode cX1_init 47 = .ok (.newarray .int, 2) := by decide +kernel
theorem dX1_init_49 : decode cX1_init 49 = .ok (.putfield 27, 3) := by decide +kernel
theorem dX1_init_52 : decode cX1_init 52 = .ok (.aload_n 0, 1) := by decide +kernel
theorem dX1_init_53 : decode cX1_init 53 = .ok (.bipush 8, 2) := by decide +kernel
theorem dX1_init_55 : decode cX1_init 55 = .ok (.newarray .int, 2) := by decide +kernel
theorem dX1_init_57 : decode cX1_init 57 = .ok (.putfield 30, 3) := by decide +kernel
theorem dX1_init_60 : decode cX1_init 60 = .ok (.aload_n 0, 1) := by decide +kernel
theorem dX1_init_61 : decode cX1_init 61 = .ok (.bipush 8, 2) := by decide +kernel
theorem dX1_init_63 : decode cX1_init 63 = .ok (.newarray .int, 2) := by decide +kernel
theorem dX1_init_65 : decode cX1_init 65 = .ok (.putfield 33, 3) := by decide +kernel
theorem dX1_init_68 : decode cX1_init 68 = .ok (.aload_n 0, 1) := by decide +kernel
theorem dX1_init_69 : decode cX1_init 69 = .ok (.bipush 8, 2) := by decide +kernel
theorem dX1_init_71 : decode cX1_init 71 = .ok (.newarray .int, 2) := by decide +kernel
theorem dX1_init_73 : decode cX1_init 73 = .ok (.putfield 36, 3) := by decide +kernel
theorem dX1_init_76 : decode cX1_init 76 = .ok (.return_, 1) := by decide +kernel
theorem dX1_areFull_0 : decode cX1_areFull 0 = .ok (.aload_n 0, 1) := by decide +kernel
theorem dX1_areFull_1 : decode cX1_areFull 1 = .ok (.getfield 39, 3) := by decide +kernel
theorem dX1_areFull_4 : decode cX1_areFull 4 = .ok (.bipush 8, 2) := by decide +kernel
theorem dX1_areFull_6 : decode cX1_areFull 6 = .ok (.if_icmp .lt 7, 3) := by decide +kernel
theorem dX1_areFull_9 : decode cX1_areFull 9 = .ok (.iconst 1, 1) := by decide +kernel
theorem dX1_areFull_10 : decode cX1_areFull 10 = .ok (.goto 4, 3) := by decide +kernel
theorem dX1_areFull_13 : decode cX1_areFull 13 = .ok (.iconst 0, 1) := by decide +kernel
theorem dX1_areFull_14 : decode cX1_areFull 14 = .ok (.ireturn, 1) := by decide +kernel
theorem dX1_add_0 : decode cX1_add 0 = .ok (.aload_n 0, 1) := by decide +kernel
theorem dX1_add_1 : decode cX1_add 1 = .ok (.getfield 39, 3) := by decide +kernel
theorem dX1_add_4 : decode cX1_add 4 = .ok (.istore 4, 2) := by decide +kernel
theorem dX1_add_6 : decode cX1_add 6 = .ok (.aload_n 0, 1) := by decide +kernel
theorem dX1_add_7 : decode cX1_add 7 = .ok (.getfield 9, 3) := by decide +kernel
theorem dX1_add_10 : decode cX1_add 10 = .ok (.iload 4, 2) := by decide +kernel
theorem dX1_add_12 : decode cX1_add 12 = .ok (.iload_n 1, 1) := by decide +kernel
theorem dX1_add_13 : decode cX1_add 13 = .ok (.iastore, 1) := by decide +kernel
theorem dX1_add_14 : decode cX1_add 14 = .ok (.aload_n 0, 1) := by decide +kernel
theorem dX1_add_15 : decode cX1_add 15 = .ok (.getfield 15, 3) := by decide +kernel
theorem dX1_add_18 : decode cX1_add 18 = .ok (.iload 4, 2) := by decide +kernel
theorem dX1_add_20 : decode cX1_add 20 = .ok (.iload_n 2, 1) := by decide +kernel
theorem dX1_add_21 : decode cX1_add 21 = .ok (.iastore, 1) := by decide +kernel
theorem dX1_add_22 : decode cX1_add 22 = .ok (.aload_n 0, 1) := by decide +kernel
theorem dX1_add_23 : decode cX1_add 23 = .ok (.getfield 18, 3) := by decide +kernel
theorem dX1_add_26 : decode cX1_add 26 = .ok (.iload 4, 2) := by decide +kernel
theorem dX1_add_28 : decode cX1_add 28 = .ok (.iconst 3, 1) := by decide +kernel
theorem dX1_add_29 : decode cX1_add 29 = .ok (.iastore, 1) := by decide +kernel
theorem dX1_add_30 : decode cX1_add 30 = .ok (.aload_n 0, 1) := by decide +kernel
theorem dX1_add_31 : decode cX1_add 31 = .ok (.getfield 21, 3) := by decide +kernel
theorem dX1_add_34 : decode cX1_add 34 = .ok (.iload 4, 2) := by decide +kernel
theorem dX1_add_36 : decode cX1_add 36 = .ok (.iload_n 3, 1) := by decide +kernel
theorem dX1_add_37 : decode cX1_add 37 = .ok (.iastore, 1) := by decide +kernel
theorem dX1_add_38 : decode cX1_add 38 = .ok (.aload_n 0, 1) := by decide +kernel
theorem dX1_add_39 : decode cX1_add 39 = .ok (.dup, 1) := by decide +kernel
theorem dX1_add_40 : decode cX1_add 40 = .ok (.getfield 39, 3) := by decide +kernel
theorem dX1_add_43 : decode cX1_add 43 = .ok (.iconst 1, 1) := by decide +kernel
theorem dX1_add_44 : decode cX1_add 44 = .ok (.iadd, 1) := by decide +kernel
theorem dX1_add_45 : decode cX1_add 45 = .ok (.putfield 39, 3) := by decide +kernel
theorem dX1_add_48 : decode cX1_add 48 = .ok (.iload 4, 2) := by decide +kernel
theorem dX1_add_50 : decode cX1_add 50 = .ok (.ireturn, 1) := by decide +kernel
theorem dX1_copyFrom_0 : decode cX1_copyFrom 0 = .ok (.aload_n 0, 1) := by decide +kernel
theorem dX1_copyFrom_1 : decode cX1_copyFrom 1 = .ok (.aload_n 1, 1) := by decide +kernel
theorem dX1_copyFrom_2 : decode cX1_copyFrom 2 = .ok (.getfield 39, 3) := by decide +kernel
theorem dX1_copyFrom_5 : decode cX1_copyFrom 5 = .ok (.putfield 39, 3) := by decide +kernel
theorem dX1_copyFrom_8 : decode cX1_copyFrom 8 = .ok (.iconst 0, 1) := by decide +kernel
theorem dX1_copyFrom_9 : decode cX1_copyFrom 9 = .ok (.istore_n 2, 1) := by decide +kernel
theorem dX1_copyFrom_10 : decode cX1_copyFrom 10 = .ok (.iload_n 2, 1) := by decide +kernel
theorem dX1_copyFrom_11 : decode cX1_copyFrom 11 = .ok (.aload_n 0, 1) := by decide +kernel
theorem dX1_copyFrom_12 : decode cX1_copyFrom 12 = .ok (.getfield 39, 3) := by decide +kernel
theorem dX1_copyFrom_15 : decode cX1_copyFrom 15 = .ok (.if_icmp .ge 105, 3) := by decide +kernel
theorem dX1_copyFrom_18 : decode cX1_copyFrom 18 = .ok (.aload_n 0, 1) := by decide +kernel
theorem dX1_copyFrom_19 : decode cX1_copyFrom 19 = .ok (.getfield 9, 3) := by decide +kernel
theorem dX1_copyFrom_22 : decode cX1_copyFrom 22 = .ok (.iload_n 2, 1) := by decide +kernel
theorem dX1_copyFrom_23 : decode cX1_copyFrom 23 = .ok (.aload_n 1, 1) := by decide +kernel
theorem dX1_copyFrom_24 : decode cX1_copyFrom 24 = .ok (.getfield 9, 3) := by decide +kernel
theorem dX1_copyFrom_27 : decode cX1_copyFrom 27 = .ok (.iload_n 2, 1) := by decide +kernel
theorem dX1_copyFrom_28 : decode cX1_copyFrom 28 = .ok (.iaload, 1) := by decide +kernel
theorem dX1_copyFrom_29 : decode cX1_copyFrom 29 = .ok (.iastore, 1) := by decide +kernel
theorem dX1_copyFrom_30 : decode cX1_copyFrom 30 = .ok (.aload_n 0, 1) := by decide +kernel
theorem dX1_copyFrom_31 : decode cX1_copyFrom 31 = .ok (.getfield 15, 3) := by decide +kernel
theorem dX1_copyFrom_34 : decode cX1_copyFrom 34 = .ok (.iload_n 2, 1) := by decide +kernel
theorem dX1_copyFrom_35 : decode cX1_copyFrom 35 = .ok (.aload_n 1, 1) := by decide +kernel
theorem dX1_copyFrom_36 : decode cX1_copyFrom 36 = .ok (.getfield 15, 3) := by decide +kernel
theorem dX1_copyFrom_39 : decode cX1_copyFrom 39 = .ok (.iload_n 2, 1) := by decide +kernel
theorem dX1_copyFrom_40 : decode cX1_copyFrom 40 = .ok (.iaload, 1) := by decide +kernel
theorem dX1_copyFrom_41 : decode cX1_copyFrom 41 = .ok (.iastore, 1) := by decide +kernel
theorem dX1_copyFrom_42 : decode cX1_copyFrom 42 = .ok (.aload_n 0, 1) := by decide +kernel
theorem dX1_copyFrom_43 : decode cX1_copyFrom 43 = .ok (.getfield 18, 3) := by decide +kernel
theorem dX1_copyFrom_46 : decode cX1_copyFrom 46 = .ok (.iload_n 2, 1) := by decide +kernel
theorem dX1_copyFrom_47 : decode cX1_copyFrom 47 = .ok (.aload_n 1, 1) := by decide +kernel
theorem dX1_copyFrom_48 : decode cX1_copyFrom 48 = .ok (.getfield 18, 3) := by decide +kernel
theorem dX1_copyFrom_51 : decode cX1_copyFrom 51 = .ok (.iload_n 2, 1) := by decide +kernel
theorem dX1_copyFrom_52 : decode cX1_copyFrom 52 = .ok (.iaload, 1) := by decide +kernel
theorem dX1_copyFrom_53 : decode cX1_copyFrom 53 = .ok (.iastore, 1) := by decide +kernel
theorem dX1_copyFrom_54 : decode cX1_copyFrom 54 = .ok (.aload_n 0, 1) := by decide +kernel
theorem dX1_copyFrom_55 : decode cX1_copyFrom 55 = .ok (.getfield 21, 3) := by decide +kernel
theorem dX1_copyFrom_58 : decode cX1_copyFrom 58 = .ok (.iload_n 2, 1) := by decide +kernel
theorem dX1_copyFrom_59 : decode cX1_copyFrom 59 = .ok (.aload_n 1, 1) := by decide +kernel
theorem dX1_copyFrom_60 : decode cX1_copyFrom 60 = .ok (.getfield 21, 3) := by decide +kernel
theorem dX1_copyFrom_63 : decode cX1_copyFrom 63 = .ok (.iload_n 2, 1) := by decide +kernel
theorem dX1_copyFrom_64 : decode cX1_copyFrom 64 = .ok (.iaload, 1) := by decide +kernel
theorem dX1_copyFrom_65 : decode cX1_copyFrom 65 = .ok (.iastore, 1) := by decide +kernel
theorem dX1_copyFrom_66 : decode cX1_copyFrom 66 = .ok (.aload_n 0, 1) := by decide +kernel
theorem dX1_copyFrom_67 : decode cX1_copyFrom 67 = .ok (.getfield 24, 3) := by decide +kernel
theorem dX1_copyFrom_70 : decode cX1_copyFrom 70 = .ok (.iload_n 2, 1) := by decide +kernel
theorem dX1_copyFrom_71 : decode cX1_copyFrom 71 = .ok (.aload_n 1, 1) := by decide +kernel
theorem dX1_copyFrom_72 : decode cX1_copyFrom 72 = .ok (.getfield 24, 3) := by decide +kernel
theorem dX1_copyFrom_75 : decode cX1_copyFrom 75 = .ok (.iload_n 2, 1) := by decide +kernel
theorem dX1_copyFrom_76 : decode cX1_copyFrom 76 = .ok (.iaload, 1) := by decide +kernel
theorem dX1_copyFrom_77 : decode cX1_copyFrom 77 = .ok (.iastore, 1) := by decide +kernel
theorem dX1_copyFrom_78 : decode cX1_copyFrom 78 = .ok (.aload_n 0, 1) := by decide +kernel
theorem dX1_copyFrom_79 : decode cX1_copyFrom 79 = .ok (.getfield 27, 3) := by decide +kernel
theorem dX1_copyFrom_82 : decode cX1_copyFrom 82 = .ok (.iload_n 2, 1) := by decide +kernel
theorem dX1_copyFrom_83 : decode cX1_copyFrom 83 = .ok (.aload_n 1, 1) := by decide +kernel
theorem dX1_copyFrom_84 : decode cX1_copyFrom 84 = .ok (.getfield 27, 3) := by decide +kernel
theorem dX1_copyFrom_87 : decode cX1_copyFrom 87 = .ok (.iload_n 2, 1) := by decide +kernel
theorem dX1_copyFrom_88 : decode cX1_copyFrom 88 = .ok (.iaload, 1) := by decide +kernel
theorem dX1_copyFrom_89 : decode cX1_copyFrom 89 = .ok (.iastore, 1) := by decide +kernel
theorem dX1_copyFrom_90 : decode cX1_copyFrom 90 = .ok (.aload_n 0, 1) := by decide +kernel
theorem dX1_copyFrom_91 : decode cX1_copyFrom 91 = .ok (.getfield 30, 3) := by decide +kernel
theorem dX1_copyFrom_94 : decode cX1_copyFrom 94 = .ok (.iload_n 2, 1) := by decide +kernel
theorem dX1_copyFrom_95 : decode cX1_copyFrom 95 = .ok (.aload_n 1, 1) := by decide +kernel
theorem dX1_copyFrom_96 : decode cX1_copyFrom 96 = .ok (.getfield 30, 3) := by decide +kernel
theorem dX1_copyFrom_99 : decode cX1_copyFrom 99 = .ok (.iload_n 2, 1) := by decide +kernel
theorem dX1_copyFrom_100 : decode cX1_copyFrom 100 = .ok (.iaload, 1) := by decide +kernel
theorem dX1_copyFrom_101 : decode cX1_copyFrom 101 = .ok (.iastore, 1) := by decide +kernel
theorem dX1_copyFrom_102 : decode cX1_copyFrom 102 = .ok (.aload_n 0, 1) := by decide +kernel
theorem dX1_copyFrom_103 : decode cX1_copyFrom 103 = .ok (.getfield 33, 3) := by decide +kernel
theorem dX1_copyFrom_106 : decode cX1_copyFrom 106 = .ok (.iload_n 2, 1) := by decide +kernel
theorem dX1_copyFrom_107 : decode cX1_copyFrom 107 = .ok (.aload_n 1, 1) := by decide +kernel
theorem dX1_copyFrom_108 : decode cX1_copyFrom 108 = .ok (.getfield 33, 3) := by decide +kernel
theorem dX1_copyFrom_111 : decode cX1_copyFrom 111 = .ok (.iload_n 2, 1) := by decide +kernel
theorem dX1_copyFrom_112 : decode cX1_copyFrom 112 = .ok (.iaload, 1) := by decide +kernel
theorem dX1_copyFrom_113 : decode cX1_copyFrom 113 = .ok (.iastore, 1) := by decide +kernel
theorem dX1_copyFrom_114 : decode cX1_copyFrom 114 = .ok (.iinc 2 1, 3) := by decide +kernel
theorem dX1_copyFrom_117 : decode cX1_copyFrom 117 = .ok (.goto (-107), 3) := by decide +kernel
theorem dX1_copyFrom_120 : decode cX1_copyFrom 120 = .ok (.return_, 1) := by decide +kernel
theorem dX1_given_0 : decode cX1_given 0 = .ok (.aload_n 0, 1) := by decide +kernel
theorem dX1_given_1 : decode cX1_given 1 = .ok (.getfield 18, 3) := by decide +kernel
theorem dX1_given_4 : decode cX1_given 4 = .ok (.iload_n 1, 1) := by decide +kernel
theorem dX1_given_5 : decode cX1_given 5 = .ok (.iaload, 1) := by decide +kernel
theorem dX1_given_6 : decode cX1_given 6 = .ok (.istore_n 2, 1) := by decide +kernel
theorem dX1_given_7 : decode cX1_given 7 = .ok (.iload_n 2, 1) := by decide +kernel
theorem dX1_given_8 : decode cX1_given 8 = .ok (.ifCond .lt 19, 3) := by decide +kernel
theorem dX1_given_11 : decode cX1_given 11 = .ok (.iload_n 2, 1) := by decide +kernel
theorem dX1_given_12 : decode cX1_given 12 = .ok (.getstatic 43, 3) := by decide +kernel
theorem dX1_given_15 : decode cX1_given 15 = .ok (.arraylength, 1) := by decide +kernel
theorem dX1_given_16 : decode cX1_given 16 = .ok (.if_icmp .ge 11, 3) := by decide +kernel
theorem dX1_given_19 : decode cX1_given 19 = .ok (.getstatic 43, 3) := by decide +kernel
theorem dX1_given_22 : decode cX1_given 22 = .ok (.iload_n 2, 1) := by decide +kernel
theorem dX1_given_23 : decode cX1_given 23 = .ok (.iaload, 1) := by decide +kernel
theorem dX1_given_24 : decode cX1_given 24 = .ok (.goto 4, 3) := by decide +kernel
theorem dX1_given_27 : decode cX1_given 27 = .ok (.iconst 0, 1) := by decide +kernel
theorem dX1_given_28 : decode cX1_given 28 = .ok (.istore_n 3, 1) := by decide +kernel
theorem dX1_given_29 : decode cX1_given 29 = .ok (.iconst 3, 1) := by decide +kernel
theorem dX1_given_30 : decode cX1_given 30 = .ok (.aload_n 0, 1) := by decide +kernel
theorem dX1_given_31 : decode cX1_given 31 = .ok (.getfield 15, 3) := by decide +kernel
theorem dX1_given_34 : decode cX1_given 34 = .ok (.iload_n 1, 1) := by decide +kernel
theorem dX1_given_35 : decode cX1_given 35 = .ok (.iaload, 1) := by decide +kernel
theorem dX1_given_36 : decode cX1_given 36 = .ok (.imul, 1) := by decide +kernel
theorem dX1_given_37 : decode cX1_given 37 = .ok (.iload_n 3, 1) := by decide +kernel
theorem dX1_given_38 : decode cX1_given 38 = .ok (.imul, 1) := by decide +kernel
theorem dX1_given_39 : decode cX1_given 39 = .ok (.ireturn, 1) := by decide +kernel
set_option maxRecDepth 20000 in
theorem ggX1_sedgeGiven_X1_given : GoodIn wsX1_sedgeGiven wsX1_given := goodIn_r _ [6, 7, 8, 9, 10, 11, 12, 13, 14, 15, 16, 17, 18] (by decide +kernel) (by decide +kernel)
set_option maxRecDepth 20000 in
theorem gX1_sedgeGiven_X1_given : GoodIn wsX1_sedgeGiven (wsV RX1 46 RX1 yX1_given wsX1_given) := goodIn_app (goodIn_of _ (by decide +kernel)) ggX1_sedgeGiven_X1_given
theorem dX1_sedgeGiven_0 : decode cX1_sedgeGiven 0 = .ok (.aload_n 0, 1) := by decide +kernel
theorem dX1_sedgeGiven_1 : decode cX1_sedgeGiven 1 = .ok (.iload_n 1, 1) := by decide +kernel
theorem dX1_sedgeGiven_2 : decode cX1_sedgeGiven 2 = .ok (.invokevirtual 46, 3) := by decide +kernel
theorem dX1_sedgeGiven_5 : decode cX1_sedgeGiven 5 = .ok (.aload_n 0, 1) := by decide +kernel
theorem dX1_sedgeGiven_6 : decode cX1_sedgeGiven 6 = .ok (.getfield 21, 3) := by decide +kernel
theorem dX1_sedgeGiven_9 : decode cX1_sedgeGiven 9 = .ok (.iload_n 1, 1) := by decide +kernel
theorem dX1_sedgeGiven_10 : decode cX1_sedgeGiven 10 = .ok (.iaload, 1) := by decide +kernel
theorem dX1_sedgeGiven_11 : decode cX1_sedgeGiven 11 = .ok (.imul, 1) := by decide +kernel
theorem dX1_sedgeGiven_12 : decode cX1_sedgeGiven 12 = .ok (.bipush 100, 2) := by decide +kernel
theorem dX1_sedgeGiven_14 : decode cX1_sedgeGiven 14 = .ok (.idiv, 1) := by decide +kernel
theorem dX1_sedgeGiven_15 : decode cX1_sedgeGiven 15 = .ok (.ireturn, 1) := by decide +kernel
set_option maxRecDepth 20000 in
theorem ggX1_cutDown_X1_given : GoodIn wsX1_cutDown wsX1_given := goodIn_r _ [8, 3, 9, 15, 16, 17, 18, 19, 20, 21, 22, 23, 24] (by decide +kernel) (by decide +kernel)
set_option maxRecDepth 20000 in
theorem gX1_cutDown_X1_given : GoodIn wsX1_cutDown (wsV RX1 46 RX1 yX1_given wsX1_given) := goodIn_app (goodIn_of _ (by decide +kernel)) ggX1_cutDown_X1_given
set_option maxRecDepth 20000 in
theorem ggX1_cutDown_X1_sedgeGiven : GoodIn wsX1_cutDown wsX1_sedgeGiven := goodIn_r _ [13, 14, 4, 5, 6, 7, 8, 3, 9, 15, 16, 17, 18, 19, 20, 21, 22, 23, 24] (by decide +kernel) (by decide +kernel)
set_option maxRecDepth 20000 in
theorem gX1_cutDown_X1_sedgeGiven : GoodIn wsX1_cutDown (wsV RX1 50 RX1 yX1_sedgeGiven wsX1_sedgeGiven) := goodIn_app (goodIn_of _ (by decide +kernel)) ggX1_cutDown_X1_sedgeGiven
theorem dX1_cutDown_0 : decode cX1_cutDown 0 = .ok (.aload_n 0, 1) := by decide +kernel
theorem dX1_cutDown_1 : decode cX1_cutDown 1 = .ok (.iload_n 1, 1) := by decide +kernel
theorem dX1_cutDown_2 : decode cX1_cutDown 2 = .ok (.invokevirtual 46, 3) := by decide +kernel
theorem dX1_cutDown_5 : decode cX1_cutDown 5 = .ok (.istore_n 2, 1) := by decide +kernel
theorem dX1_cutDown_6 : decode cX1_cutDown 6 = .ok (.aload_n 0, 1) := by decide +kernel
theorem dX1_cutDown_7 : decode cX1_cutDown 7 = .ok (.iload_n 1, 1) := by decide +kernel
theorem dX1_cutDown_8 : decode cX1_cutDown 8 = .ok (.invokevirtual 50, 3) := by decide +kernel
theorem dX1_cutDown_11 : decode cX1_cutDown 11 = .ok (.istore_n 3, 1) := by decide +kernel
theorem dX1_cutDown_12 : decode cX1_cutDown 12 = .ok (.aload_n 0, 1) := by decide +kernel
theorem dX1_cutDown_13 : decode cX1_cutDown 13 = .ok (.getfield 24, 3) := by decide +kernel
theorem dX1_cutDown_16 : decode cX1_cutDown 16 = .ok (.iload_n 1, 1) := by decide +kernel
theorem dX1_cutDown_17 : decode cX1_cutDown 17 = .ok (.dup2, 1) := by decide +kernel
theorem dX1_cutDown_18 : decode cX1_cutDown 18 = .ok (.iaload, 1) := by decide +kernel
theorem dX1_cutDown_19 : decode cX1_cutDown 19 = .ok (.iload_n 3, 1) := by decide +kernel
theorem dX1_cutDown_20 : decode cX1_cutDown 20 = .ok (.iadd, 1) := by decide +kernel
theorem dX1_cutDown_21 : decode cX1_cutDown 21 = .ok (.iastore, 1) := by decide +kernel
theorem dX1_cutDown_22 : decode cX1_cutDown 22 = .ok (.aload_n 0, 1) := by decide +kernel
theorem dX1_cutDown_23 : decode cX1_cutDown 23 = .ok (.getfield 27, 3) := by decide +kernel
theorem dX1_cutDown_26 : decode cX1_cutDown 26 = .ok (.iload_n 1, 1) := by decide +kernel
theorem dX1_cutDown_27 : decode cX1_cutDown 27 = .ok (.dup2, 1) := by decide +kernel
theorem dX1_cutDown_28 : decode cX1_cutDown 28 = .ok (.iaload, 1) := by decide +kernel
theorem dX1_cutDown_29 : decode cX1_cutDown 29 = .ok (.iload_n 2, 1) := by decide +kernel
theorem dX1_cutDown_30 : decode cX1_cutDown 30 = .ok (.iload_n 3, 1) := by decide +kernel
theorem dX1_cutDown_31 : decode cX1_cutDown 31 = .ok (.isub, 1) := by decide +kernel
theorem dX1_cutDown_32 : decode cX1_cutDown 32 = .ok (.iadd, 1) := by decide +kernel
theorem dX1_cutDown_33 : decode cX1_cutDown 33 = .ok (.iastore, 1) := by decide +kernel
theorem dX1_cutDown_34 : decode cX1_cutDown 34 = .ok (.aload_n 0, 1) := by decide +kernel
theorem dX1_cutDown_35 : decode cX1_cutDown 35 = .ok (.getfield 18, 3) := by decide +kernel
theorem dX1_cutDown_38 : decode cX1_cutDown 38 = .ok (.iload_n 1, 1) := by decide +kernel
theorem dX1_cutDown_39 : decode cX1_cutDown 39 = .ok (.iconst 0, 1) := by decide +kernel
theorem dX1_cutDown_40 : decode cX1_cutDown 40 = .ok (.iastore, 1) := by decide +kernel
theorem dX1_cutDown_41 : decode cX1_cutDown 41 = .ok (.iload_n 2, 1) := by decide +kernel
theorem dX1_cutDown_42 : decode cX1_cutDown 42 = .ok (.ireturn, 1) := by decide +kernel
theorem dX1_tieUp_0 : decode cX1_tieUp 0 = .ok (.aload_n 0, 1) := by decide +kernel
theorem dX1_tieUp_1 : decode cX1_tieUp 1 = .ok (.getfield 24, 3) := by decide +kernel
theorem dX1_tieUp_4 : decode cX1_tieUp 4 = .ok (.iload_n 1, 1) := by decide +kernel
theorem dX1_tieUp_5 : decode cX1_tieUp 5 = .ok (.iaload, 1) := by decide +kernel
theorem dX1_tieUp_6 : decode cX1_tieUp 6 = .ok (.iload_n 2, 1) := by decide +kernel
theorem dX1_tieUp_7 : decode cX1_tieUp 7 = .ok (.invokestatic 53, 3) := by decide +kernel
theorem dX1_tieUp_10 : decode cX1_tieUp 10 = .ok (.istore_n 3, 1) := by decide +kernel
theorem dX1_tieUp_11 : decode cX1_tieUp 11 = .ok (.aload_n 0, 1) := by decide +kernel
theorem dX1_tieUp_12 : decode cX1_tieUp 12 = .ok (.getfield 27, 3) := by decide +kernel
theorem dX1_tieUp_15 : decode cX1_tieUp 15 = .ok (.iload_n 1, 1) := by decide +kernel
theorem dX1_tieUp_16 : decode cX1_tieUp 16 = .ok (.iaload, 1) := by decide +kernel
theorem dX1_tieUp_17 : decode cX1_tieUp 17 = .ok (.iload_n 2, 1) := by decide +kernel
theorem dX1_tieUp_18 : decode cX1_tieUp 18 = .ok (.iload_n 3, 1) := by decide +kernel
theorem dX1_tieUp_19 : decode cX1_tieUp 19 = .ok (.isub, 1) := by decide +kernel
theorem dX1_tieUp_20 : decode cX1_tieUp 20 = .ok (.invokestatic 53, 3) := by decide +kernel
theorem dX1_tieUp_23 : decode cX1_tieUp 23 = .ok (.istore 4, 2) := by decide +kernel
theorem dX1_tieUp_25 : decode cX1_tieUp 25 = .ok (.aload_n 0, 1) := by decide +kernel
theorem dX1_tieUp_26 : decode cX1_tieUp 26 = .ok (.getfield 24, 3) := by decide +kernel
theorem dX1_tieUp_29 : decode cX1_tieUp 29 = .ok (.iload_n 1, 1) := by decide +kernel
theorem dX1_tieUp_30 : decode cX1_tieUp 30 = .ok (.dup2, 1) := by decide +kernel
theorem dX1_tieUp_31 : decode cX1_tieUp 31 = .ok (.iaload, 1) := by decide +kernel
theorem dX1_tieUp_32 : decode cX1_tieUp 32 = .ok (.iload_n 3, 1) := by decide +kernel
theorem dX1_tieUp_33 : decode cX1_tieUp 33 = .ok (.isub, 1) := by decide +kernel
theorem dX1_tieUp_34 : decode cX1_tieUp 34 = .ok (.iastore, 1) := by decide +kernel
theorem dX1_tieUp_35 : decode cX1_tieUp 35 = .ok (.aload_n 0, 1) := by decide +kernel
theorem dX1_tieUp_36 : decode cX1_tieUp 36 = .ok (.getfield 27, 3) := by decide +kernel
theorem dX1_tieUp_39 : decode cX1_tieUp 39 = .ok (.iload_n 1, 1) := by decide +kernel
theorem dX1_tieUp_40 : decode cX1_tieUp 40 = .ok (.dup2, 1) := by decide +kernel
theorem dX1_tieUp_41 : decode cX1_tieUp 41 = .ok (.iaload, 1) := by decide +kernel
theorem dX1_tieUp_42 : decode cX1_tieUp 42 = .ok (.iload 4, 2) := by decide +kernel
theorem dX1_tieUp_44 : decode cX1_tieUp 44 = .ok (.isub, 1) := by decide +kernel
theorem dX1_tieUp_45 : decode cX1_tieUp 45 = .ok (.iastore, 1) := by decide +kernel
theorem dX1_tieUp_46 : decode cX1_tieUp 46 = .ok (.aload_n 0, 1) := by decide +kernel
theorem dX1_tieUp_47 : decode cX1_tieUp 47 = .ok (.getfield 30, 3) := by decide +kernel
theorem dX1_tieUp_50 : decode cX1_tieUp 50 = .ok (.iload_n 1, 1) := by decide +kernel
theorem dX1_tieUp_51 : decode cX1_tieUp 51 = .ok (.dup2, 1) := by decide +kernel
theorem dX1_tieUp_52 : decode cX1_tieUp 52 = .ok (.iaload, 1) := by decide +kernel
theorem dX1_tieUp_53 : decode cX1_tieUp 53 = .ok (.iload_n 3, 1) := by decide +kernel
theorem dX1_tieUp_54 : decode cX1_tieUp 54 = .ok (.iadd, 1) := by decide +kernel
theorem dX1_tieUp_55 : decode cX1_tieUp 55 = .ok (.iastore, 1) := by decide +kernel
theorem dX1_tieUp_56 : decode cX1_tieUp 56 = .ok (.aload_n 0, 1) := by decide +kernel
theorem dX1_tieUp_57 : decode cX1_tieUp 57 = .ok (.getfield 33, 3) := by decide +kernel
theorem dX1_tieUp_60 : decode cX1_tieUp 60 = .ok (.iload_n 1, 1) := by decide +kernel
theorem dX1_tieUp_61 : decode cX1_tieUp 61 = .ok (.dup2, 1) := by decide +kernel
theorem dX1_tieUp_62 : decode cX1_tieUp 62 = .ok (.iaload, 1) := by decide +kernel
theorem dX1_tieUp_63 : decode cX1_tieUp 63 = .ok (.iload 4, 2) := by decide +kernel
theorem dX1_tieUp_65 : decode cX1_tieUp 65 = .ok (.iadd, 1) := by decide +kernel
theorem dX1_tieUp_66 : decode cX1_tieUp 66 = .ok (.iastore, 1) := by decide +kernel
theorem dX1_tieUp_67 : decode cX1_tieUp 67 = .ok (.iload_n 3, 1) := by decide +kernel
theorem dX1_tieUp_68 : decode cX1_tieUp 68 = .ok (.iload 4, 2) := by decide +kernel
theorem dX1_tieUp_70 : decode cX1_tieUp 70 = .ok (.iadd, 1) := by decide +kernel
theorem dX1_tieUp_71 : decode cX1_tieUp 71 = .ok (.ireturn, 1) := by decide +kernel
set_option maxRecDepth 20000 in
theorem ggX1_rot_X4_tenthRoundedUp : GoodIn wsX1_rot wsX4_tenthRoundedUp := goodIn_r _ [6] (by decide +kernel) (by decide +kernel)
set_option maxRecDepth 20000 in
theorem gX1_rot_X4_tenthRoundedUp_n59 : GoodIn wsX1_rot (wsX4_tenthRoundedUp) := ggX1_rot_X4_tenthRoundedUp
theorem dX1_rot_0 : decode cX1_rot 0 = .ok (.iconst 0, 1) := by decide +kernel
theorem dX1_rot_1 : decode cX1_rot 1 = .ok (.istore_n 1, 1) := by decide +kernel
theorem dX1_rot_2 : decode cX1_rot 2 = .ok (.iconst 0, 1) := by decide +kernel
theorem dX1_rot_3 : decode cX1_rot 3 = .ok (.istore_n 2, 1) := by decide +kernel
theorem dX1_rot_4 : decode cX1_rot 4 = .ok (.iload_n 2, 1) := by decide +kernel
theorem dX1_rot_5 : decode cX1_rot 5 = .ok (.aload_n 0, 1) := by decide +kernel
theorem dX1_rot_6 : decode cX1_rot 6 = .ok (.getfield 39, 3) := by decide +kernel
theorem dX1_rot_9 : decode cX1_rot 9 = .ok (.if_icmp .ge 58, 3) := by decide +kernel
theorem dX1_rot_12 : decode cX1_rot 12 = .ok (.aload_n 0, 1) := by decide +kernel
theorem dX1_rot_13 : decode cX1_rot 13 = .ok (.getfield 24, 3) := by decide +kernel
theorem dX1_rot_16 : decode cX1_rot 16 = .ok (.iload_n 2, 1) := by decide +kernel
theorem dX1_rot_17 : decode cX1_rot 17 = .ok (.iaload, 1) := by decide +kernel
theorem dX1_rot_18 : decode cX1_rot 18 = .ok (.invokestatic 59, 3) := by decide +kernel
theorem dX1_rot_21 : decode cX1_rot 21 = .ok (.istore_n 3, 1) := by decide +kernel
theorem dX1_rot_22 : decode cX1_rot 22 = .ok (.aload_n 0, 1) := by decide +kernel
theorem dX1_rot_23 : decode cX1_rot 23 = .ok (.getfield 27, 3) := by decide +kernel
theorem dX1_rot_26 : decode cX1_rot 26 = .ok (.iload_n 2, 1) := by decide +kernel
theorem dX1_rot_27 : decode cX1_rot 27 = .ok (.iaload, 1) := by decide +kernel
theorem dX1_rot_28 : decode cX1_rot 28 = .ok (.invokestatic 59, 3) := by decide +kernel
theorem dX1_rot_31 : decode cX1_rot 31 = .ok (.istore 4, 2) := by decide +kernel
theorem dX1_rot_33 : decode cX1_rot 33 = .ok (.aload_n 0, 1) := by decide +kernel
theorem dX1_rot_34 : decode cX1_rot 34 = .ok (.getfield 24, 3) := by decide +kernel
theorem dX1_rot_37 : decode cX1_rot 37 = .ok (.iload_n 2, 1) := by decide +kernel
theorem dX1_rot_38 : decode cX1_rot 38 = .ok (.dup2, 1) := by decide +kernel
theorem dX1_rot_39 : decode cX1_rot 39 = .ok (.iaload, 1) := by decide +kernel
theorem dX1_rot_40 : decode cX1_rot 40 = .ok (.iload_n 3, 1) := by decide +kernel
theorem dX1_rot_41 : decode cX1_rot 41 = .ok (.isub, 1) := by decide +kernel
theorem dX1_rot_42 : decode cX1_rot 42 = .ok (.iastore, 1) := by decide +kernel
theorem dX1_rot_43 : decode cX1_rot 43 = .ok (.aload_n 0, 1) := by decide +kernel
theorem dX1_rot_44 : decode cX1_rot 44 = .ok (.getfield 27, 3) := by decide +kernel
theorem dX1_rot_47 : decode cX1_rot 47 = .ok (.iload_n 2, 1) := by decide +kernel
theorem dX1_rot_48 : decode cX1_rot 48 = .ok (.dup2, 1) := by decide +kernel
theorem dX1_rot_49 : decode cX1_rot 49 = .ok (.iaload, 1) := by decide +kernel
theorem dX1_rot_50 : decode cX1_rot 50 = .ok (.iload 4, 2) := by decide +kernel
theorem dX1_rot_52 : decode cX1_rot 52 = .ok (.isub, 1) := by decide +kernel
theorem dX1_rot_53 : decode cX1_rot 53 = .ok (.iastore, 1) := by decide +kernel
theorem dX1_rot_54 : decode cX1_rot 54 = .ok (.iload_n 1, 1) := by decide +kernel
theorem dX1_rot_55 : decode cX1_rot 55 = .ok (.iload_n 3, 1) := by decide +kernel
theorem dX1_rot_56 : decode cX1_rot 56 = .ok (.iload 4, 2) := by decide +kernel
theorem dX1_rot_58 : decode cX1_rot 58 = .ok (.iadd, 1) := by decide +kernel
theorem dX1_rot_59 : decode cX1_rot 59 = .ok (.iadd, 1) := by decide +kernel
theorem dX1_rot_60 : decode cX1_rot 60 = .ok (.istore_n 1, 1) := by decide +kernel
theorem dX1_rot_61 : decode cX1_rot 61 = .ok (.iinc 2 1, 3) := by decide +kernel
theorem dX1_rot_64 : decode cX1_rot 64 = .ok (.goto (-60), 3) := by decide +kernel
theorem dX1_rot_67 : decode cX1_rot 67 = .ok (.iload_n 1, 1) := by decide +kernel
theorem dX1_rot_68 : decode cX1_rot 68 = .ok (.ireturn, 1) := by decide +kernel
set_option maxRecDepth 20000 in
theorem ggX1_endYear_X1_changeByAge : GoodIn wsX1_endYear wsX1_changeByAge := goodIn_r _ [15] (by decide +kernel) (by decide +kernel)
set_option maxRecDepth 20000 in
theorem gX1_endYear_X1_changeByAge : GoodIn wsX1_endYear (va_wsS RX1 62 yX1_changeByAge wsX1_changeByAge) := goodIn_app (goodIn_of _ (by decide +kernel)) ggX1_endYear_X1_changeByAge
set_option maxRecDepth 20000 in
theorem ggX1_endYear_X1_isCreptInto : GoodIn wsX1_endYear wsX1_isCreptInto := goodIn_r _ [19, 1, 20, 21, 22, 7, 23, 4, 24, 25, 26, 27, 28, 29, 30, 31, 32, 33] (by decide +kernel) (by decide +kernel)
set_option maxRecDepth 20000 in
theorem gX1_endYear_X1_isCreptInto : GoodIn wsX1_endYear (wsV RX1 65 RX1 yX1_isCreptInto wsX1_isCreptInto) := goodIn_app (goodIn_of _ (by decide +kernel)) ggX1_endYear_X1_isCreptInto
theorem dX1_endYear_0 : decode cX1_endYear 0 = .ok (.iconst 0, 1) := by decide +kernel
theorem dX1_endYear_1 : decode cX1_endYear 1 = .ok (.istore_n 1, 1) := by decide +kernel
theorem dX1_endYear_2 : decode cX1_endYear 2 = .ok (.iload_n 1, 1) := by decide +kernel
theorem dX1_endYear_3 : decode cX1_endYear 3 = .ok (.aload_n 0, 1) := by decide +kernel
theorem dX1_endYear_4 : decode cX1_endYear 4 = .ok (.getfield 39, 3) := by decide +kernel
theorem dX1_endYear_7 : decode cX1_endYear 7 = .ok (.if_icmp .ge 38, 3) := by decide +kernel
theorem dX1_endYear_10 : decode cX1_endYear 10 = .ok (.aload_n 0, 1) := by decide +kernel
theorem dX1_endYear_11 : decode cX1_endYear 11 = .ok (.getfield 36, 3) := by decide +kernel
theorem dX1_endYear_14 : decode cX1_endYear 14 = .ok (.iload_n 1, 1) := by decide +kernel
theorem dX1_endYear_15 : decode cX1_endYear 15 = .ok (.aload_n 0, 1) := by decide +kernel
theorem dX1_endYear_16 : decode cX1_endYear 16 = .ok (.getfield 18, 3) := by decide +kernel
theorem dX1_endYear_19 : decode cX1_endYear 19 = .ok (.iload_n 1, 1) := by decide +kernel
theorem dX1_endYear_20 : decode cX1_endYear 20 = .ok (.iaload, 1) := by decide +kernel
theorem dX1_endYear_21 : decode cX1_endYear 21 = .ok (.invokestatic 62, 3) := by decide +kernel
theorem dX1_endYear_24 : decode cX1_endYear 24 = .ok (.aload_n 0, 1) := by decide +kernel
theorem dX1_endYear_25 : decode cX1_endYear 25 = .ok (.iload_n 1, 1) := by decide +kernel
theorem dX1_endYear_26 : decode cX1_endYear 26 = .ok (.invokevirtual 65, 3) := by decide +kernel
theorem dX1_endYear_29 : decode cX1_endYear 29 = .ok (.ifCond .eq 7, 3) := by decide +kernel
theorem dX1_endYear_32 : decode cX1_endYear 32 = .ok (.iconst 3, 1) := by decide +kernel
theorem dX1_endYear_33 : decode cX1_endYear 33 = .ok (.goto 4, 3) := by decide +kernel
theorem dX1_endYear_36 : decode cX1_endYear 36 = .ok (.iconst 0, 1) := by decide +kernel
theorem dX1_endYear_37 : decode cX1_endYear 37 = .ok (.isub, 1) := by decide +kernel
theorem dX1_endYear_38 : decode cX1_endYear 38 = .ok (.iastore, 1) := by decide +kernel
theorem dX1_endYear_39 : decode cX1_endYear 39 = .ok (.iinc 1 1, 3) := by decide +kernel
theorem dX1_endYear_42 : decode cX1_endYear 42 = .ok (.goto (-40), 3) := by decide +kernel
theorem dX1_endYear_45 : decode cX1_endYear 45 = .ok (.iconst 0, 1) := by decide +kernel
theorem dX1_endYear_46 : decode cX1_endYear 46 = .ok (.istore_n 1, 1) := by decide +kernel
theorem dX1_endYear_47 : decode cX1_endYear 47 = .ok (.iload_n 1, 1) := by decide +kernel
theorem dX1_endYear_48 : decode cX1_endYear 48 = .ok (.aload_n 0, 1) := by decide +kernel
theorem dX1_endYear_49 : decode cX1_endYear 49 = .ok (.getfield 39, 3) := by decide +kernel
theorem dX1_endYear_52 : decode cX1_endYear 52 = .ok (.if_icmp .ge 56, 3) := by decide +kernel
theorem dX1_endYear_55 : decode cX1_endYear 55 = .ok (.aload_n 0, 1) := by decide +kernel
theorem dX1_endYear_56 : decode cX1_endYear 56 = .ok (.getfield 21, 3) := by decide +kernel
theorem dX1_endYear_59 : decode cX1_endYear 59 = .ok (.iload_n 1, 1) := by decide +kernel
theorem dX1_endYear_60 : decode cX1_endYear 60 = .ok (.iconst 0, 1) := by decide +kernel
theorem dX1_endYear_61 : decode cX1_endYear 61 = .ok (.bipush 100, 2) := by decide +kernel
theorem dX1_endYear_63 : decode cX1_endYear 63 = .ok (.aload_n 0, 1) := by decide +kernel
theorem dX1_endYear_64 : decode cX1_endYear 64 = .ok (.getfield 21, 3) := by decide +kernel
theorem dX1_endYear_67 : decode cX1_endYear 67 = .ok (.iload_n 1, 1) := by decide +kernel
theorem dX1_endYear_68 : decode cX1_endYear 68 = .ok (.iaload, 1) := by decide +kernel
theorem dX1_endYear_69 : decode cX1_endYear 69 = .ok (.aload_n 0, 1) := by decide +kernel
theorem dX1_endYear_70 : decode cX1_endYear 70 = .ok (.getfield 36, 3) := by decide +kernel
theorem dX1_endYear_73 : decode cX1_endYear 73 = .ok (.iload_n 1, 1) := by decide +kernel
theorem dX1_endYear_74 : decode cX1_endYear 74 = .ok (.iaload, 1) := by decide +kernel
theorem dX1_endYear_75 : decode cX1_endYear 75 = .ok (.iadd, 1) := by decide +kernel
theorem dX1_endYear_76 : decode cX1_endYear 76 = .ok (.invokestatic 53, 3) := by decide +kernel
theorem dX1_endYear_79 : decode cX1_endYear 79 = .ok (.invokestatic 69, 3) := by decide +kernel
theorem dX1_endYear_82 : decode cX1_endYear 82 = .ok (.iastore, 1) := by decide +kernel
theorem dX1_endYear_83 : decode cX1_endYear 83 = .ok (.aload_n 0, 1) := by decide +kernel
theorem dX1_endYear_84 : decode cX1_endYear 84 = .ok (.getfield 18, 3) := by decide +kernel
theorem dX1_endYear_87 : decode cX1_endYear 87 = .ok (.iload_n 1, 1) := by decide +kernel
theorem dX1_endYear_88 : decode cX1_endYear 88 = .ok (.bipush 9, 2) := by decide +kernel
theorem dX1_endYear_90 : decode cX1_endYear 90 = .ok (.aload_n 0, 1) := by decide +kernel
theorem dX1_endYear_91 : decode cX1_endYear 91 = .ok (.getfield 18, 3) := by decide +kernel
theorem dX1_endYear_94 : decode cX1_endYear 94 = .ok (.iload_n 1, 1) := by decide +kernel
theorem dX1_endYear_95 : decode cX1_endYear 95 = .ok (.iaload, 1) := by decide +kernel
theorem dX1_endYear_96 : decode cX1_endYear 96 = .ok (.iconst 1, 1) := by decide +kernel
theorem dX1_endYear_97 : decode cX1_endYear 97 = .ok (.iadd, 1) := by decide +kernel
theorem dX1_endYear_98 : decode cX1_endYear 98 = .ok (.invokestatic 53, 3) := by decide +kernel
theorem dX1_endYear_101 : decode cX1_endYear 101 = .ok (.iastore, 1) := by decide +kernel
theorem dX1_endYear_102 : decode cX1_endYear 102 = .ok (.iinc 1 1, 3) := by decide +kernel
theorem dX1_endYear_105 : decode cX1_endYear 105 = .ok (.goto (-58), 3) := by decide +kernel
theorem dX1_endYear_108 : decode cX1_endYear 108 = .ok (.return_, 1) := by decide +kernel
theorem dX1_changeByAge_0 : decode cX1_changeByAge 0 = .ok (.iload_n 0, 1) := by decide +kernel
theorem dX1_changeByAge_1 : decode cX1_changeByAge 1 = .ok (.bipush 6, 2) := by decide +kernel
theorem dX1_changeByAge_3 : decode cX1_changeByAge 3 = .ok (.if_icmp .lt 6, 3) := by decide +kernel
theorem dX1_changeByAge_6 : decode cX1_changeByAge 6 = .ok (.bipush (-6), 2) := by decide +kernel
theorem dX1_changeByAge_8 : decode cX1_changeByAge 8 = .ok (.ireturn, 1) := by decide +kernel
theorem dX1_changeByAge_9 : decode cX1_changeByAge 9 = .ok (.iload_n 0, 1) := by decide +kernel
theorem dX1_changeByAge_10 : decode cX1_changeByAge 10 = .ok (.iconst 1, 1) := by decide +kernel
theorem dX1_changeByAge_11 : decode cX1_changeByAge 11 = .ok (.if_icmp .lt 7, 3) := by decide +kernel
theorem dX1_changeByAge_14 : decode cX1_changeByAge 14 = .ok (.iconst 2, 1) := by decide +kernel
theorem dX1_changeByAge_15 : decode cX1_changeByAge 15 = .ok (.goto 4, 3) := by decide +kernel
theorem dX1_changeByAge_18 : decode cX1_changeByAge 18 = .ok (.iconst 0, 1) := by decide +kernel
theorem dX1_changeByAge_19 : decode cX1_changeByAge 19 = .ok (.ireturn, 1) := by decide +kernel
theorem dX1_isCreptInto_0 : decode cX1_isCreptInto 0 = .ok (.iconst 0, 1) := by decide +kernel
theorem dX1_isCreptInto_1 : decode cX1_isCreptInto 1 = .ok (.istore_n 2, 1) := by decide +kernel
theorem dX1_isCreptInto_2 : decode cX1_isCreptInto 2 = .ok (.iload_n 2, 1) := by decide +kernel
theorem dX1_isCreptInto_3 : decode cX1_isCreptInto 3 = .ok (.aload_n 0, 1) := by decide +kernel
theorem dX1_isCreptInto_4 : decode cX1_isCreptInto 4 = .ok (.getfield 39, 3) := by decide +kernel
theorem dX1_isCreptInto_7 : decode cX1_isCreptInto 7 = .ok (.if_icmp .ge 49, 3) := by decide +kernel
theorem dX1_isCreptInto_10 : decode cX1_isCreptInto 10 = .ok (.aload_n 0, 1) := by decide +kernel
theorem dX1_isCreptInto_11 : decode cX1_isCreptInto 11 = .ok (.getfield 9, 3) := by decide +kernel
theorem dX1_isCreptInto_14 : decode cX1_isCreptInto 14 = .ok (.iload_n 2, 1) := by decide +kernel
theorem dX1_isCreptInto_15 : decode cX1_isCreptInto 15 = .ok (.iaload, 1) := by decide +kernel
theorem dX1_isCreptInto_16 : decode cX1_isCreptInto 16 = .ok (.aload_n 0, 1) := by decide +kernel
theorem dX1_isCreptInto_17 : decode cX1_isCreptInto 17 = .ok (.getfield 9, 3) := by decide +kernel
theorem dX1_isCreptInto_20 : decode cX1_isCreptInto 20 = .ok (.iload_n 1, 1) := by decide +kernel
theorem dX1_isCreptInto_21 : decode cX1_isCreptInto 21 = .ok (.iaload, 1) := by decide +kernel
theorem dX1_isCreptInto_22 : decode cX1_isCreptInto 22 = .ok (.isub, 1) := by decide +kernel
theorem dX1_isCreptInto_23 : decode cX1_isCreptInto 23 = .ok (.invokestatic 72, 3) := by decide +kernel
theorem dX1_isCreptInto_26 : decode cX1_isCreptInto 26 = .ok (.iconst 4, 1) := by decide +kernel
theorem dX1_isCreptInto_27 : decode cX1_isCreptInto 27 = .ok (.if_icmp .gt 23, 3) := by decide +kernel
theorem dX1_isCreptInto_30 : decode cX1_isCreptInto 30 = .ok (.aload_n 0, 1) := by decide +kernel
theorem dX1_isCreptInto_31 : decode cX1_isCreptInto 31 = .ok (.getfield 21, 3) := by decide +kernel
theorem dX1_isCreptInto_34 : decode cX1_isCreptInto 34 = .ok (.iload_n 1, 1) := by decide +kernel
theorem dX1_isCreptInto_35 : decode cX1_isCreptInto 35 = .ok (.iaload, 1) := by decide +kernel
theorem dX1_isCreptInto_36 : decode cX1_isCreptInto 36 = .ok (.aload_n 0, 1) := by decide +kernel
theorem dX1_isCreptInto_37 : decode cX1_isCreptInto 37 = .ok (.getfield 21, 3) := by decide +kernel
theorem dX1_isCreptInto_40 : decode cX1_isCreptInto 40 = .ok (.iload_n 2, 1) := by decide +kernel
theorem dX1_isCreptInto_41 : decode cX1_isCreptInto 41 = .ok (.iaload, 1) := by decide +kernel
theorem dX1_isCreptInto_42 : decode cX1_isCreptInto 42 = .ok (.isub, 1) := by decide +kernel
theorem dX1_isCreptInto_43 : decode cX1_isCreptInto 43 = .ok (.bipush 30, 2) := by decide +kernel
theorem dX1_isCreptInto_45 : decode cX1_isCreptInto 45 = .ok (.if_icmp .lt 5, 3) := by decide +kernel
theorem dX1_isCreptInto_48 : decode cX1_isCreptInto 48 = .ok (.iconst 1, 1) := by decide +kernel
theorem dX1_isCreptInto_49 : decode cX1_isCreptInto 49 = .ok (.ireturn, 1) := by decide +kernel
theorem dX1_isCreptInto_50 : decode cX1_isCreptInto 50 = .ok (.iinc 2 1, 3) := by decide +kernel
theorem dX1_isCreptInto_53 : decode cX1_isCreptInto 53 = .ok (.goto (-51), 3) := by decide +kernel
theorem dX1_isCreptInto_56 : decode cX1_isCreptInto 56 = .ok (.iconst 0, 1) := by decide +kernel
theorem dX1_isCreptInto_57 : decode cX1_isCreptInto 57 = .ok (.ireturn, 1) := by decide +kernel
set_option maxRecDepth 20000 in
theorem ggX1_tell_X1_given : GoodIn wsX1_tell wsX1_given := goodIn_r _ [13, 3, 2, 18, 19, 20, 21, 22, 23, 24, 25, 26, 27] (by decide +kernel) (by decide +kernel)
set_option maxRecDepth 20000 in
theorem gX1_tell_X1_given : GoodIn wsX1_tell (wsV RX1 46 RX1 yX1_given wsX1_given) := goodIn_app (goodIn_of _ (by decide +kernel)) ggX1_tell_X1_given
set_option maxRecDepth 20000 in
theorem ggX1_tell_X1_sedgeGiven : GoodIn wsX1_tell wsX1_sedgeGiven := goodIn_r _ [17, 4, 9, 10, 11, 12, 13, 3, 2, 18, 19, 20, 21, 22, 23, 24, 25, 26, 27] (by decide +kernel) (by decide +kernel)
set_option maxRecDepth 20000 in
theorem gX1_tell_X1_sedgeGiven : GoodIn wsX1_tell (wsV RX1 50 RX1 yX1_sedgeGiven wsX1_sedgeGiven) := goodIn_app (goodIn_of _ (by decide +kernel)) ggX1_tell_X1_sedgeGiven
theorem dX1_tell_0 : decode cX1_tell 0 = .ok (.iload_n 2, 1) := by decide +kernel
theorem dX1_tell_1 : decode cX1_tell 1 = .ok (.tableswitch 112 0 8 #[51, 58, 65, 72, 79, 85, 91, 98, 105], 51) := by decide +kernel
theorem dX1_tell_52 : decode cX1_tell 52 = .ok (.aload_n 0, 1) := by decide +kernel
theorem dX1_tell_53 : decode cX1_tell 53 = .ok (.getfield 9, 3) := by decide +kernel
theorem dX1_tell_56 : decode cX1_tell 56 = .ok (.iload_n 1, 1) := by decide +kernel
theorem dX1_tell_57 : decode cX1_tell 57 = .ok (.iaload, 1) := by decide +kernel
theorem dX1_tell_58 : decode cX1_tell 58 = .ok (.ireturn, 1) := by decide +kernel
theorem dX1_tell_59 : decode cX1_tell 59 = .ok (.aload_n 0, 1) := by decide +kernel
theorem dX1_tell_60 : decode cX1_tell 60 = .ok (.getfield 15, 3) := by decide +kernel
theorem dX1_tell_63 : decode cX1_tell 63 = .ok (.iload_n 1, 1) := by decide +kernel
theorem dX1_tell_64 : decode cX1_tell 64 = .ok (.iaload, 1) := by decide +kernel
theorem dX1_tell_65 : decode cX1_tell 65 = .ok (.ireturn, 1) := by decide +kernel
theorem dX1_tell_66 : decode cX1_tell 66 = .ok (.aload_n 0, 1) := by decide +kernel
theorem dX1_tell_67 : decode cX1_tell 67 = .ok (.getfield 18, 3) := by decide +kernel
theorem dX1_tell_70 : decode cX1_tell 70 = .ok (.iload_n 1, 1) := by decide +kernel
theorem dX1_tell_71 : decode cX1_tell 71 = .ok (.iaload, 1) := by decide +kernel
theorem dX1_tell_72 : decode cX1_tell 72 = .ok (.ireturn, 1) := by decide +kernel
theorem dX1_tell_73 : decode cX1_tell 73 = .ok (.aload_n 0, 1) := by decide +kernel
theorem dX1_tell_74 : decode cX1_tell 74 = .ok (.getfield 21, 3) := by decide +kernel
theorem dX1_tell_77 : decode cX1_tell 77 = .ok (.iload_n 1, 1) := by decide +kernel
theorem dX1_tell_78 : decode cX1_tell 78 = .ok (.iaload, 1) := by decide +kernel
theorem dX1_tell_79 : decode cX1_tell 79 = .ok (.ireturn, 1) := by decide +kernel
theorem dX1_tell_80 : decode cX1_tell 80 = .ok (.aload_n 0, 1) := by decide +kernel
theorem dX1_tell_81 : decode cX1_tell 81 = .ok (.iload_n 1, 1) := by decide +kernel
theorem dX1_tell_82 : decode cX1_tell 82 = .ok (.invokevirtual 46, 3) := by decide +kernel
theorem dX1_tell_85 : decode cX1_tell 85 = .ok (.ireturn, 1) := by decide +kernel
theorem dX1_tell_86 : decode cX1_tell 86 = .ok (.aload_n 0, 1) := by decide +kernel
theorem dX1_tell_87 : decode cX1_tell 87 = .ok (.iload_n 1, 1) := by decide +kernel
theorem dX1_tell_88 : decode cX1_tell 88 = .ok (.invokevirtual 50, 3) := by decide +kernel
theorem dX1_tell_91 : decode cX1_tell 91 = .ok (.ireturn, 1) := by decide +kernel
theorem dX1_tell_92 : decode cX1_tell 92 = .ok (.aload_n 0, 1) := by decide +kernel
theorem dX1_tell_93 : decode cX1_tell 93 = .ok (.getfield 24, 3) := by decide +kernel
theorem dX1_tell_96 : decode cX1_tell 96 = .ok (.iload_n 1, 1) := by decide +kernel
theorem dX1_tell_97 : decode cX1_tell 97 = .ok (.iaload, 1) := by decide +kernel
theorem dX1_tell_98 : decode cX1_tell 98 = .ok (.ireturn, 1) := by decide +kernel
theorem dX1_tell_99 : decode cX1_tell 99 = .ok (.aload_n 0, 1) := by decide +kernel
theorem dX1_tell_100 : decode cX1_tell 100 = .ok (.getfield 27, 3) := by decide +kernel
theorem dX1_tell_103 : decode cX1_tell 103 = .ok (.iload_n 1, 1) := by decide +kernel
theorem dX1_tell_104 : decode cX1_tell 104 = .ok (.iaload, 1) := by decide +kernel
theorem dX1_tell_105 : decode cX1_tell 105 = .ok (.ireturn, 1) := by decide +kernel
theorem dX1_tell_106 : decode cX1_tell 106 = .ok (.aload_n 0, 1) := by decide +kernel
theorem dX1_tell_107 : decode cX1_tell 107 = .ok (.getfield 30, 3) := by decide +kernel
theorem dX1_tell_110 : decode cX1_tell 110 = .ok (.iload_n 1, 1) := by decide +kernel
theorem dX1_tell_111 : decode cX1_tell 111 = .ok (.iaload, 1) := by decide +kernel
theorem dX1_tell_112 : decode cX1_tell 112 = .ok (.ireturn, 1) := by decide +kernel
theorem dX1_tell_113 : decode cX1_tell 113 = .ok (.aload_n 0, 1) := by decide +kernel
theorem dX1_tell_114 : decode cX1_tell 114 = .ok (.getfield 33, 3) := by decide +kernel
theorem dX1_tell_117 : decode cX1_tell 117 = .ok (.iload_n 1, 1) := by decide +kernel
theorem dX1_tell_118 : decode cX1_tell 118 = .ok (.iaload, 1) := by decide +kernel
theorem dX1_tell_119 : decode cX1_tell 119 = .ok (.ireturn, 1) := by decide +kernel
theorem dX1_sedgeOfAll_0 : decode cX1_sedgeOfAll 0 = .ok (.iconst 0, 1) := by decide +kernel
theorem dX1_sedgeOfAll_1 : decode cX1_sedgeOfAll 1 = .ok (.istore_n 1, 1) := by decide +kernel
theorem dX1_sedgeOfAll_2 : decode cX1_sedgeOfAll 2 = .ok (.iconst 0, 1) := by decide +kernel
theorem dX1_sedgeOfAll_3 : decode cX1_sedgeOfAll 3 = .ok (.istore_n 2, 1) := by decide +kernel
theorem dX1_sedgeOfAll_4 : decode cX1_sedgeOfAll 4 = .ok (.iload_n 2, 1) := by decide +kernel
theorem dX1_sedgeOfAll_5 : decode cX1_sedgeOfAll 5 = .ok (.aload_n 0, 1) := by decide +kernel
theorem dX1_sedgeOfAll_6 : decode cX1_sedgeOfAll 6 = .ok (.getfield 39, 3) := by decide +kernel
theorem dX1_sedgeOfAll_9 : decode cX1_sedgeOfAll 9 = .ok (.if_icmp .ge 18, 3) := by decide +kernel
theorem dX1_sedgeOfAll_12 : decode cX1_sedgeOfAll 12 = .ok (.iload_n 1, 1) := by decide +kernel
theorem dX1_sedgeOfAll_13 : decode cX1_sedgeOfAll 13 = .ok (.aload_n 0, 1) := by decide +kernel
theorem dX1_sedgeOfAll_14 : decode cX1_sedgeOfAll 14 = .ok (.getfield 21, 3) := by decide +kernel
theorem dX1_sedgeOfAll_17 : decode cX1_sedgeOfAll 17 = .ok (.iload_n 2, 1) := by decide +kernel
theorem dX1_sedgeOfAll_18 : decode cX1_sedgeOfAll 18 = .ok (.iaload, 1) := by decide +kernel
theorem dX1_sedgeOfAll_19 : decode cX1_sedgeOfAll 19 = .ok (.iadd, 1) := by decide +kernel
theorem dX1_sedgeOfAll_20 : decode cX1_sedgeOfAll 20 = .ok (.istore_n 1, 1) := by decide +kernel
theorem dX1_sedgeOfAll_21 : decode cX1_sedgeOfAll 21 = .ok (.iinc 2 1, 3) := by decide +kernel
theorem dX1_sedgeOfAll_24 : decode cX1_sedgeOfAll 24 = .ok (.goto (-20), 3) := by decide +kernel
theorem dX1_sedgeOfAll_27 : decode cX1_sedgeOfAll 27 = .ok (.iload_n 1, 1) := by decide +kernel
theorem dX1_sedgeOfAll_28 : decode cX1_sedgeOfAll 28 = .ok (.ireturn, 1) := by decide +kernel
set_option maxRecDepth 20000 in
theorem ggX1_givenByAll_X1_given : GoodIn wsX1_givenByAll wsX1_given := goodIn_r _ [6, 7, 8, 9, 10, 11, 12, 13, 14, 15, 16, 17, 18] (by decide +kernel) (by decide +kernel)
set_option maxRecDepth 20000 in
theorem gX1_givenByAll_X1_given : GoodIn wsX1_givenByAll (wsV RX1 46 RX1 yX1_given wsX1_given) := goodIn_app (goodIn_of _ (by decide +kernel)) ggX1_givenByAll_X1_given
theorem dX1_givenByAll_0 : decode cX1_givenByAll 0 = .ok (.iconst 0, 1) := by decide +kernel
theorem dX1_givenByAll_1 : decode cX1_givenByAll 1 = .ok (.istore_n 1, 1) := by decide +kernel
theorem dX1_givenByAll_2 : decode cX1_givenByAll 2 = .ok (.iconst 0, 1) := by decide +kernel
theorem dX1_givenByAll_3 : decode cX1_givenByAll 3 = .ok (.istore_n 2, 1) := by decide +kernel
theorem dX1_givenByAll_4 : decode cX1_givenByAll 4 = .ok (.iload_n 2, 1) := by decide +kernel
theorem dX1_givenByAll_5 : decode cX1_givenByAll 5 = .ok (.aload_n 0, 1) := by decide +kernel
theorem dX1_givenByAll_6 : decode cX1_givenByAll 6 = .ok (.getfield 39, 3) := by decide +kernel
theorem dX1_givenByAll_9 : decode cX1_givenByAll 9 = .ok (.if_icmp .ge 17, 3) := by decide +kernel
theorem dX1_givenByAll_12 : decode cX1_givenByAll 12 = .ok (.iload_n 1, 1) := by decide +kernel
theorem dX1_givenByAll_13 : decode cX1_givenByAll 13 = .ok (.aload_n 0, 1) := by decide +kernel
theorem dX1_givenByAll_14 : decode cX1_givenByAll 14 = .ok (.iload_n 2, 1) := by decide +kernel
theorem dX1_givenByAll_15 : decode cX1_givenByAll 15 = .ok (.invokevirtual 46, 3) := by decide +kernel
theorem dX1_givenByAll_18 : decode cX1_givenByAll 18 = .ok (.iadd, 1) := by decide +kernel
theorem dX1_givenByAll_19 : decode cX1_givenByAll 19 = .ok (.istore_n 1, 1) := by decide +kernel
theorem dX1_givenByAll_20 : decode cX1_givenByAll 20 = .ok (.iinc 2 1, 3) := by decide +kernel
theorem dX1_givenByAll_23 : decode cX1_givenByAll 23 = .ok (.goto (-19), 3) := by decide +kernel
theorem dX1_givenByAll_26 : decode cX1_givenByAll 26 = .ok (.iload_n 1, 1) := by decide +kernel
theorem dX1_givenByAll_27 : decode cX1_givenByAll 27 = .ok (.ireturn, 1) := by decide +kernel
theorem dX1_untiedOfAll_0 : decode cX1_untiedOfAll 0 = .ok (.iconst 0, 1) := by decide +kernel
theorem dX1_untiedOfAll_1 : decode cX1_untiedOfAll 1 = .ok (.istore_n 1, 1) := by decide +kernel
theorem dX1_untiedOfAll_2 : decode cX1_untiedOfAll 2 = .ok (.iconst 0, 1) := by decide +kernel
theorem dX1_untiedOfAll_3 : decode cX1_untiedOfAll 3 = .ok (.istore_n 2, 1) := by decide +kernel
theorem dX1_untiedOfAll_4 : decode cX1_untiedOfAll 4 = .ok (.iload_n 2, 1) := by decide +kernel
theorem dX1_untiedOfAll_5 : decode cX1_untiedOfAll 5 = .ok (.aload_n 0, 1) := by decide +kernel
theorem dX1_untiedOfAll_6 : decode cX1_untiedOfAll 6 = .ok (.getfield 39, 3) := by decide +kernel
theorem dX1_untiedOfAll_9 : decode cX1_untiedOfAll 9 = .ok (.if_icmp .ge 25, 3) := by decide +kernel
theorem dX1_untiedOfAll_12 : decode cX1_untiedOfAll 12 = .ok (.iload_n 1, 1) := by decide +kernel
theorem dX1_untiedOfAll_13 : decode cX1_untiedOfAll 13 = .ok (.aload_n 0, 1) := by decide +kernel
theorem dX1_untiedOfAll_14 : decode cX1_untiedOfAll 14 = .ok (.getfield 24, 3) := by decide +kernel
theorem dX1_untiedOfAll_17 : decode cX1_untiedOfAll 17 = .ok (.iload_n 2, 1) := by decide +kernel
theorem dX1_untiedOfAll_18 : decode cX1_untiedOfAll 18 = .ok (.iaload, 1) := by decide +kernel
theorem dX1_untiedOfAll_19 : decode cX1_untiedOfAll 19 = .ok (.aload_n 0, 1) := by decide +kernel
theorem dX1_untiedOfAll_20 : decode cX1_untiedOfAll 20 = .ok (.getfield 27, 3) := by decide +kernel
theorem dX1_untiedOfAll_23 : decode cX1_untiedOfAll 23 = .ok (.iload_n 2, 1) := by decide +kernel
theorem dX1_untiedOfAll_24 : decode cX1_untiedOfAll 24 = .ok (.iaload, 1) := by decide +kernel
theorem dX1_untiedOfAll_25 : decode cX1_untiedOfAll 25 = .ok (.iadd, 1) := by decide +kernel
theorem dX1_untiedOfAll_26 : decode cX1_untiedOfAll 26 = .ok (.iadd, 1) := by decide +kernel
theorem dX1_untiedOfAll_27 : decode cX1_untiedOfAll 27 = .ok (.istore_n 1, 1) := by decide +kernel
theorem dX1_untiedOfAll_28 : decode cX1_untiedOfAll 28 = .ok (.iinc 2 1, 3) := by decide +kernel
theorem dX1_untiedOfAll_31 : decode cX1_untiedOfAll 31 = .ok (.goto (-27), 3) := by decide +kernel
theorem dX1_untiedOfAll_34 : decode cX1_untiedOfAll 34 = .ok (.iload_n 1, 1) := by decide +kernel
theorem dX1_untiedOfAll_35 : decode cX1_untiedOfAll 35 = .ok (.ireturn, 1) := by decide +kernel
theorem dX1_tiedOfAll_0 : decode cX1_tiedOfAll 0 = .ok (.iconst 0, 1) := by decide +kernel
theorem dX1_tiedOfAll_1 : decode cX1_tiedOfAll 1 = .ok (.istore_n 1, 1) := by decide +kernel
theorem dX1_tiedOfAll_2 : decode cX1_tiedOfAll 2 = .ok (.iconst 0, 1) := by decide +kernel
theorem dX1_tiedOfAll_3 : decode cX1_tiedOfAll 3 = .ok (.istore_n 2, 1) := by decide +kernel
theorem dX1_tiedOfAll_4 : decode cX1_tiedOfAll 4 = .ok (.iload_n 2, 1) := by decide +kernel
theorem dX1_tiedOfAll_5 : decode cX1_tiedOfAll 5 = .ok (.aload_n 0, 1) := by decide +kernel
theorem dX1_tiedOfAll_6 : decode cX1_tiedOfAll 6 = .ok (.getfield 39, 3) := by decide +kernel
theorem dX1_tiedOfAll_9 : decode cX1_tiedOfAll 9 = .ok (.if_icmp .ge 25, 3) := by decide +kernel
theorem dX1_tiedOfAll_12 : decode cX1_tiedOfAll 12 = .ok (.iload_n 1, 1) := by decide +kernel
theorem dX1_tiedOfAll_13 : decode cX1_tiedOfAll 13 = .ok (.aload_n 0, 1) := by decide +kernel
theorem dX1_tiedOfAll_14 : decode cX1_tiedOfAll 14 = .ok (.getfield 30, 3) := by decide +kernel
theorem dX1_tiedOfAll_17 : decode cX1_tiedOfAll 17 = .ok (.iload_n 2, 1) := by decide +kernel
theorem dX1_tiedOfAll_18 : decode cX1_tiedOfAll 18 = .ok (.iaload, 1) := by decide +kernel
theorem dX1_tiedOfAll_19 : decode cX1_tiedOfAll 19 = .ok (.aload_n 0, 1) := by decide +kernel
theorem dX1_tiedOfAll_20 : decode cX1_tiedOfAll 20 = .ok (.getfield 33, 3) := by decide +kernel
theorem dX1_tiedOfAll_23 : decode cX1_tiedOfAll 23 = .ok (.iload_n 2, 1) := by decide +kernel
theorem dX1_tiedOfAll_24 : decode cX1_tiedOfAll 24 = .ok (.iaload, 1) := by decide +kernel
theorem dX1_tiedOfAll_25 : decode cX1_tiedOfAll 25 = .ok (.iadd, 1) := by decide +kernel
theorem dX1_tiedOfAll_26 : decode cX1_tiedOfAll 26 = .ok (.iadd, 1) := by decide +kernel
theorem dX1_tiedOfAll_27 : decode cX1_tiedOfAll 27 = .ok (.istore_n 1, 1) := by decide +kernel
theorem dX1_tiedOfAll_28 : decode cX1_tiedOfAll 28 = .ok (.iinc 2 1, 3) := by decide +kernel
theorem dX1_tiedOfAll_31 : decode cX1_tiedOfAll 31 = .ok (.goto (-27), 3) := by decide +kernel
theorem dX1_tiedOfAll_34 : decode cX1_tiedOfAll 34 = .ok (.iload_n 1, 1) := by decide +kernel
theorem dX1_tiedOfAll_35 : decode cX1_tiedOfAll 35 = .ok (.ireturn, 1) := by decide +kernel
theorem dX2_init_0 : decode cX2_init 0 = .ok (.aload_n 0, 1) := by decide +kernel
theorem dX2_init_1 : decode cX2_init 1 = .ok (.invokespecial 3, 3) := by decide +kernel
theorem dX2_init_4 : decode cX2_init 4 = .ok (.aload_n 0, 1) := by decide +kernel
theorem dX2_init_5 : decode cX2_init 5 = .ok (.iconst 3, 1) := by decide +kernel
theorem dX2_init_6 : decode cX2_init 6 = .ok (.newarray .int, 2) := by decide +kernel
theorem dX2_init_8 : decode cX2_init 8 = .ok (.putfield 9, 3) := by decide +kernel
theorem dX2_init_11 : decode cX2_init 11 = .ok (.return_, 1) := by decide +kernel
theorem dX2_copyFrom_0 : decode cX2_copyFrom 0 = .ok (.iconst 0, 1) := by decide +kernel
theorem dX2_copyFrom_1 : decode cX2_copyFrom 1 = .ok (.istore_n 2, 1) := by decide +kernel
theorem dX2_copyFrom_2 : decode cX2_copyFrom 2 = .ok (.iload_n 2, 1) := by decide +kernel
theorem dX2_copyFrom_3 : decode cX2_copyFrom 3 = .ok (.iconst 3, 1) := by decide +kernel
theorem dX2_copyFrom_4 : decode cX2_copyFrom 4 = .ok (.if_icmp .ge 21, 3) := by decide +kernel
theorem dX2_copyFrom_7 : decode cX2_copyFrom 7 = .ok (.aload_n 0, 1) := by decide +kernel
theorem dX2_copyFrom_8 : decode cX2_copyFrom 8 = .ok (.getfield 9, 3) := by decide +kernel
theorem dX2_copyFrom_11 : decode cX2_copyFrom 11 = .ok (.iload_n 2, 1) := by decide +kernel
theorem dX2_copyFrom_12 : decode cX2_copyFrom 12 = .ok (.aload_n 1, 1) := by decide +kernel
theorem dX2_copyFrom_13 : decode cX2_copyFrom 13 = .ok (.getfield 9, 3) := by decide +kernel
theorem dX2_copyFrom_16 : decode cX2_copyFrom 16 = .ok (.iload_n 2, 1) := by decide +kernel
theorem dX2_copyFrom_17 : decode cX2_copyFrom 17 = .ok (.iaload, 1) := by decide +kernel
theorem dX2_copyFrom_18 : decode cX2_copyFrom 18 = .ok (.iastore, 1) := by decide +kernel
theorem dX2_copyFrom_19 : decode cX2_copyFrom 19 = .ok (.iinc 2 1, 3) := by decide +kernel
theorem dX2_copyFrom_22 : decode cX2_copyFrom 22 = .ok (.goto (-20), 3) := by decide +kernel
theorem dX2_copyFrom_25 : decode cX2_copyFrom 25 = .ok (.return_, 1) := by decide +kernel
theorem dX2_sedgePrice_0 : decode cX2_sedgePrice 0 = .ok (.iconst 1, 1) := by decide +kernel
theorem dX2_sedgePrice_1 : decode cX2_sedgePrice 1 = .ok (.getstatic 15, 3) := by decide +kernel
theorem dX2_sedgePrice_4 : decode cX2_sedgePrice 4 = .ok (.iload_n 1, 1) := by decide +kernel
theorem dX2_sedgePrice_5 : decode cX2_sedgePrice 5 = .ok (.iaload, 1) := by decide +kernel
theorem dX2_sedgePrice_6 : decode cX2_sedgePrice 6 = .ok (.aload_n 0, 1) := by decide +kernel
theorem dX2_sedgePrice_7 : decode cX2_sedgePrice 7 = .ok (.getfield 9, 3) := by decide +kernel
theorem dX2_sedgePrice_10 : decode cX2_sedgePrice 10 = .ok (.iload_n 1, 1) := by decide +kernel
theorem dX2_sedgePrice_11 : decode cX2_sedgePrice 11 = .ok (.iaload, 1) := by decide +kernel
theorem dX2_sedgePrice_12 : decode cX2_sedgePrice 12 = .ok (.bipush 25, 2) := by decide +kernel
theorem dX2_sedgePrice_14 : decode cX2_sedgePrice 14 = .ok (.idiv, 1) := by decide +kernel
theorem dX2_sedgePrice_15 : decode cX2_sedgePrice 15 = .ok (.isub, 1) := by decide +kernel
theorem dX2_sedgePrice_16 : decode cX2_sedgePrice 16 = .ok (.invokestatic 18, 3) := by decide +kernel
theorem dX2_sedgePrice_19 : decode cX2_sedgePrice 19 = .ok (.ireturn, 1) := by decide +kernel
set_option maxRecDepth 20000 in
theorem ggX2_reedPrice_X2_sedgePrice : GoodIn wsX2_reedPrice wsX2_sedgePrice := goodIn_r _ [9, 10, 1, 2, 3, 4, 11] (by decide +kernel) (by decide +kernel)
set_option maxRecDepth 20000 in
theorem gX2_reedPrice_X2_sedgePrice : GoodIn wsX2_reedPrice (wsV RX2 24 RX2 yX2_sedgePrice wsX2_sedgePrice) := goodIn_app (goodIn_of _ (by decide +kernel)) ggX2_reedPrice_X2_sedgePrice
theorem dX2_reedPrice_0 : decode cX2_reedPrice 0 = .ok (.iconst 1, 1) := by decide +kernel
theorem dX2_reedPrice_1 : decode cX2_reedPrice 1 = .ok (.aload_n 0, 1) := by decide +kernel
theorem dX2_reedPrice_2 : decode cX2_reedPrice 2 = .ok (.iload_n 1, 1) := by decide +kernel
theorem dX2_reedPrice_3 : decode cX2_reedPrice 3 = .ok (.invokevirtual 24, 3) := by decide +kernel
theorem dX2_reedPrice_6 : decode cX2_reedPrice 6 = .ok (.iconst 2, 1) := by decide +kernel
theorem dX2_reedPrice_7 : decode cX2_reedPrice 7 = .ok (.idiv, 1) := by decide +kernel
theorem dX2_reedPrice_8 : decode cX2_reedPrice 8 = .ok (.invokestatic 18, 3) := by decide +kernel
theorem dX2_reedPrice_11 : decode cX2_reedPrice 11 = .ok (.ireturn, 1) := by decide +kernel
set_option maxRecDepth 20000 in
theorem ggX2_thatch_X4_twentiethRoundedUp : GoodIn wsX2_thatch wsX4_twentiethRoundedUp := goodIn_r _ [4] (by decide +kernel) (by decide +kernel)
set_option maxRecDepth 20000 in
theorem gX2_thatch_X4_twentiethRoundedUp_n28 : GoodIn wsX2_thatch (wsX4_twentiethRoundedUp) := ggX2_thatch_X4_twentiethRoundedUp
theorem dX2_thatch_0 : decode cX2_thatch 0 = .ok (.iconst 0, 1) := by decide +kernel
theorem dX2_thatch_1 : decode cX2_thatch 1 = .ok (.istore_n 1, 1) := by decide +kernel
theorem dX2_thatch_2 : decode cX2_thatch 2 = .ok (.iload_n 1, 1) := by decide +kernel
theorem dX2_thatch_3 : decode cX2_thatch 3 = .ok (.iconst 3, 1) := by decide +kernel
theorem dX2_thatch_4 : decode cX2_thatch 4 = .ok (.if_icmp .ge 27, 3) := by decide +kernel
theorem dX2_thatch_7 : decode cX2_thatch 7 = .ok (.aload_n 0, 1) := by decide +kernel
theorem dX2_thatch_8 : decode cX2_thatch 8 = .ok (.getfield 9, 3) := by decide +kernel
theorem dX2_thatch_11 : decode cX2_thatch 11 = .ok (.iload_n 1, 1) := by decide +kernel
theorem dX2_thatch_12 : decode cX2_thatch 12 = .ok (.dup2, 1) := by decide +kernel
theorem dX2_thatch_13 : decode cX2_thatch 13 = .ok (.iaload, 1) := by decide +kernel
theorem dX2_thatch_14 : decode cX2_thatch 14 = .ok (.aload_n 0, 1) := by decide +kernel
theorem dX2_thatch_15 : decode cX2_thatch 15 = .ok (.getfield 9, 3) := by decide +kernel
theorem dX2_thatch_18 : decode cX2_thatch 18 = .ok (.iload_n 1, 1) := by decide +kernel
theorem dX2_thatch_19 : decode cX2_thatch 19 = .ok (.iaload, 1) := by decide +kernel
theorem dX2_thatch_20 : decode cX2_thatch 20 = .ok (.invokestatic 28, 3) := by decide +kernel
theorem dX2_thatch_23 : decode cX2_thatch 23 = .ok (.isub, 1) := by decide +kernel
theorem dX2_thatch_24 : decode cX2_thatch 24 = .ok (.iastore, 1) := by decide +kernel
theorem dX2_thatch_25 : decode cX2_thatch 25 = .ok (.iinc 1 1, 3) := by decide +kernel
theorem dX2_thatch_28 : decode cX2_thatch 28 = .ok (.goto (-26), 3) := by decide +kernel
theorem dX2_thatch_31 : decode cX2_thatch 31 = .ok (.return_, 1) := by decide +kernel
set_option maxRecDepth 20000 in
theorem ggX2_tell_X2_sedgePrice : GoodIn wsX2_tell wsX2_sedgePrice := goodIn_r _ [6, 1, 7, 8, 9, 10, 15] (by decide +kernel) (by decide +kernel)
set_option maxRecDepth 20000 in
theorem gX2_tell_X2_sedgePrice : GoodIn wsX2_tell (wsV RX2 24 RX2 yX2_sedgePrice wsX2_sedgePrice) := goodIn_app (goodIn_of _ (by decide +kernel)) ggX2_tell_X2_sedgePrice
set_option maxRecDepth 20000 in
theorem ggX2_tell_X2_reedPrice : GoodIn wsX2_tell wsX2_reedPrice := goodIn_r _ [14, 7, 8, 9, 10, 2, 3, 4, 5, 6, 1, 15] (by decide +kernel) (by decide +kernel)
set_option maxRecDepth 20000 in
theorem gX2_tell_X2_reedPrice : GoodIn wsX2_tell (wsV RX2 34 RX2 yX2_reedPrice wsX2_reedPrice) := goodIn_app (goodIn_of _ (by decide +kernel)) ggX2_tell_X2_reedPrice
theorem dX2_tell_0 : decode cX2_tell 0 = .ok (.iload_n 2, 1) := by decide +kernel
theorem dX2_tell_1 : decode cX2_tell 1 = .ok (.tableswitch 46 0 2 #[27, 33, 40], 27) := by decide +kernel
theorem dX2_tell_28 : decode cX2_tell 28 = .ok (.getstatic 31, 3) := by decide +kernel
theorem dX2_tell_31 : decode cX2_tell 31 = .ok (.iload_n 1, 1) := by decide +kernel
theorem dX2_tell_32 : decode cX2_tell 32 = .ok (.iaload, 1) := by decide +kernel
theorem dX2_tell_33 : decode cX2_tell 33 = .ok (.ireturn, 1) := by decide +kernel
theorem dX2_tell_34 : decode cX2_tell 34 = .ok (.aload_n 0, 1) := by decide +kernel
theorem dX2_tell_35 : decode cX2_tell 35 = .ok (.getfield 9, 3) := by decide +kernel
theorem dX2_tell_38 : decode cX2_tell 38 = .ok (.iload_n 1, 1) := by decide +kernel
theorem dX2_tell_39 : decode cX2_tell 39 = .ok (.iaload, 1) := by decide +kernel
theorem dX2_tell_40 : decode cX2_tell 40 = .ok (.ireturn, 1) := by decide +kernel
theorem dX2_tell_41 : decode cX2_tell 41 = .ok (.aload_n 0, 1) := by decide +kernel
theorem dX2_tell_42 : decode cX2_tell 42 = .ok (.iload_n 1, 1) := by decide +kernel
theorem dX2_tell_43 : decode cX2_tell 43 = .ok (.invokevirtual 24, 3) := by decide +kernel
theorem dX2_tell_46 : decode cX2_tell 46 = .ok (.ireturn, 1) := by decide +kernel
theorem dX2_tell_47 : decode cX2_tell 47 = .ok (.aload_n 0, 1) := by decide +kernel
theorem dX2_tell_48 : decode cX2_tell 48 = .ok (.iload_n 1, 1) := by decide +kernel
theorem dX2_tell_49 : decode cX2_tell 49 = .ok (.invokevirtual 34, 3) := by decide +kernel
theorem dX2_tell_52 : decode cX2_tell 52 = .ok (.ireturn, 1) := by decide +kernel
theorem dX2_storeOfAll_0 : decode cX2_storeOfAll 0 = .ok (.iconst 0, 1) := by decide +kernel
theorem dX2_storeOfAll_1 : decode cX2_storeOfAll 1 = .ok (.istore_n 1, 1) := by decide +kernel
theorem dX2_storeOfAll_2 : decode cX2_storeOfAll 2 = .ok (.iconst 0, 1) := by decide +kernel
theorem dX2_storeOfAll_3 : decode cX2_storeOfAll 3 = .ok (.istore_n 2, 1) := by decide +kernel
theorem dX2_storeOfAll_4 : decode cX2_storeOfAll 4 = .ok (.iload_n 2, 1) := by decide +kernel
theorem dX2_storeOfAll_5 : decode cX2_storeOfAll 5 = .ok (.iconst 3, 1) := by decide +kernel
theorem dX2_storeOfAll_6 : decode cX2_storeOfAll 6 = .ok (.if_icmp .ge 18, 3) := by decide +kernel
theorem dX2_storeOfAll_9 : decode cX2_storeOfAll 9 = .ok (.iload_n 1, 1) := by decide +kernel
theorem dX2_storeOfAll_10 : decode cX2_storeOfAll 10 = .ok (.aload_n 0, 1) := by decide +kernel
theorem dX2_storeOfAll_11 : decode cX2_storeOfAll 11 = .ok (.getfield 9, 3) := by decide +kernel
theorem dX2_storeOfAll_14 : decode cX2_storeOfAll 14 = .ok (.iload_n 2, 1) := by decide +kernel
theorem dX2_storeOfAll_15 : decode cX2_storeOfAll 15 = .ok (.iaload, 1) := by decide +kernel
theorem dX2_storeOfAll_16 : decode cX2_storeOfAll 16 = .ok (.iadd, 1) := by decide +kernel
theorem dX2_storeOfAll_17 : decode cX2_storeOfAll 17 = .ok (.istore_n 1, 1) := by decide +kernel
theorem dX2_storeOfAll_18 : decode cX2_storeOfAll 18 = .ok (.iinc 2 1, 3) := by decide +kernel
theorem dX2_storeOfAll_21 : decode cX2_storeOfAll 21 = .ok (.goto (-17), 3) := by decide +kernel
theorem dX2_storeOfAll_24 : decode cX2_storeOfAll 24 = .ok (.iload_n 1, 1) := by decide +kernel
theorem dX2_storeOfAll_25 : decode cX2_storeOfAll 25 = .ok (.ireturn, 1) := by decide +kernel
set_option maxRecDepth 20000 in
theorem ggX3_init_X1_init : GoodIn wsX3_init wsX1_init := goodIn_r _ [19, 20, 2, 3, 21, 22, 23, 24, 25, 26, 27, 28, 29, 30, 50, 51, 52, 53, 54, 55, 56, 57, 58, 59] (by decide +kernel) (by decide +kernel)
set_option maxRecDepth 20000 in
theorem gX3_init_X1_init_n20 : GoodIn wsX3_init (wsX1_init) := ggX3_init_X1_init
set_option maxRecDepth 20000 in
theorem ggX3_init_X0_init : GoodIn wsX3_init wsX0_init := goodIn_r _ [32, 33, 2, 3, 21, 34, 35, 36, 37, 38, 60, 61, 62, 63, 64, 65] (by decide +kernel) (by decide +kernel)
set_option maxRecDepth 20000 in
theorem gX3_init_X0_init_n27 : GoodIn wsX3_init (wsX0_init) := ggX3_init_X0_init
set_option maxRecDepth 20000 in
theorem ggX3_init_X2_init : GoodIn wsX3_init wsX2_init := goodIn_r _ [40, 41, 2, 3, 21, 42, 66] (by decide +kernel) (by decide +kernel)
set_option maxRecDepth 20000 in
theorem gX3_init_X2_init_n34 : GoodIn wsX3_init (wsX2_init) := ggX3_init_X2_init
theorem dX3_init_0 : decode cX3_init 0 = .ok (.aload_n 0, 1) := by decide +kernel
theorem dX3_init_1 : decode cX3_init 1 = .ok (.invokespecial 3, 3) := by decide +kernel
theorem dX3_init_4 : decode cX3_init 4 = .ok (.aload_n 0, 1) := by decide +kernel
theorem dX3_init_5 : decode cX3_init 5 = .ok (.bipush 20, 2) := by decide +kernel
theorem dX3_init_7 : decode cX3_init 7 = .ok (.putfield 9, 3) := by decide +kernel
theorem dX3_init_10 : decode cX3_init 10 = .ok (.aload_n 0, 1) := by decide +kernel
theorem dX3_init_11 : decode cX3_init 11 = .ok (.bipush 100, 2) := by decide +kernel
theorem dX3_init_13 : decode cX3_init 13 = .ok (.putfield 15, 3) := by decide +kernel
theorem dX3_init_16 : decode cX3_init 16 = .ok (.aload_n 0, 1) := by decide +kernel
theorem dX3_init_17 : decode cX3_init 17 = .ok (.new 18, 3) := by decide +kernel
theorem dX3_init_20 : decode cX3_init 20 = .ok (.dup, 1) := by decide +kernel
theorem dX3_init_21 : decode cX3_init 21 = .ok (.invokespecial 20, 3) := by decide +kernel
theorem dX3_init_24 : decode cX3_init 24 = .ok (.putfield 21, 3) := by decide +kernel
theorem dX3_init_27 : decode cX3_init 27 = .ok (.aload_n 0, 1) := by decide +kernel
theorem dX3_init_28 : decode cX3_init 28 = .ok (.new 25, 3) := by decide +kernel
theorem dX3_init_31 : decode cX3_init 31 = .ok (.dup, 1) := by decide +kernel
theorem dX3_init_32 : decode cX3_init 32 = .ok (.invokespecial 27, 3) := by decide +kernel
theorem dX3_init_35 : decode cX3_init 35 = .ok (.putfield 28, 3) := by decide +kernel
theorem dX3_init_38 : decode cX3_init 38 = .ok (.aload_n 0, 1) := by decide +kernel
theorem dX3_init_39 : decode cX3_init 39 = .ok (.new 32, 3) := by decide +kernel
theorem dX3_init_42 : decode cX3_init 42 = .ok (.dup, 1) := by decide +kernel
theorem dX3_init_43 : decode cX3_init 43 = .ok (.invokespecial 34, 3) := by decide +kernel
theorem dX3_init_46 : decode cX3_init 46 = .ok (.putfield 35, 3) := by decide +kernel
theorem dX3_init_49 : decode cX3_init 49 = .ok (.return_, 1) := by decide +kernel
set_option maxRecDepth 20000 in
theorem ggX3_copyFrom_X1_copyFrom : GoodIn wsX3_copyFrom wsX1_copyFrom := goodIn_r _ [12, 13, 14, 15, 16, 17, 18, 19, 20, 21, 46, 47, 48, 49, 50, 51, 52, 53, 54, 55] (by decide +kernel) (by decide +kernel)
set_option maxRecDepth 20000 in
theorem gX3_copyFrom_X1_copyFrom : GoodIn wsX3_copyFrom (wsV RX3 45 RX1 yX1_copyFrom wsX1_copyFrom) := goodIn_app (goodIn_of _ (by decide +kernel)) ggX3_copyFrom_X1_copyFrom
set_option maxRecDepth 20000 in
theorem ggX3_copyFrom_X0_copyFrom : GoodIn wsX3_copyFrom wsX0_copyFrom := goodIn_r _ [26, 27, 28, 29, 30, 31, 32, 56, 57, 58, 59, 60, 61] (by decide +kernel) (by decide +kernel)
set_option maxRecDepth 20000 in
theorem gX3_copyFrom_X0_copyFrom : GoodIn wsX3_copyFrom (wsV RX3 49 RX0 yX0_copyFrom wsX0_copyFrom) := goodIn_app (goodIn_of _ (by decide +kernel)) ggX3_copyFrom_X0_copyFrom
set_option maxRecDepth 20000 in
theorem ggX3_copyFrom_X2_copyFrom : GoodIn wsX3_copyFrom wsX2_copyFrom := goodIn_r _ [37, 38, 62] (by decide +kernel) (by decide +kernel)
set_option maxRecDepth 20000 in
theorem gX3_copyFrom_X2_copyFrom : GoodIn wsX3_copyFrom (wsV RX3 52 RX2 yX2_copyFrom wsX2_copyFrom) := goodIn_app (goodIn_of _ (by decide +kernel)) ggX3_copyFrom_X2_copyFrom
theorem dX3_copyFrom_0 : decode cX3_copyFrom 0 = .ok (.aload_n 0, 1) := by decide +kernel
theorem dX3_copyFrom_1 : decode cX3_copyFrom 1 = .ok (.aload_n 1, 1) := by decide +kernel
theorem dX3_copyFrom_2 : decode cX3_copyFrom 2 = .ok (.getfield 39, 3) := by decide +kernel
theorem dX3_copyFrom_5 : decode cX3_copyFrom 5 = .ok (.putfield 39, 3) := by decide +kernel
theorem dX3_copyFrom_8 : decode cX3_copyFrom 8 = .ok (.aload_n 0, 1) := by decide +kernel
theorem dX3_copyFrom_9 : decode cX3_copyFrom 9 = .ok (.aload_n 1, 1) := by decide +kernel
theorem dX3_copyFrom_10 : decode cX3_copyFrom 10 = .ok (.getfield 9, 3) := by decide +kernel
theorem dX3_copyFrom_13 : decode cX3_copyFrom 13 = .ok (.putfield 9, 3) := by decide +kernel
theorem dX3_copyFrom_16 : decode cX3_copyFrom 16 = .ok (.aload_n 0, 1) := by decide +kernel
theorem dX3_copyFrom_17 : decode cX3_copyFrom 17 = .ok (.aload_n 1, 1) := by decide +kernel
theorem dX3_copyFrom_18 : decode cX3_copyFrom 18 = .ok (.getfield 15, 3) := by decide +kernel
theorem dX3_copyFrom_21 : decode cX3_copyFrom 21 = .ok (.putfield 15, 3) := by decide +kernel
theorem dX3_copyFrom_24 : decode cX3_copyFrom 24 = .ok (.aload_n 0, 1) := by decide +kernel
theorem dX3_copyFrom_25 : decode cX3_copyFrom 25 = .ok (.aload_n 1, 1) := by decide +kernel
theorem dX3_copyFrom_26 : decode cX3_copyFrom 26 = .ok (.getfield 42, 3) := by decide +kernel
theorem dX3_copyFrom_29 : decode cX3_copyFrom 29 = .ok (.putfield 42, 3) := by decide +kernel
theorem dX3_copyFrom_32 : decode cX3_copyFrom 32 = .ok (.aload_n 0, 1) := by decide +kernel
theorem dX3_copyFrom_33 : decode cX3_copyFrom 33 = .ok (.getfield 21, 3) := by decide +kernel
theorem dX3_copyFrom_36 : decode cX3_copyFrom 36 = .ok (.aload_n 1, 1) := by decide +kernel
theorem dX3_copyFrom_37 : decode cX3_copyFrom 37 = .ok (.getfield 21, 3) := by decide +kernel
theorem dX3_copyFrom_40 : decode cX3_copyFrom 40 = .ok (.invokevirtual 45, 3) := by decide +kernel
theorem dX3_copyFrom_43 : decode cX3_copyFrom 43 = .ok (.aload_n 0, 1) := by decide +kernel
theorem dX3_copyFrom_44 : decode cX3_copyFrom 44 = .ok (.getfield 28, 3) := by decide +kernel
theorem dX3_copyFrom_47 : decode cX3_copyFrom 47 = .ok (.aload_n 1, 1) := by decide +kernel
theorem dX3_copyFrom_48 : decode cX3_copyFrom 48 = .ok (.getfield 28, 3) := by decide +kernel
theorem dX3_copyFrom_51 : decode cX3_copyFrom 51 = .ok (.invokevirtual 49, 3) := by decide +kernel
theorem dX3_copyFrom_54 : decode cX3_copyFrom 54 = .ok (.aload_n 0, 1) := by decide +kernel
theorem dX3_copyFrom_55 : decode cX3_copyFrom 55 = .ok (.getfield 35, 3) := by decide +kernel
theorem dX3_copyFrom_58 : decode cX3_copyFrom 58 = .ok (.aload_n 1, 1) := by decide +kernel
theorem dX3_copyFrom_59 : decode cX3_copyFrom 59 = .ok (.getfield 35, 3) := by decide +kernel
theorem dX3_copyFrom_62 : decode cX3_copyFrom 62 = .ok (.invokevirtual 52, 3) := by decide +kernel
theorem dX3_copyFrom_65 : decode cX3_copyFrom 65 = .ok (.return_, 1) := by decide +kernel
set_option maxRecDepth 20000 in
theorem ggX3_takeAboard_X0_aboard : GoodIn wsX3_takeAboard wsX0_aboard := goodIn_r _ [11, 12, 13, 31, 32, 33, 34, 35, 36] (by decide +kernel) (by decide +kernel)
set_option maxRecDepth 20000 in
theorem gX3_takeAboard_X0_aboard : GoodIn wsX3_takeAboard (wsV RX3 55 RX0 yX0_aboard wsX0_aboard) := goodIn_app (goodIn_of _ (by decide +kernel)) ggX3_takeAboard_X0_aboard
theorem dX3_takeAboard_0 : decode cX3_takeAboard 0 = .ok (.sipush 150, 3) := by decide +kernel
theorem dX3_takeAboard_3 : decode cX3_takeAboard 3 = .ok (.aload_n 0, 1) := by decide +kernel
theorem dX3_takeAboard_4 : decode cX3_takeAboard 4 = .ok (.getfield 28, 3) := by decide +kernel
theorem dX3_takeAboard_7 : decode cX3_takeAboard 7 = .ok (.iload_n 1, 1) := by decide +kernel
theorem dX3_takeAboard_8 : decode cX3_takeAboard 8 = .ok (.invokevirtual 55, 3) := by decide +kernel
theorem dX3_takeAboard_11 : decode cX3_takeAboard 11 = .ok (.isub, 1) := by decide +kernel
theorem dX3_takeAboard_12 : decode cX3_takeAboard 12 = .ok (.istore_n 3, 1) := by decide +kernel
theorem dX3_takeAboard_13 : decode cX3_takeAboard 13 = .ok (.aload_n 0, 1) := by decide +kernel
theorem dX3_takeAboard_14 : decode cX3_takeAboard 14 = .ok (.getfield 21, 3) := by decide +kernel
theorem dX3_takeAboard_17 : decode cX3_takeAboard 17 = .ok (.getfield 59, 3) := by decide +kernel
theorem dX3_takeAboard_20 : decode cX3_takeAboard 20 = .ok (.iload_n 2, 1) := by decide +kernel
theorem dX3_takeAboard_21 : decode cX3_takeAboard 21 = .ok (.iaload, 1) := by decide +kernel
theorem dX3_takeAboard_22 : decode cX3_takeAboard 22 = .ok (.iload_n 3, 1) := by decide +kernel
theorem dX3_takeAboard_23 : decode cX3_takeAboard 23 = .ok (.invokestatic 63, 3) := by decide +kernel
theorem dX3_takeAboard_26 : decode cX3_takeAboard 26 = .ok (.istore 4, 2) := by decide +kernel
theorem dX3_takeAboard_28 : decode cX3_takeAboard 28 = .ok (.aload_n 0, 1) := by decide +kernel
theorem dX3_takeAboard_29 : decode cX3_takeAboard 29 = .ok (.getfield 21, 3) := by decide +kernel
theorem dX3_takeAboard_32 : decode cX3_takeAboard 32 = .ok (.getfield 69, 3) := by decide +kernel
theorem dX3_takeAboard_35 : decode cX3_takeAboard 35 = .ok (.iload_n 2, 1) := by decide +kernel
theorem dX3_takeAboard_36 : decode cX3_takeAboard 36 = .ok (.iaload, 1) := by decide +kernel
theorem dX3_takeAboard_37 : decode cX3_takeAboard 37 = .ok (.iload_n 3, 1) := by decide +kernel
theorem dX3_takeAboard_38 : decode cX3_takeAboard 38 = .ok (.iload 4, 2) := by decide +kernel
theorem dX3_takeAboard_40 : decode cX3_takeAboard 40 = .ok (.isub, 1) := by decide +kernel
theorem dX3_takeAboard_41 : decode cX3_takeAboard 41 = .ok (.invokestatic 63, 3) := by decide +kernel
theorem dX3_takeAboard_44 : decode cX3_takeAboard 44 = .ok (.istore 5, 2) := by decide +kernel
theorem dX3_takeAboard_46 : decode cX3_takeAboard 46 = .ok (.aload_n 0, 1) := by decide +kernel
theorem dX3_takeAboard_47 : decode cX3_takeAboard 47 = .ok (.getfield 21, 3) := by decide +kernel
theorem dX3_takeAboard_50 : decode cX3_takeAboard 50 = .ok (.getfield 59, 3) := by decide +kernel
theorem dX3_takeAboard_53 : decode cX3_takeAboard 53 = .ok (.iload_n 2, 1) := by decide +kernel
theorem dX3_takeAboard_54 : decode cX3_takeAboard 54 = .ok (.dup2, 1) := by decide +kernel
theorem dX3_takeAboard_55 : decode cX3_takeAboard 55 = .ok (.iaload, 1) := by decide +kernel
theorem dX3_takeAboard_56 : decode cX3_takeAboard 56 = .ok (.iload 4, 2) := by decide +kernel
theorem dX3_takeAboard_58 : decode cX3_takeAboard 58 = .ok (.isub, 1) := by decide +kernel
theorem dX3_takeAboard_59 : decode cX3_takeAboard 59 = .ok (.iastore, 1) := by decide +kernel
theorem dX3_takeAboard_60 : decode cX3_takeAboard 60 = .ok (.aload_n 0, 1) := by decide +kernel
theorem dX3_takeAboard_61 : decode cX3_takeAboard 61 = .ok (.getfield 21, 3) := by decide +kernel
theorem dX3_takeAboard_64 : decode cX3_takeAboard 64 = .ok (.getfield 69, 3) := by decide +kernel
theorem dX3_takeAboard_67 : decode cX3_takeAboard 67 = .ok (.iload_n 2, 1) := by decide +kernel
theorem dX3_takeAboard_68 : decode cX3_takeAboard 68 = .ok (.dup2, 1) := by decide +kernel
theorem dX3_takeAboard_69 : decode cX3_takeAboard 69 = .ok (.iaload, 1) := by decide +kernel
theorem dX3_takeAboard_70 : decode cX3_takeAboard 70 = .ok (.iload 5, 2) := by decide +kernel
theorem dX3_takeAboard_72 : decode cX3_takeAboard 72 = .ok (.isub, 1) := by decide +kernel
theorem dX3_takeAboard_73 : decode cX3_takeAboard 73 = .ok (.iastore, 1) := by decide +kernel
theorem dX3_takeAboard_74 : decode cX3_takeAboard 74 = .ok (.aload_n 0, 1) := by decide +kernel
theorem dX3_takeAboard_75 : decode cX3_takeAboard 75 = .ok (.getfield 28, 3) := by decide +kernel
theorem dX3_takeAboard_78 : decode cX3_takeAboard 78 = .ok (.getfield 72, 3) := by decide +kernel
theorem dX3_takeAboard_81 : decode cX3_takeAboard 81 = .ok (.iload_n 1, 1) := by decide +kernel
theorem dX3_takeAboard_82 : decode cX3_takeAboard 82 = .ok (.dup2, 1) := by decide +kernel
theorem dX3_takeAboard_83 : decode cX3_takeAboard 83 = .ok (.iaload, 1) := by decide +kernel
theorem dX3_takeAboard_84 : decode cX3_takeAboard 84 = .ok (.iload 4, 2) := by decide +kernel
theorem dX3_takeAboard_86 : decode cX3_takeAboard 86 = .ok (.iadd, 1) := by decide +kernel
theorem dX3_takeAboard_87 : decode cX3_takeAboard 87 = .ok (.iastore, 1) := by decide +kernel
theorem dX3_takeAboard_88 : decode cX3_takeAboard 88 = .ok (.aload_n 0, 1) := by decide +kernel
theorem dX3_takeAboard_89 : decode cX3_takeAboard 89 = .ok (.getfield 28, 3) := by decide +kernel
theorem dX3_takeAboard_92 : decode cX3_takeAboard 92 = .ok (.getfield 75, 3) := by decide +kernel
theorem dX3_takeAboard_95 : decode cX3_takeAboard 95 = .ok (.iload_n 1, 1) := by decide +kernel
theorem dX3_takeAboard_96 : decode cX3_takeAboard 96 = .ok (.dup2, 1) := by decide +kernel
theorem dX3_takeAboard_97 : decode cX3_takeAboard 97 = .ok (.iaload, 1) := by decide +kernel
theorem dX3_takeAboard_98 : decode cX3_takeAboard 98 = .ok (.iload 5, 2) := by decide +kernel
theorem dX3_takeAboard_100 : decode cX3_takeAboard 100 = .ok (.iadd, 1) := by decide +kernel
theorem dX3_takeAboard_101 : decode cX3_takeAboard 101 = .ok (.iastore, 1) := by decide +kernel
theorem dX3_takeAboard_102 : decode cX3_takeAboard 102 = .ok (.iload 4, 2) := by decide +kernel
theorem dX3_takeAboard_104 : decode cX3_takeAboard 104 = .ok (.iload 5, 2) := by decide +kernel
theorem dX3_takeAboard_106 : decode cX3_takeAboard 106 = .ok (.iadd, 1) := by decide +kernel
theorem dX3_takeAboard_107 : decode cX3_takeAboard 107 = .ok (.ireturn, 1) := by decide +kernel
set_option maxRecDepth 20000 in
theorem ggX3_sellAll_X0_aboard : GoodIn wsX3_sellAll wsX0_aboard := goodIn_r _ [8, 9, 10, 33, 34, 35, 36, 37, 38] (by decide +kernel) (by decide +kernel)
set_option maxRecDepth 20000 in
theorem gX3_sellAll_X0_aboard : GoodIn wsX3_sellAll (wsV RX3 55 RX0 yX0_aboard wsX0_aboard) := goodIn_app (goodIn_of _ (by decide +kernel)) ggX3_sellAll_X0_aboard
set_option maxRecDepth 20000 in
theorem ggX3_sellAll_X2_sedgePrice : GoodIn wsX3_sellAll wsX2_sedgePrice := goodIn_r _ [15, 16, 17, 18, 19, 20, 39] (by decide +kernel) (by decide +kernel)
set_option maxRecDepth 20000 in
theorem gX3_sellAll_X2_sedgePrice : GoodIn wsX3_sellAll (wsV RX3 78 RX2 yX2_sedgePrice wsX2_sedgePrice) := goodIn_app (goodIn_of _ (by decide +kernel)) ggX3_sellAll_X2_sedgePrice
set_option maxRecDepth 20000 in
theorem ggX3_sellAll_X2_reedPrice : GoodIn wsX3_sellAll wsX2_reedPrice := goodIn_r _ [24, 17, 18, 19, 20, 25, 12, 13, 14, 15, 16, 39] (by decide +kernel) (by decide +kernel)
set_option maxRecDepth 20000 in
theorem gX3_sellAll_X2_reedPrice : GoodIn wsX3_sellAll (wsV RX3 81 RX2 yX2_reedPrice wsX2_reedPrice) := goodIn_app (goodIn_of _ (by decide +kernel)) ggX3_sellAll_X2_reedPrice
theorem dX3_sellAll_0 : decode cX3_sellAll 0 = .ok (.aload_n 0, 1) := by decide +kernel
theorem dX3_sellAll_1 : decode cX3_sellAll 1 = .ok (.getfield 28, 3) := by decide +kernel
theorem dX3_sellAll_4 : decode cX3_sellAll 4 = .ok (.iload_n 1, 1) := by decide +kernel
theorem dX3_sellAll_5 : decode cX3_sellAll 5 = .ok (.invokevirtual 55, 3) := by decide +kernel
theorem dX3_sellAll_8 : decode cX3_sellAll 8 = .ok (.istore_n 3, 1) := by decide +kernel
theorem dX3_sellAll_9 : decode cX3_sellAll 9 = .ok (.aload_n 0, 1) := by decide +kernel
theorem dX3_sellAll_10 : decode cX3_sellAll 10 = .ok (.getfield 28, 3) := by decide +kernel
theorem dX3_sellAll_13 : decode cX3_sellAll 13 = .ok (.getfield 72, 3) := by decide +kernel
theorem dX3_sellAll_16 : decode cX3_sellAll 16 = .ok (.iload_n 1, 1) := by decide +kernel
theorem dX3_sellAll_17 : decode cX3_sellAll 17 = .ok (.iaload, 1) := by decide +kernel
theorem dX3_sellAll_18 : decode cX3_sellAll 18 = .ok (.aload_n 0, 1) := by decide +kernel
theorem dX3_sellAll_19 : decode cX3_sellAll 19 = .ok (.getfield 35, 3) := by decide +kernel
theorem dX3_sellAll_22 : decode cX3_sellAll 22 = .ok (.iload_n 2, 1) := by decide +kernel
theorem dX3_sellAll_23 : decode cX3_sellAll 23 = .ok (.invokevirtual 78, 3) := by decide +kernel
theorem dX3_sellAll_26 : decode cX3_sellAll 26 = .ok (.imul, 1) := by decide +kernel
theorem dX3_sellAll_27 : decode cX3_sellAll 27 = .ok (.aload_n 0, 1) := by decide +kernel
theorem dX3_sellAll_28 : decode cX3_sellAll 28 = .ok (.getfield 28, 3) := by decide +kernel
theorem dX3_sellAll_31 : decode cX3_sellAll 31 = .ok (.getfield 75, 3) := by decide +kernel
theorem dX3_sellAll_34 : decode cX3_sellAll 34 = .ok (.iload_n 1, 1) := by decide +kernel
theorem dX3_sellAll_35 : decode cX3_sellAll 35 = .ok (.iaload, 1) := by decide +kernel
theorem dX3_sellAll_36 : decode cX3_sellAll 36 = .ok (.aload_n 0, 1) := by decide +kernel
theorem dX3_sellAll_37 : decode cX3_sellAll 37 = .ok (.getfield 35, 3) := by decide +kernel
theorem dX3_sellAll_40 : decode cX3_sellAll 40 = .ok (.iload_n 2, 1) := by decide +kernel
theorem dX3_sellAll_41 : decode cX3_sellAll 41 = .ok (.invokevirtual 81, 3) := by decide +kernel
theorem dX3_sellAll_44 : decode cX3_sellAll 44 = .ok (.imul, 1) := by decide +kernel
theorem dX3_sellAll_45 : decode cX3_sellAll 45 = .ok (.iadd, 1) := by decide +kernel
theorem dX3_sellAll_46 : decode cX3_sellAll 46 = .ok (.istore 4, 2) := by decide +kernel
theorem dX3_sellAll_48 : decode cX3_sellAll 48 = .ok (.aload_n 0, 1) := by decide +kernel
theorem dX3_sellAll_49 : decode cX3_sellAll 49 = .ok (.getfield 28, 3) := by decide +kernel
theorem dX3_sellAll_52 : decode cX3_sellAll 52 = .ok (.getfield 72, 3) := by decide +kernel
theorem dX3_sellAll_55 : decode cX3_sellAll 55 = .ok (.iload_n 1, 1) := by decide +kernel
theorem dX3_sellAll_56 : decode cX3_sellAll 56 = .ok (.iconst 0, 1) := by decide +kernel
theorem dX3_sellAll_57 : decode cX3_sellAll 57 = .ok (.iastore, 1) := by decide +kernel
theorem dX3_sellAll_58 : decode cX3_sellAll 58 = .ok (.aload_n 0, 1) := by decide +kernel
theorem dX3_sellAll_59 : decode cX3_sellAll 59 = .ok (.getfield 28, 3) := by decide +kernel
theorem dX3_sellAll_62 : decode cX3_sellAll 62 = .ok (.getfield 75, 3) := by decide +kernel
theorem dX3_sellAll_65 : decode cX3_sellAll 65 = .ok (.iload_n 1, 1) := by decide +kernel
theorem dX3_sellAll_66 : decode cX3_sellAll 66 = .ok (.iconst 0, 1) := by decide +kernel
theorem dX3_sellAll_67 : decode cX3_sellAll 67 = .ok (.iastore, 1) := by decide +kernel
theorem dX3_sellAll_68 : decode cX3_sellAll 68 = .ok (.aload_n 0, 1) := by decide +kernel
theorem dX3_sellAll_69 : decode cX3_sellAll 69 = .ok (.getfield 28, 3) := by decide +kernel
theorem dX3_sellAll_72 : decode cX3_sellAll 72 = .ok (.getfield 84, 3) := by decide +kernel
theorem dX3_sellAll_75 : decode cX3_sellAll 75 = .ok (.iload_n 1, 1) := by decide +kernel
theorem dX3_sellAll_76 : decode cX3_sellAll 76 = .ok (.dup2, 1) := by decide +kernel
theorem dX3_sellAll_77 : decode cX3_sellAll 77 = .ok (.iaload, 1) := by decide +kernel
theorem dX3_sellAll_78 : decode cX3_sellAll 78 = .ok (.iload 4, 2) := by decide +kernel
theorem dX3_sellAll_80 : decode cX3_sellAll 80 = .ok (.iadd, 1) := by decide +kernel
theorem dX3_sellAll_81 : decode cX3_sellAll 81 = .ok (.iastore, 1) := by decide +kernel
theorem dX3_sellAll_82 : decode cX3_sellAll 82 = .ok (.aload_n 0, 1) := by decide +kernel
theorem dX3_sellAll_83 : decode cX3_sellAll 83 = .ok (.getfield 35, 3) := by decide +kernel
theorem dX3_sellAll_86 : decode cX3_sellAll 86 = .ok (.getfield 87, 3) := by decide +kernel
theorem dX3_sellAll_89 : decode cX3_sellAll 89 = .ok (.iload_n 2, 1) := by decide +kernel
theorem dX3_sellAll_90 : decode cX3_sellAll 90 = .ok (.dup2, 1) := by decide +kernel
theorem dX3_sellAll_91 : decode cX3_sellAll 91 = .ok (.iaload, 1) := by decide +kernel
theorem dX3_sellAll_92 : decode cX3_sellAll 92 = .ok (.iload_n 3, 1) := by decide +kernel
theorem dX3_sellAll_93 : decode cX3_sellAll 93 = .ok (.iadd, 1) := by decide +kernel
theorem dX3_sellAll_94 : decode cX3_sellAll 94 = .ok (.iastore, 1) := by decide +kernel
theorem dX3_sellAll_95 : decode cX3_sellAll 95 = .ok (.aload_n 0, 1) := by decide +kernel
theorem dX3_sellAll_96 : decode cX3_sellAll 96 = .ok (.dup, 1) := by decide +kernel
theorem dX3_sellAll_97 : decode cX3_sellAll 97 = .ok (.getfield 9, 3) := by decide +kernel
theorem dX3_sellAll_100 : decode cX3_sellAll 100 = .ok (.iload 4, 2) := by decide +kernel
theorem dX3_sellAll_102 : decode cX3_sellAll 102 = .ok (.iadd, 1) := by decide +kernel
theorem dX3_sellAll_103 : decode cX3_sellAll 103 = .ok (.putfield 9, 3) := by decide +kernel
theorem dX3_sellAll_106 : decode cX3_sellAll 106 = .ok (.iload 4, 2) := by decide +kernel
theorem dX3_sellAll_108 : decode cX3_sellAll 108 = .ok (.ireturn, 1) := by decide +kernel
set_option maxRecDepth 20000 in
theorem ggX3_passDays_X3_passDay : GoodIn wsX3_passDays wsX3_passDay := goodIn_r _ [6, 7, 1, 8, 9, 10, 11, 12, 13, 14, 15, 16, 17, 18, 19, 20, 21, 22, 23, 24, 25, 26, 27, 28, 29, 30, 31, 32, 33, 34, 35, 36, 37, 38, 39, 40, 41, 42, 43, 44, 45, 46, 47, 48, 49, 50, 51, 52, 53, 54, 55, 56, 57, 58, 59, 60, 61, 62, 63, 64, 65, 66, 67, 68, 69, 70, 71, 72, 73, 74, 75, 76, 77, 78, 79, 80, 81, 82, 83, 84, 85, 86, 87, 88] (by decide +kernel) (by decide +kernel)
set_option maxRecDepth 20000 in
theorem gX3_passDays_X3_passDay : GoodIn wsX3_passDays (wsV RX3 90 RX3 yX3_passDay wsX3_passDay) := goodIn_app (goodIn_of _ (by decide +kernel)) ggX3_passDays_X3_passDay
theorem dX3_passDays_0 : decode cX3_passDays 0 = .ok (.aload_n 0, 1) := by decide +kernel
theorem dX3_passDays_1 : decode cX3_passDays 1 = .ok (.getfield 42, 3) := by decide +kernel
theorem dX3_passDays_4 : decode cX3_passDays 4 = .ok (.istore_n 2, 1) := by decide +kernel
theorem dX3_passDays_5 : decode cX3_passDays 5 = .ok (.iconst 0, 1) := by decide +kernel
theorem dX3_passDays_6 : decode cX3_passDays 6 = .ok (.istore_n 3, 1) := by decide +kernel
theorem dX3_passDays_7 : decode cX3_passDays 7 = .ok (.iload_n 3, 1) := by decide +kernel
theorem dX3_passDays_8 : decode cX3_passDays 8 = .ok (.iload_n 1, 1) := by decide +kernel
theorem dX3_passDays_9 : decode cX3_passDays 9 = .ok (.if_icmp .ge 13, 3) := by decide +kernel
theorem dX3_passDays_12 : decode cX3_passDays 12 = .ok (.aload_n 0, 1) := by decide +kernel
theorem dX3_passDays_13 : decode cX3_passDays 13 = .ok (.invokevirtual 90, 3) := by decide +kernel
theorem dX3_passDays_16 : decode cX3_passDays 16 = .ok (.iinc 3 1, 3) := by decide +kernel
theorem dX3_passDays_19 : decode cX3_passDays 19 = .ok (.goto (-12), 3) := by decide +kernel
theorem dX3_passDays_22 : decode cX3_passDays 22 = .ok (.aload_n 0, 1) := by decide +kernel
theorem dX3_passDays_23 : decode cX3_passDays 23 = .ok (.getfield 42, 3) := by decide +kernel
theorem dX3_passDays_26 : decode cX3_passDays 26 = .ok (.iload_n 2, 1) := by decide +kernel
theorem dX3_passDays_27 : decode cX3_passDays 27 = .ok (.isub, 1) := by decide +kernel
theorem dX3_passDays_28 : decode cX3_passDays 28 = .ok (.ireturn, 1) := by decide +kernel
set_option maxRecDepth 20000 in
theorem ggX3_passDay_X0_sailOn : GoodIn wsX3_passDay wsX0_sailOn := goodIn_r _ [10, 11, 12, 13, 14, 15, 16, 17, 18, 19, 20, 67, 68, 69, 70, 71, 72] (by decide +kernel) (by decide +kernel)
set_option maxRecDepth 20000 in
theorem gX3_passDay_X0_sailOn : GoodIn wsX3_passDay (wsV RX3 93 RX0 yX0_sailOn wsX0_sailOn) := goodIn_app (goodIn_of _ (by decide +kernel)) ggX3_passDay_X0_sailOn
set_option maxRecDepth 20000 in
theorem ggX3_passDay_X1_rot : GoodIn wsX3_passDay wsX1_rot := goodIn_r _ [25, 26, 27, 28, 29, 30, 31, 73, 74, 75, 76, 77, 78, 79, 80, 81, 82] (by decide +kernel) (by decide +kernel)
set_option maxRecDepth 20000 in
theorem gX3_passDay_X1_rot : GoodIn wsX3_passDay (wsV RX3 96 RX1 yX1_rot wsX1_rot) := goodIn_app (goodIn_of _ (by decide +kernel)) ggX3_passDay_X1_rot
set_option maxRecDepth 20000 in
theorem ggX3_passDay_X2_thatch : GoodIn wsX3_passDay wsX2_thatch := goodIn_r _ [36, 37, 38, 30, 39, 83] (by decide +kernel) (by decide +kernel)
set_option maxRecDepth 20000 in
theorem gX3_passDay_X2_thatch : GoodIn wsX3_passDay (wsV RX3 100 RX2 yX2_thatch wsX2_thatch) := goodIn_app (goodIn_of _ (by decide +kernel)) ggX3_passDay_X2_thatch
set_option maxRecDepth 20000 in
theorem ggX3_passDay_X1_endYear : GoodIn wsX3_passDay wsX1_endYear := goodIn_r _ [43, 26, 44, 45, 46, 47, 15, 16, 17, 48, 19, 20, 49, 50, 24, 51, 52, 53, 54, 55, 56, 57, 58, 59, 73, 74, 75, 76, 77, 78, 79, 80, 81, 82] (by decide +kernel) (by decide +kernel)
set_option maxRecDepth 20000 in
theorem gX3_passDay_X1_endYear : GoodIn wsX3_passDay (wsV RX3 103 RX1 yX1_endYear wsX1_endYear) := goodIn_app (goodIn_of _ (by decide +kernel)) ggX3_passDay_X1_endYear
theorem dX3_passDay_0 : decode cX3_passDay 0 = .ok (.aload_n 0, 1) := by decide +kernel
theorem dX3_passDay_1 : decode cX3_passDay 1 = .ok (.getfield 28, 3) := by decide +kernel
theorem dX3_passDay_4 : decode cX3_passDay 4 = .ok (.invokevirtual 93, 3) := by decide +kernel
theorem dX3_passDay_7 : decode cX3_passDay 7 = .ok (.aload_n 0, 1) := by decide +kernel
theorem dX3_passDay_8 : decode cX3_passDay 8 = .ok (.dup, 1) := by decide +kernel
theorem dX3_passDay_9 : decode cX3_passDay 9 = .ok (.getfield 42, 3) := by decide +kernel
theorem dX3_passDay_12 : decode cX3_passDay 12 = .ok (.aload_n 0, 1) := by decide +kernel
theorem dX3_passDay_13 : decode cX3_passDay 13 = .ok (.getfield 21, 3) := by decide +kernel
theorem dX3_passDay_16 : decode cX3_passDay 16 = .ok (.invokevirtual 96, 3) := by decide +kernel
theorem dX3_passDay_19 : decode cX3_passDay 19 = .ok (.iadd, 1) := by decide +kernel
theorem dX3_passDay_20 : decode cX3_passDay 20 = .ok (.putfield 42, 3) := by decide +kernel
theorem dX3_passDay_23 : decode cX3_passDay 23 = .ok (.aload_n 0, 1) := by decide +kernel
theorem dX3_passDay_24 : decode cX3_passDay 24 = .ok (.getfield 35, 3) := by decide +kernel
theorem dX3_passDay_27 : decode cX3_passDay 27 = .ok (.invokevirtual 100, 3) := by decide +kernel
theorem dX3_passDay_30 : decode cX3_passDay 30 = .ok (.aload_n 0, 1) := by decide +kernel
theorem dX3_passDay_31 : decode cX3_passDay 31 = .ok (.getfield 39, 3) := by decide +kernel
theorem dX3_passDay_34 : decode cX3_passDay 34 = .ok (.bipush 100, 2) := by decide +kernel
theorem dX3_passDay_36 : decode cX3_passDay 36 = .ok (.irem, 1) := by decide +kernel
theorem dX3_passDay_37 : decode cX3_passDay 37 = .ok (.bipush 99, 2) := by decide +kernel
theorem dX3_passDay_39 : decode cX3_passDay 39 = .ok (.if_icmp .ne 10, 3) := by decide +kernel
theorem dX3_passDay_42 : decode cX3_passDay 42 = .ok (.aload_n 0, 1) := by decide +kernel
theorem dX3_passDay_43 : decode cX3_passDay 43 = .ok (.getfield 21, 3) := by decide +kernel
theorem dX3_passDay_46 : decode cX3_passDay 46 = .ok (.invokevirtual 103, 3) := by decide +kernel
theorem dX3_passDay_49 : decode cX3_passDay 49 = .ok (.aload_n 0, 1) := by decide +kernel
theorem dX3_passDay_50 : decode cX3_passDay 50 = .ok (.dup, 1) := by decide +kernel
theorem dX3_passDay_51 : decode cX3_passDay 51 = .ok (.getfield 39, 3) := by decide +kernel
theorem dX3_passDay_54 : decode cX3_passDay 54 = .ok (.iconst 1, 1) := by decide +kernel
theorem dX3_passDay_55 : decode cX3_passDay 55 = .ok (.iadd, 1) := by decide +kernel
theorem dX3_passDay_56 : decode cX3_passDay 56 = .ok (.putfield 39, 3) := by decide +kernel
theorem dX3_passDay_59 : decode cX3_passDay 59 = .ok (.return_, 1) := by decide +kernel
set_option maxRecDepth 20000 in
theorem ggX3_tell_X1_givenByAll : GoodIn wsX3_tell wsX1_givenByAll := goodIn_r _ [12, 13, 14, 15, 16, 11, 17, 18, 19, 57, 58, 59, 60, 61, 62, 63, 64, 65, 66] (by decide +kernel) (by decide +kernel)
set_option maxRecDepth 20000 in
theorem gX3_tell_X1_givenByAll : GoodIn wsX3_tell (wsV RX3 109 RX1 yX1_givenByAll wsX1_givenByAll) := goodIn_app (goodIn_of _ (by decide +kernel)) ggX3_tell_X1_givenByAll
set_option maxRecDepth 20000 in
theorem ggX3_tell_X1_untiedOfAll : GoodIn wsX3_tell wsX1_untiedOfAll := goodIn_r _ [23, 13, 24, 25, 57, 58, 59, 60, 61, 62, 63, 64, 65, 66] (by decide +kernel) (by decide +kernel)
set_option maxRecDepth 20000 in
theorem gX3_tell_X1_untiedOfAll : GoodIn wsX3_tell (wsV RX3 112 RX1 yX1_untiedOfAll wsX1_untiedOfAll) := goodIn_app (goodIn_of _ (by decide +kernel)) ggX3_tell_X1_untiedOfAll
set_option maxRecDepth 20000 in
theorem ggX3_tell_X1_tiedOfAll : GoodIn wsX3_tell wsX1_tiedOfAll := goodIn_r _ [29, 13, 30, 31, 57, 58, 59, 60, 61, 62, 63, 64, 65, 66] (by decide +kernel) (by decide +kernel)
set_option maxRecDepth 20000 in
theorem gX3_tell_X1_tiedOfAll : GoodIn wsX3_tell (wsV RX3 115 RX1 yX1_tiedOfAll wsX1_tiedOfAll) := goodIn_app (goodIn_of _ (by decide +kernel)) ggX3_tell_X1_tiedOfAll
set_option maxRecDepth 20000 in
theorem ggX3_tell_X0_aboardAll : GoodIn wsX3_tell wsX0_aboardAll := goodIn_r _ [36, 37, 38, 39, 40, 35, 41, 42, 43, 67, 68, 69, 70, 71, 72] (by decide +kernel) (by decide +kernel)
set_option maxRecDepth 20000 in
theorem gX3_tell_X0_aboardAll : GoodIn wsX3_tell (wsV RX3 119 RX0 yX0_aboardAll wsX0_aboardAll) := goodIn_app (goodIn_of _ (by decide +kernel)) ggX3_tell_X0_aboardAll
set_option maxRecDepth 20000 in
theorem ggX3_tell_X2_storeOfAll : GoodIn wsX3_tell wsX2_storeOfAll := goodIn_r _ [48, 49, 73] (by decide +kernel) (by decide +kernel)
set_option maxRecDepth 20000 in
theorem gX3_tell_X2_storeOfAll : GoodIn wsX3_tell (wsV RX3 122 RX2 yX2_storeOfAll wsX2_storeOfAll) := goodIn_app (goodIn_of _ (by decide +kernel)) ggX3_tell_X2_storeOfAll
theorem dX3_tell_0 : decode cX3_tell 0 = .ok (.iload_n 1, 1) := by decide +kernel
theorem dX3_tell_1 : decode cX3_tell 1 = .ok (.tableswitch 126 0 9 #[55, 60, 65, 70, 78, 86, 94, 102, 110, 118], 55) := by decide +kernel
theorem dX3_tell_56 : decode cX3_tell 56 = .ok (.aload_n 0, 1) := by decide +kernel
theorem dX3_tell_57 : decode cX3_tell 57 = .ok (.getfield 39, 3) := by decide +kernel
theorem dX3_tell_60 : decode cX3_tell 60 = .ok (.ireturn, 1) := by decide +kernel
theorem dX3_tell_61 : decode cX3_tell 61 = .ok (.aload_n 0, 1) := by decide +kernel
theorem dX3_tell_62 : decode cX3_tell 62 = .ok (.getfield 9, 3) := by decide +kernel
theorem dX3_tell_65 : decode cX3_tell 65 = .ok (.ireturn, 1) := by decide +kernel
theorem dX3_tell_66 : decode cX3_tell 66 = .ok (.aload_n 0, 1) := by decide +kernel
theorem dX3_tell_67 : decode cX3_tell 67 = .ok (.getfield 15, 3) := by decide +kernel
theorem dX3_tell_70 : decode cX3_tell 70 = .ok (.ireturn, 1) := by decide +kernel
theorem dX3_tell_71 : decode cX3_tell 71 = .ok (.aload_n 0, 1) := by decide +kernel
theorem dX3_tell_72 : decode cX3_tell 72 = .ok (.getfield 21, 3) := by decide +kernel
theorem dX3_tell_75 : decode cX3_tell 75 = .ok (.getfield 106, 3) := by decide +kernel
theorem dX3_tell_78 : decode cX3_tell 78 = .ok (.ireturn, 1) := by decide +kernel
theorem dX3_tell_79 : decode cX3_tell 79 = .ok (.aload_n 0, 1) := by decide +kernel
theorem dX3_tell_80 : decode cX3_tell 80 = .ok (.getfield 21, 3) := by decide +kernel
theorem dX3_tell_83 : decode cX3_tell 83 = .ok (.invokevirtual 109, 3) := by decide +kernel
theorem dX3_tell_86 : decode cX3_tell 86 = .ok (.ireturn, 1) := by decide +kernel
theorem dX3_tell_87 : decode cX3_tell 87 = .ok (.aload_n 0, 1) := by decide +kernel
theorem dX3_tell_88 : decode cX3_tell 88 = .ok (.getfield 21, 3) := by decide +kernel
theorem dX3_tell_91 : decode cX3_tell 91 = .ok (.invokevirtual 112, 3) := by decide +kernel
theorem dX3_tell_94 : decode cX3_tell 94 = .ok (.ireturn, 1) := by decide +kernel
theorem dX3_tell_95 : decode cX3_tell 95 = .ok (.aload_n 0, 1) := by decide +kernel
theorem dX3_tell_96 : decode cX3_tell 96 = .ok (.getfield 21, 3) := by decide +kernel
theorem dX3_tell_99 : decode cX3_tell 99 = .ok (.invokevirtual 115, 3) := by decide +kernel
theorem dX3_tell_102 : decode cX3_tell 102 = .ok (.ireturn, 1) := by decide +kernel
theorem dX3_tell_103 : decode cX3_tell 103 = .ok (.aload_n 0, 1) := by decide +kernel
theorem dX3_tell_104 : decode cX3_tell 104 = .ok (.getfield 28, 3) := by decide +kernel
theorem dX3_tell_107 : decode cX3_tell 107 = .ok (.getfield 118, 3) := by decide +kernel
theorem dX3_tell_110 : decode cX3_tell 110 = .ok (.ireturn, 1) := by decide +kernel
theorem dX3_tell_111 : decode cX3_tell 111 = .ok (.aload_n 0, 1) := by decide +kernel
theorem dX3_tell_112 : decode cX3_tell 112 = .ok (.getfield 28, 3) := by decide +kernel
theorem dX3_tell_115 : decode cX3_tell 115 = .ok (.invokevirtual 119, 3) := by decide +kernel
theorem dX3_tell_118 : decode cX3_tell 118 = .ok (.ireturn, 1) := by decide +kernel
theorem dX3_tell_119 : decode cX3_tell 119 = .ok (.aload_n 0, 1) := by decide +kernel
theorem dX3_tell_120 : decode cX3_tell 120 = .ok (.getfield 35, 3) := by decide +kernel
theorem dX3_tell_123 : decode cX3_tell 123 = .ok (.invokevirtual 122, 3) := by decide +kernel
theorem dX3_tell_126 : decode cX3_tell 126 = .ok (.ireturn, 1) := by decide +kernel
theorem dX3_tell_127 : decode cX3_tell 127 = .ok (.aload_n 0, 1) := by decide +kernel
theorem dX3_tell_128 : decode cX3_tell 128 = .ok (.getfield 42, 3) := by decide +kernel
theorem dX3_tell_131 : decode cX3_tell 131 = .ok (.ireturn, 1) := by decide +kernel
set_option maxRecDepth 20000 in
theorem ggX4_init_X3_init : GoodIn wsX4_init wsX3_init := goodIn_r _ [10, 11, 2, 3, 12, 13, 14, 15, 16, 17, 18, 19, 20, 21, 22, 23, 24, 25, 26, 27, 28, 29, 30, 31, 32, 33, 34, 35, 36, 37, 38, 39, 40, 41, 42, 43, 44, 45, 46, 47, 48, 49, 50, 51, 52, 53, 54, 55, 56, 57, 60, 61, 62, 63, 64, 65, 66, 67, 68, 69, 70, 71, 72, 73, 74, 75, 76] (by decide +kernel) (by decide +kernel)
set_option maxRecDepth 20000 in
theorem gX4_init_X3_init_n9 : GoodIn wsX4_init (wsX3_init) := ggX4_init_X3_init
theorem dX4_init_0 : decode cX4_init 0 = .ok (.aload_n 0, 1) := by decide +kernel
theorem dX4_init_1 : decode cX4_init 1 = .ok (.invokespecial 1, 3) := by decide +kernel
theorem dX4_init_4 : decode cX4_init 4 = .ok (.aload_n 0, 1) := by decide +kernel
theorem dX4_init_5 : decode cX4_init 5 = .ok (.new 7, 3) := by decide +kernel
theorem dX4_init_8 : decode cX4_init 8 = .ok (.dup, 1) := by decide +kernel
theorem dX4_init_9 : decode cX4_init 9 = .ok (.invokespecial 9, 3) := by decide +kernel
theorem dX4_init_12 : decode cX4_init 12 = .ok (.putfield 10, 3) := by decide +kernel
theorem dX4_init_15 : decode cX4_init 15 = .ok (.aload_n 0, 1) := by decide +kernel
theorem dX4_init_16 : decode cX4_init 16 = .ok (.new 7, 3) := by decide +kernel
theorem dX4_init_19 : decode cX4_init 19 = .ok (.dup, 1) := by decide +kernel
theorem dX4_init_20 : decode cX4_init 20 = .ok (.invokespecial 9, 3) := by decide +kernel
theorem dX4_init_23 : decode cX4_init 23 = .ok (.putfield 16, 3) := by decide +kernel
theorem dX4_init_26 : decode cX4_init 26 = .ok (.return_, 1) := by decide +kernel
set_option maxRecDepth 20000 in
theorem ggX4_bed_X4_needPlace : GoodIn wsX4_bed wsX4_needPlace := goodIn_ca (goodIn_r _ [9, 10, 11] (by decide +kernel) (by decide +kernel)) (goodIn_sub (fun _ h => List.mem_cons_of_mem _ (List.mem_append_right _ h)) (by decide +kernel))
set_option maxRecDepth 20000 in
theorem gX4_bed_X4_needPlace : GoodIn wsX4_bed (va_wsS RX4 19 yX4_needPlace wsX4_needPlace) := goodIn_app (goodIn_of _ (by decide +kernel)) ggX4_bed_X4_needPlace
set_option maxRecDepth 20000 in
theorem ggX4_bed_X1_areFull : GoodIn wsX4_bed wsX1_areFull := goodIn_r _ [16, 17, 35, 36, 37, 38, 39, 40, 41, 42, 43, 44] (by decide +kernel) (by decide +kernel)
set_option maxRecDepth 20000 in
theorem gX4_bed_X1_areFull : GoodIn wsX4_bed (wsV RX4 36 RX1 yX1_areFull wsX1_areFull) := goodIn_app (goodIn_of _ (by decide +kernel)) ggX4_bed_X1_areFull
set_option maxRecDepth 20000 in
theorem ggX4_bed_X1_add : GoodIn wsX4_bed wsX1_add := goodIn_r _ [21, 17, 22, 23, 24, 25, 35, 36, 37, 38, 39, 40, 41, 42, 43, 44] (by decide +kernel) (by decide +kernel)
set_option maxRecDepth 20000 in
theorem gX4_bed_X1_add : GoodIn wsX4_bed (wsV RX4 47 RX1 yX1_add wsX1_add) := goodIn_app (goodIn_of _ (by decide +kernel)) ggX4_bed_X1_add
theorem dX4_bed_0 : decode cX4_bed 0 = .ok (.iload_n 1, 1) := by decide +kernel
theorem dX4_bed_1 : decode cX4_bed 1 = .ok (.invokestatic 19, 3) := by decide +kernel
theorem dX4_bed_4 : decode cX4_bed 4 = .ok (.iload_n 2, 1) := by decide +kernel
theorem dX4_bed_5 : decode cX4_bed 5 = .ok (.iconst 1, 1) := by decide +kernel
theorem dX4_bed_6 : decode cX4_bed 6 = .ok (.if_icmp .lt 9, 3) := by decide +kernel
theorem dX4_bed_9 : decode cX4_bed 9 = .ok (.iload_n 2, 1) := by decide +kernel
theorem dX4_bed_10 : decode cX4_bed 10 = .ok (.bipush 9, 2) := by decide +kernel
theorem dX4_bed_12 : decode cX4_bed 12 = .ok (.if_icmp .le 13, 3) := by decide +kernel
theorem dX4_bed_15 : decode cX4_bed 15 = .ok (.new 23, 3) := by decide +kernel
theorem dX4_bed_18 : decode cX4_bed 18 = .ok (.dup, 1) := by decide +kernel
theorem dX4_bed_19 : decode cX4_bed 19 = .ok (.ldc 25, 2) := by decide +kernel
theorem dX4_bed_21 : decode cX4_bed 21 = .ok (.invokespecial 27, 3) := by decide +kernel
theorem dX4_bed_24 : decode cX4_bed 24 = .ok (.athrow, 1) := by decide +kernel
theorem dX4_bed_25 : decode cX4_bed 25 = .ok (.iload_n 3, 1) := by decide +kernel
theorem dX4_bed_26 : decode cX4_bed 26 = .ok (.ifCond .lt 9, 3) := by decide +kernel
theorem dX4_bed_29 : decode cX4_bed 29 = .ok (.iload_n 3, 1) := by decide +kernel
theorem dX4_bed_30 : decode cX4_bed 30 = .ok (.bipush 100, 2) := by decide +kernel
theorem dX4_bed_32 : decode cX4_bed 32 = .ok (.if_icmp .le 13, 3) := by decide +kernel
theorem dX4_bed_35 : decode cX4_bed 35 = .ok (.new 23, 3) := by decide +kernel
theorem dX4_bed_38 : decode cX4_bed 38 = .ok (.dup, 1) := by decide +kernel
theorem dX4_bed_39 : decode cX4_bed 39 = .ok (.ldc 30, 2) := by decide +kernel
theorem dX4_bed_41 : decode cX4_bed 41 = .ok (.invokespecial 27, 3) := by decide +kernel
theorem dX4_bed_44 : decode cX4_bed 44 = .ok (.athrow, 1) := by decide +kernel
theorem dX4_bed_45 : decode cX4_bed 45 = .ok (.aload_n 0, 1) := by decide +kernel
theorem dX4_bed_46 : decode cX4_bed 46 = .ok (.getfield 10, 3) := by decide +kernel
theorem dX4_bed_49 : decode cX4_bed 49 = .ok (.getfield 32, 3) := by decide +kernel
theorem dX4_bed_52 : decode cX4_bed 52 = .ok (.invokevirtual 36, 3) := by decide +kernel
theorem dX4_bed_55 : decode cX4_bed 55 = .ok (.ifCond .eq 13, 3) := by decide +kernel
theorem dX4_bed_58 : decode cX4_bed 58 = .ok (.new 42, 3) := by decide +kernel
theorem dX4_bed_61 : decode cX4_bed 61 = .ok (.dup, 1) := by decide +kernel
theorem dX4_bed_62 : decode cX4_bed 62 = .ok (.ldc 44, 2) := by decide +kernel
theorem dX4_bed_64 : decode cX4_bed 64 = .ok (.invokespecial 46, 3) := by decide +kernel
theorem dX4_bed_67 : decode cX4_bed 67 = .ok (.athrow, 1) := by decide +kernel
theorem dX4_bed_68 : decode cX4_bed 68 = .ok (.aload_n 0, 1) := by decide +kernel
theorem dX4_bed_69 : decode cX4_bed 69 = .ok (.getfield 10, 3) := by decide +kernel
theorem dX4_bed_72 : decode cX4_bed 72 = .ok (.getfield 32, 3) := by decide +kernel
theorem dX4_bed_75 : decode cX4_bed 75 = .ok (.iload_n 1, 1) := by decide +kernel
theorem dX4_bed_76 : decode cX4_bed 76 = .ok (.iload_n 2, 1) := by decide +kernel
theorem dX4_bed_77 : decode cX4_bed 77 = .ok (.iload_n 3, 1) := by decide +kernel
theorem dX4_bed_78 : decode cX4_bed 78 = .ok (.invokevirtual 47, 3) := by decide +kernel
theorem dX4_bed_81 : decode cX4_bed 81 = .ok (.ireturn, 1) := by decide +kernel
set_option maxRecDepth 20000 in
theorem ggX4_cut_X4_needBed : GoodIn wsX4_cut wsX4_needBed := goodIn_ca (goodIn_r _ [8, 9, 10, 3, 29, 30, 31, 32, 33, 34, 35, 36, 37, 38, 39, 40, 41, 42, 43, 44, 45, 46, 47] (by decide +kernel) (by decide +kernel)) (goodIn_sub (fun _ h => List.mem_cons_of_mem _ (List.mem_append_right _ h)) (by decide +kernel))
set_option maxRecDepth 20000 in
theorem gX4_cut_X4_needBed : GoodIn wsX4_cut (wsV RX4 51 RX4 yX4_needBed wsX4_needBed) := goodIn_app (goodIn_of _ (by decide +kernel)) ggX4_cut_X4_needBed
set_option maxRecDepth 20000 in
theorem ggX4_cut_X1_cutDown : GoodIn wsX4_cut wsX1_cutDown := goodIn_r _ [15, 16, 17, 18, 19, 20, 21, 14, 22, 23, 24, 25, 26, 27, 28, 38, 39, 40, 41, 42, 43, 44, 45, 46, 47] (by decide +kernel) (by decide +kernel)
set_option maxRecDepth 20000 in
theorem gX4_cut_X1_cutDown : GoodIn wsX4_cut (wsV RX4 60 RX1 yX1_cutDown wsX1_cutDown) := goodIn_app (goodIn_of _ (by decide +kernel)) ggX4_cut_X1_cutDown
theorem dX4_cut_0 : decode cX4_cut 0 = .ok (.aload_n 0, 1) := by decide +kernel
theorem dX4_cut_1 : decode cX4_cut 1 = .ok (.iload_n 1, 1) := by decide +kernel
theorem dX4_cut_2 : decode cX4_cut 2 = .ok (.invokevirtual 51, 3) := by decide +kernel
theorem dX4_cut_5 : decode cX4_cut 5 = .ok (.aload_n 0, 1) := by decide +kernel
theorem dX4_cut_6 : decode cX4_cut 6 = .ok (.getfield 10, 3) := by decide +kernel
theorem dX4_cut_9 : decode cX4_cut 9 = .ok (.getfield 32, 3) := by decide +kernel
theorem dX4_cut_12 : decode cX4_cut 12 = .ok (.getfield 54, 3) := by decide +kernel
theorem dX4_cut_15 : decode cX4_cut 15 = .ok (.iload_n 1, 1) := by decide +kernel
theorem dX4_cut_16 : decode cX4_cut 16 = .ok (.iaload, 1) := by decide +kernel
theorem dX4_cut_17 : decode cX4_cut 17 = .ok (.ifCond .ne 13, 3) := by decide +kernel
theorem dX4_cut_20 : decode cX4_cut 20 = .ok (.new 42, 3) := by decide +kernel
theorem dX4_cut_23 : decode cX4_cut 23 = .ok (.dup, 1) := by decide +kernel
theorem dX4_cut_24 : decode cX4_cut 24 = .ok (.ldc 58, 2) := by decide +kernel
theorem dX4_cut_26 : decode cX4_cut 26 = .ok (.invokespecial 46, 3) := by decide +kernel
theorem dX4_cut_29 : decode cX4_cut 29 = .ok (.athrow, 1) := by decide +kernel
theorem dX4_cut_30 : decode cX4_cut 30 = .ok (.aload_n 0, 1) := by decide +kernel
theorem dX4_cut_31 : decode cX4_cut 31 = .ok (.getfield 10, 3) := by decide +kernel
theorem dX4_cut_34 : decode cX4_cut 34 = .ok (.getfield 32, 3) := by decide +kernel
theorem dX4_cut_37 : decode cX4_cut 37 = .ok (.iload_n 1, 1) := by decide +kernel
theorem dX4_cut_38 : decode cX4_cut 38 = .ok (.invokevirtual 60, 3) := by decide +kernel
theorem dX4_cut_41 : decode cX4_cut 41 = .ok (.ireturn, 1) := by decide +kernel
set_option maxRecDepth 20000 in
theorem ggX4_tie_X4_needBed : GoodIn wsX4_tie wsX4_needBed := goodIn_ca (goodIn_r _ [6, 7, 8, 1, 22, 23, 24, 25, 26, 27, 28, 29, 30, 31, 32, 33, 34, 35, 36, 37, 38, 39, 40] (by decide +kernel) (by decide +kernel)) (goodIn_sub (fun _ h => List.mem_cons_of_mem _ (List.mem_append_right _ h)) (by decide +kernel))
set_option maxRecDepth 20000 in
theorem gX4_tie_X4_needBed : GoodIn wsX4_tie (wsV RX4 51 RX4 yX4_needBed wsX4_needBed) := goodIn_app (goodIn_of _ (by decide +kernel)) ggX4_tie_X4_needBed
set_option maxRecDepth 20000 in
theorem ggX4_tie_X1_tieUp : GoodIn wsX4_tie wsX1_tieUp := goodIn_r _ [13, 14, 15, 16, 17, 18, 19, 20, 21, 31, 32, 33, 34, 35, 36, 37, 38, 39, 40] (by decide +kernel) (by decide +kernel)
set_option maxRecDepth 20000 in
theorem gX4_tie_X1_tieUp : GoodIn wsX4_tie (wsV RX4 68 RX1 yX1_tieUp wsX1_tieUp) := goodIn_app (goodIn_of _ (by decide +kernel)) ggX4_tie_X1_tieUp
theorem dX4_tie_0 : decode cX4_tie 0 = .ok (.aload_n 0, 1) := by decide +kernel
theorem dX4_tie_1 : decode cX4_tie 1 = .ok (.iload_n 1, 1) := by decide +kernel
theorem dX4_tie_2 : decode cX4_tie 2 = .ok (.invokevirtual 51, 3) := by decide +kernel
theorem dX4_tie_5 : decode cX4_tie 5 = .ok (.aload_n 0, 1) := by decide +kernel
theorem dX4_tie_6 : decode cX4_tie 6 = .ok (.getfield 10, 3) := by decide +kernel
theorem dX4_tie_9 : decode cX4_tie 9 = .ok (.getfield 32, 3) := by decide +kernel
theorem dX4_tie_12 : decode cX4_tie 12 = .ok (.iload_n 1, 1) := by decide +kernel
theorem dX4_tie_13 : decode cX4_tie 13 = .ok (.aload_n 0, 1) := by decide +kernel
theorem dX4_tie_14 : decode cX4_tie 14 = .ok (.getfield 10, 3) := by decide +kernel
theorem dX4_tie_17 : decode cX4_tie 17 = .ok (.getfield 64, 3) := by decide +kernel
theorem dX4_tie_20 : decode cX4_tie 20 = .ok (.invokevirtual 68, 3) := by decide +kernel
theorem dX4_tie_23 : decode cX4_tie 23 = .ok (.istore_n 2, 1) := by decide +kernel
theorem dX4_tie_24 : decode cX4_tie 24 = .ok (.aload_n 0, 1) := by decide +kernel
theorem dX4_tie_25 : decode cX4_tie 25 = .ok (.getfield 10, 3) := by decide +kernel
theorem dX4_tie_28 : decode cX4_tie 28 = .ok (.dup, 1) := by decide +kernel
theorem dX4_tie_29 : decode cX4_tie 29 = .ok (.getfield 64, 3) := by decide +kernel
theorem dX4_tie_32 : decode cX4_tie 32 = .ok (.iload_n 2, 1) := by decide +kernel
theorem dX4_tie_33 : decode cX4_tie 33 = .ok (.isub, 1) := by decide +kernel
theorem dX4_tie_34 : decode cX4_tie 34 = .ok (.putfield 64, 3) := by decide +kernel
theorem dX4_tie_37 : decode cX4_tie 37 = .ok (.iload_n 2, 1) := by decide +kernel
theorem dX4_tie_38 : decode cX4_tie 38 = .ok (.ireturn, 1) := by decide +kernel
set_option maxRecDepth 20000 in
theorem ggX4_buy_X4_tenthRoundedUp : GoodIn wsX4_buy wsX4_tenthRoundedUp := goodIn_r _ [9] (by decide +kernel) (by decide +kernel)
set_option maxRecDepth 20000 in
theorem gX4_buy_X4_tenthRoundedUp : GoodIn wsX4_buy (va_wsS RX4 74 yX4_tenthRoundedUp wsX4_tenthRoundedUp) := goodIn_app (goodIn_of _ (by decide +kernel)) ggX4_buy_X4_tenthRoundedUp
theorem dX4_buy_0 : decode cX4_buy 0 = .ok (.iload_n 1, 1) := by decide +kernel
theorem dX4_buy_1 : decode cX4_buy 1 = .ok (.iconst 1, 1) := by decide +kernel
theorem dX4_buy_2 : decode cX4_buy 2 = .ok (.if_icmp .lt 10, 3) := by decide +kernel
theorem dX4_buy_5 : decode cX4_buy 5 = .ok (.iload_n 1, 1) := by decide +kernel
theorem dX4_buy_6 : decode cX4_buy 6 = .ok (.sipush 500, 3) := by decide +kernel
theorem dX4_buy_9 : decode cX4_buy 9 = .ok (.if_icmp .le 13, 3) := by decide +kernel
theorem dX4_buy_12 : decode cX4_buy 12 = .ok (.new 23, 3) := by decide +kernel
theorem dX4_buy_15 : decode cX4_buy 15 = .ok (.dup, 1) := by decide +kernel
theorem dX4_buy_16 : decode cX4_buy 16 = .ok (.ldc 72, 2) := by decide +kernel
theorem dX4_buy_18 : decode cX4_buy 18 = .ok (.invokespecial 27, 3) := by decide +kernel
theorem dX4_buy_21 : decode cX4_buy 21 = .ok (.athrow, 1) := by decide +kernel
theorem dX4_buy_22 : decode cX4_buy 22 = .ok (.iload_n 1, 1) := by decide +kernel
theorem dX4_buy_23 : decode cX4_buy 23 = .ok (.invokestatic 74, 3) := by decide +kernel
theorem dX4_buy_26 : decode cX4_buy 26 = .ok (.istore_n 2, 1) := by decide +kernel
theorem dX4_buy_27 : decode cX4_buy 27 = .ok (.iload_n 2, 1) := by decide +kernel
theorem dX4_buy_28 : decode cX4_buy 28 = .ok (.aload_n 0, 1) := by decide +kernel
theorem dX4_buy_29 : decode cX4_buy 29 = .ok (.getfield 10, 3) := by decide +kernel
theorem dX4_buy_32 : decode cX4_buy 32 = .ok (.getfield 77, 3) := by decide +kernel
theorem dX4_buy_35 : decode cX4_buy 35 = .ok (.if_icmp .le 13, 3) := by decide +kernel
theorem dX4_buy_38 : decode cX4_buy 38 = .ok (.new 42, 3) := by decide +kernel
theorem dX4_buy_41 : decode cX4_buy 41 = .ok (.dup, 1) := by decide +kernel
theorem dX4_buy_42 : decode cX4_buy 42 = .ok (.ldc 80, 2) := by decide +kernel
theorem dX4_buy_44 : decode cX4_buy 44 = .ok (.invokespecial 46, 3) := by decide +kernel
theorem dX4_buy_47 : decode cX4_buy 47 = .ok (.athrow, 1) := by decide +kernel
theorem dX4_buy_48 : decode cX4_buy 48 = .ok (.aload_n 0, 1) := by decide +kernel
theorem dX4_buy_49 : decode cX4_buy 49 = .ok (.getfield 10, 3) := by decide +kernel
theorem dX4_buy_52 : decode cX4_buy 52 = .ok (.dup, 1) := by decide +kernel
theorem dX4_buy_53 : decode cX4_buy 53 = .ok (.getfield 77, 3) := by decide +kernel
theorem dX4_buy_56 : decode cX4_buy 56 = .ok (.iload_n 2, 1) := by decide +kernel
theorem dX4_buy_57 : decode cX4_buy 57 = .ok (.isub, 1) := by decide +kernel
theorem dX4_buy_58 : decode cX4_buy 58 = .ok (.putfield 77, 3) := by decide +kernel
theorem dX4_buy_61 : decode cX4_buy 61 = .ok (.aload_n 0, 1) := by decide +kernel
theorem dX4_buy_62 : decode cX4_buy 62 = .ok (.getfield 10, 3) := by decide +kernel
theorem dX4_buy_65 : decode cX4_buy 65 = .ok (.dup, 1) := by decide +kernel
theorem dX4_buy_66 : decode cX4_buy 66 = .ok (.getfield 64, 3) := by decide +kernel
theorem dX4_buy_69 : decode cX4_buy 69 = .ok (.iload_n 1, 1) := by decide +kernel
theorem dX4_buy_70 : decode cX4_buy 70 = .ok (.iadd, 1) := by decide +kernel
theorem dX4_buy_71 : decode cX4_buy 71 = .ok (.putfield 64, 3) := by decide +kernel
theorem dX4_buy_74 : decode cX4_buy 74 = .ok (.aload_n 0, 1) := by decide +kernel
theorem dX4_buy_75 : decode cX4_buy 75 = .ok (.getfield 10, 3) := by decide +kernel
theorem dX4_buy_78 : decode cX4_buy 78 = .ok (.getfield 64, 3) := by decide +kernel
theorem dX4_buy_81 : decode cX4_buy 81 = .ok (.ireturn, 1) := by decide +kernel
set_option maxRecDepth 20000 in
theorem ggX4_about_X4_needBed : GoodIn wsX4_about wsX4_needBed := goodIn_ca (goodIn_r _ [6, 7, 8, 1, 33, 34, 35, 36, 37, 38, 39, 40, 41, 42, 43, 44, 45, 46, 47, 48, 49, 50, 51] (by decide +kernel) (by decide +kernel)) (goodIn_sub (fun _ h => List.mem_cons_of_mem _ (List.mem_append_right _ h)) (by decide +kernel))
set_option maxRecDepth 20000 in
theorem gX4_about_X4_needBed : GoodIn wsX4_about (wsV RX4 51 RX4 yX4_needBed wsX4_needBed) := goodIn_app (goodIn_of _ (by decide +kernel)) ggX4_about_X4_needBed
set_option maxRecDepth 20000 in
theorem ggX4_about_X4_needFigure : GoodIn wsX4_about wsX4_needFigure := goodIn_ca (goodIn_r _ [11, 7, 8] (by decide +kernel) (by decide +kernel)) (goodIn_sub (fun _ h => List.mem_cons_of_mem _ (List.mem_append_right _ h)) (by decide +kernel))
set_option maxRecDepth 20000 in
theorem gX4_about_X4_needFigure : GoodIn wsX4_about (va_wsS RX4 82 yX4_needFigure wsX4_needFigure) := goodIn_app (goodIn_of _ (by decide +kernel)) ggX4_about_X4_needFigure
set_option maxRecDepth 20000 in
theorem ggX4_about_X1_tell : GoodIn wsX4_about wsX1_tell := goodIn_r _ [16, 17, 18, 19, 20, 21, 22, 23, 24, 25, 26, 27, 15, 28, 29, 30, 31, 32, 42, 43, 44, 45, 46, 47, 48, 49, 50, 51] (by decide +kernel) (by decide +kernel)
set_option maxRecDepth 20000 in
theorem gX4_about_X1_tell : GoodIn wsX4_about (wsV RX4 86 RX1 yX1_tell wsX1_tell) := goodIn_app (goodIn_of _ (by decide +kernel)) ggX4_about_X1_tell
theorem dX4_about_0 : decode cX4_about 0 = .ok (.aload_n 0, 1) := by decide +kernel
theorem dX4_about_1 : decode cX4_about 1 = .ok (.iload_n 1, 1) := by decide +kernel
theorem dX4_about_2 : decode cX4_about 2 = .ok (.invokevirtual 51, 3) := by decide +kernel
theorem dX4_about_5 : decode cX4_about 5 = .ok (.iload_n 2, 1) := by decide +kernel
theorem dX4_about_6 : decode cX4_about 6 = .ok (.bipush 10, 2) := by decide +kernel
theorem dX4_about_8 : decode cX4_about 8 = .ok (.invokestatic 82, 3) := by decide +kernel
theorem dX4_about_11 : decode cX4_about 11 = .ok (.aload_n 0, 1) := by decide +kernel
theorem dX4_about_12 : decode cX4_about 12 = .ok (.getfield 10, 3) := by decide +kernel
theorem dX4_about_15 : decode cX4_about 15 = .ok (.getfield 32, 3) := by decide +kernel
theorem dX4_about_18 : decode cX4_about 18 = .ok (.iload_n 1, 1) := by decide +kernel
theorem dX4_about_19 : decode cX4_about 19 = .ok (.iload_n 2, 1) := by decide +kernel
theorem dX4_about_20 : decode cX4_about 20 = .ok (.invokevirtual 86, 3) := by decide +kernel
theorem dX4_about_23 : decode cX4_about 23 = .ok (.ireturn, 1) := by decide +kernel
set_option maxRecDepth 20000 in
theorem ggX4_best_X4_needBed : GoodIn wsX4_best wsX4_needBed := goodIn_ca (goodIn_r _ [7, 8, 9, 2, 54, 55, 56, 57, 58, 59, 60, 61, 62, 63, 64, 65, 66, 67, 68, 69, 70, 71, 72] (by decide +kernel) (by decide +kernel)) (goodIn_sub (fun _ h => List.mem_cons_of_mem _ (List.mem_append_right _ h)) (by decide +kernel))
set_option maxRecDepth 20000 in
theorem gX4_best_X4_needBed : GoodIn wsX4_best (wsV RX4 51 RX4 yX4_needBed wsX4_needBed) := goodIn_app (goodIn_of _ (by decide +kernel)) ggX4_best_X4_needBed
set_option maxRecDepth 20000 in
theorem ggX4_best_X1_copyFrom : GoodIn wsX4_best wsX1_copyFrom := goodIn_r _ [14, 15, 16, 17, 18, 19, 20, 21, 22, 23, 63, 64, 65, 66, 67, 68, 69, 70, 71, 72] (by decide +kernel) (by decide +kernel)
set_option maxRecDepth 20000 in
theorem gX4_best_X1_copyFrom : GoodIn wsX4_best (wsV RX4 89 RX1 yX1_copyFrom wsX1_copyFrom) := goodIn_app (goodIn_of _ (by decide +kernel)) ggX4_best_X1_copyFrom
set_option maxRecDepth 20000 in
theorem ggX4_best_X1_sedgeGiven : GoodIn wsX4_best wsX1_sedgeGiven := goodIn_r _ [27, 19, 28, 29, 30, 13, 31, 18, 17, 63, 64, 65, 66, 67, 68, 69, 70, 71, 72] (by decide +kernel) (by decide +kernel)
set_option maxRecDepth 20000 in
theorem gX4_best_X1_sedgeGiven : GoodIn wsX4_best (wsV RX4 93 RX1 yX1_sedgeGiven wsX1_sedgeGiven) := goodIn_app (goodIn_of _ (by decide +kernel)) ggX4_best_X1_sedgeGiven
set_option maxRecDepth 20000 in
theorem ggX4_best_X1_endYear : GoodIn wsX4_best wsX1_endYear := goodIn_r _ [35, 15, 36, 18, 19, 37, 38, 39, 40, 41, 42, 43, 44, 45, 13, 46, 47, 48, 49, 50, 16, 51, 52, 53, 63, 64, 65, 66, 67, 68, 69, 70, 71, 72] (by decide +kernel) (by decide +kernel)
set_option maxRecDepth 20000 in
theorem gX4_best_X1_endYear : GoodIn wsX4_best (wsV RX4 96 RX1 yX1_endYear wsX1_endYear) := goodIn_app (goodIn_of _ (by decide +kernel)) ggX4_best_X1_endYear
theorem dX4_best_0 : decode cX4_best 0 = .ok (.aload_n 0, 1) := by decide +kernel
theorem dX4_best_1 : decode cX4_best 1 = .ok (.iload_n 1, 1) := by decide +kernel
theorem dX4_best_2 : decode cX4_best 2 = .ok (.invokevirtual 51, 3) := by decide +kernel
theorem dX4_best_5 : decode cX4_best 5 = .ok (.aload_n 0, 1) := by decide +kernel
theorem dX4_best_6 : decode cX4_best 6 = .ok (.getfield 16, 3) := by decide +kernel
theorem dX4_best_9 : decode cX4_best 9 = .ok (.getfield 32, 3) := by decide +kernel
theorem dX4_best_12 : decode cX4_best 12 = .ok (.aload_n 0, 1) := by decide +kernel
theorem dX4_best_13 : decode cX4_best 13 = .ok (.getfield 10, 3) := by decide +kernel
theorem dX4_best_16 : decode cX4_best 16 = .ok (.getfield 32, 3) := by decide +kernel
theorem dX4_best_19 : decode cX4_best 19 = .ok (.invokevirtual 89, 3) := by decide +kernel
theorem dX4_best_22 : decode cX4_best 22 = .ok (.iconst 0, 1) := by decide +kernel
theorem dX4_best_23 : decode cX4_best 23 = .ok (.istore_n 2, 1) := by decide +kernel
theorem dX4_best_24 : decode cX4_best 24 = .ok (.aload_n 0, 1) := by decide +kernel
theorem dX4_best_25 : decode cX4_best 25 = .ok (.getfield 16, 3) := by decide +kernel
theorem dX4_best_28 : decode cX4_best 28 = .ok (.getfield 32, 3) := by decide +kernel
theorem dX4_best_31 : decode cX4_best 31 = .ok (.iload_n 1, 1) := by decide +kernel
theorem dX4_best_32 : decode cX4_best 32 = .ok (.invokevirtual 93, 3) := by decide +kernel
theorem dX4_best_35 : decode cX4_best 35 = .ok (.istore_n 3, 1) := by decide +kernel
theorem dX4_best_36 : decode cX4_best 36 = .ok (.iconst 1, 1) := by decide +kernel
theorem dX4_best_37 : decode cX4_best 37 = .ok (.istore 4, 2) := by decide +kernel
theorem dX4_best_39 : decode cX4_best 39 = .ok (.iload 4, 2) := by decide +kernel
theorem dX4_best_41 : decode cX4_best 41 = .ok (.bipush 9, 2) := by decide +kernel
theorem dX4_best_43 : decode cX4_best 43 = .ok (.if_icmp .gt 44, 3) := by decide +kernel
theorem dX4_best_46 : decode cX4_best 46 = .ok (.aload_n 0, 1) := by decide +kernel
theorem dX4_best_47 : decode cX4_best 47 = .ok (.getfield 16, 3) := by decide +kernel
theorem dX4_best_50 : decode cX4_best 50 = .ok (.getfield 32, 3) := by decide +kernel
theorem dX4_best_53 : decode cX4_best 53 = .ok (.invokevirtual 96, 3) := by decide +kernel
theorem dX4_best_56 : decode cX4_best 56 = .ok (.aload_n 0, 1) := by decide +kernel
theorem dX4_best_57 : decode cX4_best 57 = .ok (.getfield 16, 3) := by decide +kernel
theorem dX4_best_60 : decode cX4_best 60 = .ok (.getfield 32, 3) := by decide +kernel
theorem dX4_best_63 : decode cX4_best 63 = .ok (.iload_n 1, 1) := by decide +kernel
theorem dX4_best_64 : decode cX4_best 64 = .ok (.invokevirtual 93, 3) := by decide +kernel
theorem dX4_best_67 : decode cX4_best 67 = .ok (.istore 5, 2) := by decide +kernel
theorem dX4_best_69 : decode cX4_best 69 = .ok (.iload 5, 2) := by decide +kernel
theorem dX4_best_71 : decode cX4_best 71 = .ok (.iload_n 3, 1) := by decide +kernel
theorem dX4_best_72 : decode cX4_best 72 = .ok (.if_icmp .le 9, 3) := by decide +kernel
theorem dX4_best_75 : decode cX4_best 75 = .ok (.iload 5, 2) := by decide +kernel
theorem dX4_best_77 : decode cX4_best 77 = .ok (.istore_n 3, 1) := by decide +kernel
theorem dX4_best_78 : decode cX4_best 78 = .ok (.iload 4, 2) := by decide +kernel
theorem dX4_best_80 : decode cX4_best 80 = .ok (.istore_n 2, 1) := by decide +kernel
theorem dX4_best_81 : decode cX4_best 81 = .ok (.iinc 4 1, 3) := by decide +kernel
theorem dX4_best_84 : decode cX4_best 84 = .ok (.goto (-45), 3) := by decide +kernel
theorem dX4_best_87 : decode cX4_best 87 = .ok (.iload_n 2, 1) := by decide +kernel
theorem dX4_best_88 : decode cX4_best 88 = .ok (.ireturn, 1) := by decide +kernel
set_option maxRecDepth 20000 in
theorem ggX4_barge_X4_needPlace : GoodIn wsX4_barge wsX4_needPlace := goodIn_ca (goodIn_r _ [7, 8, 9] (by decide +kernel) (by decide +kernel)) (goodIn_sub (fun _ h => List.mem_cons_of_mem _ (List.mem_append_right _ h)) (by decide +kernel))
set_option maxRecDepth 20000 in
theorem gX4_barge_X4_needPlace : GoodIn wsX4_barge (va_wsS RX4 19 yX4_needPlace wsX4_needPlace) := goodIn_app (goodIn_of _ (by decide +kernel)) ggX4_barge_X4_needPlace
set_option maxRecDepth 20000 in
theorem ggX4_barge_X0_areFull : GoodIn wsX4_barge wsX0_areFull := goodIn_r _ [14, 15, 31, 32, 33, 34, 35, 36] (by decide +kernel) (by decide +kernel)
set_option maxRecDepth 20000 in
theorem gX4_barge_X0_areFull : GoodIn wsX4_barge (wsV RX4 103 RX0 yX0_areFull wsX0_areFull) := goodIn_app (goodIn_of _ (by decide +kernel)) ggX4_barge_X0_areFull
set_option maxRecDepth 20000 in
theorem ggX4_barge_X0_add : GoodIn wsX4_barge wsX0_add := goodIn_r _ [19, 15, 20, 21, 31, 32, 33, 34, 35, 36] (by decide +kernel) (by decide +kernel)
set_option maxRecDepth 20000 in
theorem gX4_barge_X0_add : GoodIn wsX4_barge (wsV RX4 108 RX0 yX0_add wsX0_add) := goodIn_app (goodIn_of _ (by decide +kernel)) ggX4_barge_X0_add
theorem dX4_barge_0 : decode cX4_barge 0 = .ok (.iload_n 1, 1) := by decide +kernel
theorem dX4_barge_1 : decode cX4_barge 1 = .ok (.invokestatic 19, 3) := by decide +kernel
theorem dX4_barge_4 : decode cX4_barge 4 = .ok (.aload_n 0, 1) := by decide +kernel
theorem dX4_barge_5 : decode cX4_barge 5 = .ok (.getfield 10, 3) := by decide +kernel
theorem dX4_barge_8 : decode cX4_barge 8 = .ok (.getfield 99, 3) := by decide +kernel
theorem dX4_barge_11 : decode cX4_barge 11 = .ok (.invokevirtual 103, 3) := by decide +kernel
theorem dX4_barge_14 : decode cX4_barge 14 = .ok (.ifCond .eq 13, 3) := by decide +kernel
theorem dX4_barge_17 : decode cX4_barge 17 = .ok (.new 42, 3) := by decide +kernel
theorem dX4_barge_20 : decode cX4_barge 20 = .ok (.dup, 1) := by decide +kernel
theorem dX4_barge_21 : decode cX4_barge 21 = .ok (.ldc 106, 2) := by decide +kernel
theorem dX4_barge_23 : decode cX4_barge 23 = .ok (.invokespecial 46, 3) := by decide +kernel
theorem dX4_barge_26 : decode cX4_barge 26 = .ok (.athrow, 1) := by decide +kernel
theorem dX4_barge_27 : decode cX4_barge 27 = .ok (.aload_n 0, 1) := by decide +kernel
theorem dX4_barge_28 : decode cX4_barge 28 = .ok (.getfield 10, 3) := by decide +kernel
theorem dX4_barge_31 : decode cX4_barge 31 = .ok (.getfield 99, 3) := by decide +kernel
theorem dX4_barge_34 : decode cX4_barge 34 = .ok (.iload_n 1, 1) := by decide +kernel
theorem dX4_barge_35 : decode cX4_barge 35 = .ok (.invokevirtual 108, 3) := by decide +kernel
theorem dX4_barge_38 : decode cX4_barge 38 = .ok (.ireturn, 1) := by decide +kernel
set_option maxRecDepth 20000 in
theorem ggX4_sail_X4_needBarge : GoodIn wsX4_sail wsX4_needBarge := goodIn_ca (goodIn_r _ [6, 7, 8, 1, 23, 24, 25, 26, 27, 28, 29, 30, 31, 32, 33, 34, 35, 36, 37] (by decide +kernel) (by decide +kernel)) (goodIn_sub (fun _ h => List.mem_cons_of_mem _ (List.mem_append_right _ h)) (by decide +kernel))
set_option maxRecDepth 20000 in
theorem gX4_sail_X4_needBarge : GoodIn wsX4_sail (wsV RX4 110 RX4 yX4_needBarge wsX4_needBarge) := goodIn_app (goodIn_of _ (by decide +kernel)) ggX4_sail_X4_needBarge
set_option maxRecDepth 20000 in
theorem ggX4_sail_X4_needPlace : GoodIn wsX4_sail wsX4_needPlace := goodIn_ca (goodIn_r _ [11, 7, 8] (by decide +kernel) (by decide +kernel)) (goodIn_sub (fun _ h => List.mem_cons_of_mem _ (List.mem_append_right _ h)) (by decide +kernel))
set_option maxRecDepth 20000 in
theorem gX4_sail_X4_needPlace : GoodIn wsX4_sail (va_wsS RX4 19 yX4_needPlace wsX4_needPlace) := goodIn_app (goodIn_of _ (by decide +kernel)) ggX4_sail_X4_needPlace
set_option maxRecDepth 20000 in
theorem ggX4_sail_X0_send : GoodIn wsX4_sail wsX0_send := goodIn_r _ [16, 17, 18, 19, 20, 21, 22, 32, 33, 34, 35, 36, 37] (by decide +kernel) (by decide +kernel)
set_option maxRecDepth 20000 in
theorem gX4_sail_X0_send : GoodIn wsX4_sail (wsV RX4 113 RX0 yX0_send wsX0_send) := goodIn_app (goodIn_of _ (by decide +kernel)) ggX4_sail_X0_send
theorem dX4_sail_0 : decode cX4_sail 0 = .ok (.aload_n 0, 1) := by decide +kernel
theorem dX4_sail_1 : decode cX4_sail 1 = .ok (.iload_n 1, 1) := by decide +kernel
theorem dX4_sail_2 : decode cX4_sail 2 = .ok (.invokevirtual 110, 3) := by decide +kernel
theorem dX4_sail_5 : decode cX4_sail 5 = .ok (.iload_n 2, 1) := by decide +kernel
theorem dX4_sail_6 : decode cX4_sail 6 = .ok (.invokestatic 19, 3) := by decide +kernel
theorem dX4_sail_9 : decode cX4_sail 9 = .ok (.aload_n 0, 1) := by decide +kernel
theorem dX4_sail_10 : decode cX4_sail 10 = .ok (.getfield 10, 3) := by decide +kernel
theorem dX4_sail_13 : decode cX4_sail 13 = .ok (.getfield 99, 3) := by decide +kernel
theorem dX4_sail_16 : decode cX4_sail 16 = .ok (.iload_n 1, 1) := by decide +kernel
theorem dX4_sail_17 : decode cX4_sail 17 = .ok (.iload_n 2, 1) := by decide +kernel
theorem dX4_sail_18 : decode cX4_sail 18 = .ok (.invokevirtual 113, 3) := by decide +kernel
theorem dX4_sail_21 : decode cX4_sail 21 = .ok (.ireturn, 1) := by decide +kernel
set_option maxRecDepth 20000 in
theorem ggX4_load_X4_needBarge : GoodIn wsX4_load wsX4_needBarge := goodIn_ca (goodIn_r _ [8, 9, 10, 3, 33, 34, 35, 36, 37, 38, 39, 40, 41, 42, 43, 44, 45, 46, 47] (by decide +kernel) (by decide +kernel)) (goodIn_sub (fun _ h => List.mem_cons_of_mem _ (List.mem_append_right _ h)) (by decide +kernel))
set_option maxRecDepth 20000 in
theorem gX4_load_X4_needBarge : GoodIn wsX4_load (wsV RX4 110 RX4 yX4_needBarge wsX4_needBarge) := goodIn_app (goodIn_of _ (by decide +kernel)) ggX4_load_X4_needBarge
set_option maxRecDepth 20000 in
theorem ggX4_load_X4_needBed : GoodIn wsX4_load wsX4_needBed := goodIn_ca (goodIn_r _ [14, 9, 10, 3, 33, 34, 35, 36, 37, 38, 39, 40, 41, 48, 49, 50, 51, 52, 53, 54, 55, 56, 57] (by decide +kernel) (by decide +kernel)) (goodIn_sub (fun _ h => List.mem_cons_of_mem _ (List.mem_append_right _ h)) (by decide +kernel))
set_option maxRecDepth 20000 in
theorem gX4_load_X4_needBed : GoodIn wsX4_load (wsV RX4 51 RX4 yX4_needBed wsX4_needBed) := goodIn_app (goodIn_of _ (by decide +kernel)) ggX4_load_X4_needBed
set_option maxRecDepth 20000 in
theorem ggX4_load_X3_takeAboard : GoodIn wsX4_load wsX3_takeAboard := goodIn_r _ [19, 20, 21, 22, 23, 24, 25, 26, 27, 28, 29, 30, 31, 32, 35, 36, 37, 38, 39, 40, 41, 48, 49, 50, 51, 52, 53, 54, 55, 56, 57, 42, 43, 44, 45, 46, 47] (by decide +kernel) (by decide +kernel)
set_option maxRecDepth 20000 in
theorem gX4_load_X3_takeAboard : GoodIn wsX4_load (wsV RX4 122 RX3 yX3_takeAboard wsX3_takeAboard) := goodIn_app (goodIn_of _ (by decide +kernel)) ggX4_load_X3_takeAboard
theorem dX4_load_0 : decode cX4_load 0 = .ok (.aload_n 0, 1) := by decide +kernel
theorem dX4_load_1 : decode cX4_load 1 = .ok (.iload_n 1, 1) := by decide +kernel
theorem dX4_load_2 : decode cX4_load 2 = .ok (.invokevirtual 110, 3) := by decide +kernel
theorem dX4_load_5 : decode cX4_load 5 = .ok (.aload_n 0, 1) := by decide +kernel
theorem dX4_load_6 : decode cX4_load 6 = .ok (.iload_n 2, 1) := by decide +kernel
theorem dX4_load_7 : decode cX4_load 7 = .ok (.invokevirtual 51, 3) := by decide +kernel
theorem dX4_load_10 : decode cX4_load 10 = .ok (.aload_n 0, 1) := by decide +kernel
theorem dX4_load_11 : decode cX4_load 11 = .ok (.getfield 10, 3) := by decide +kernel
theorem dX4_load_14 : decode cX4_load 14 = .ok (.getfield 99, 3) := by decide +kernel
theorem dX4_load_17 : decode cX4_load 17 = .ok (.getfield 116, 3) := by decide +kernel
theorem dX4_load_20 : decode cX4_load 20 = .ok (.iload_n 1, 1) := by decide +kernel
theorem dX4_load_21 : decode cX4_load 21 = .ok (.iaload, 1) := by decide +kernel
theorem dX4_load_22 : decode cX4_load 22 = .ok (.aload_n 0, 1) := by decide +kernel
theorem dX4_load_23 : decode cX4_load 23 = .ok (.getfield 10, 3) := by decide +kernel
theorem dX4_load_26 : decode cX4_load 26 = .ok (.getfield 32, 3) := by decide +kernel
theorem dX4_load_29 : decode cX4_load 29 = .ok (.getfield 119, 3) := by decide +kernel
theorem dX4_load_32 : decode cX4_load 32 = .ok (.iload_n 2, 1) := by decide +kernel
theorem dX4_load_33 : decode cX4_load 33 = .ok (.iaload, 1) := by decide +kernel
theorem dX4_load_34 : decode cX4_load 34 = .ok (.if_icmp .eq 13, 3) := by decide +kernel
theorem dX4_load_37 : decode cX4_load 37 = .ok (.new 42, 3) := by decide +kernel
theorem dX4_load_40 : decode cX4_load 40 = .ok (.dup, 1) := by decide +kernel
theorem dX4_load_41 : decode cX4_load 41 = .ok (.ldc 120, 2) := by decide +kernel
theorem dX4_load_43 : decode cX4_load 43 = .ok (.invokespecial 46, 3) := by decide +kernel
theorem dX4_load_46 : decode cX4_load 46 = .ok (.athrow, 1) := by decide +kernel
theorem dX4_load_47 : decode cX4_load 47 = .ok (.aload_n 0, 1) := by decide +kernel
theorem dX4_load_48 : decode cX4_load 48 = .ok (.getfield 10, 3) := by decide +kernel
theorem dX4_load_51 : decode cX4_load 51 = .ok (.iload_n 1, 1) := by decide +kernel
theorem dX4_load_52 : decode cX4_load 52 = .ok (.iload_n 2, 1) := by decide +kernel
theorem dX4_load_53 : decode cX4_load 53 = .ok (.invokevirtual 122, 3) := by decide +kernel
theorem dX4_load_56 : decode cX4_load 56 = .ok (.ireturn, 1) := by decide +kernel
set_option maxRecDepth 20000 in
theorem ggX4_sell_X4_needBarge : GoodIn wsX4_sell wsX4_needBarge := goodIn_ca (goodIn_r _ [8, 9, 10, 3, 45, 46, 47, 48, 49, 50, 51, 52, 53, 54, 55, 56, 57, 58, 59] (by decide +kernel) (by decide +kernel)) (goodIn_sub (fun _ h => List.mem_cons_of_mem _ (List.mem_append_right _ h)) (by decide +kernel))
set_option maxRecDepth 20000 in
theorem gX4_sell_X4_needBarge : GoodIn wsX4_sell (wsV RX4 110 RX4 yX4_needBarge wsX4_needBarge) := goodIn_app (goodIn_of _ (by decide +kernel)) ggX4_sell_X4_needBarge
set_option maxRecDepth 20000 in
theorem ggX4_sell_X4_landingAt : GoodIn wsX4_sell wsX4_landingAt := goodIn_r _ [13, 14] (by decide +kernel) (by decide +kernel)
set_option maxRecDepth 20000 in
theorem gX4_sell_X4_landingAt : GoodIn wsX4_sell (va_wsS RX4 125 yX4_landingAt wsX4_landingAt) := goodIn_app (goodIn_of _ (by decide +kernel)) ggX4_sell_X4_landingAt
set_option maxRecDepth 20000 in
theorem ggX4_sell_X3_sellAll : GoodIn wsX4_sell wsX3_sellAll := goodIn_r _ [19, 20, 21, 22, 23, 24, 25, 26, 27, 28, 29, 30, 31, 32, 33, 34, 35, 36, 37, 38, 39, 40, 41, 42, 43, 44, 47, 48, 49, 50, 51, 52, 53, 54, 55, 56, 57, 58, 59, 60] (by decide +kernel) (by decide +kernel)
set_option maxRecDepth 20000 in
theorem gX4_sell_X3_sellAll : GoodIn wsX4_sell (wsV RX4 130 RX3 yX3_sellAll wsX3_sellAll) := goodIn_app (goodIn_of _ (by decide +kernel)) ggX4_sell_X3_sellAll
theorem dX4_sell_0 : decode cX4_sell 0 = .ok (.aload_n 0, 1) := by decide +kernel
theorem dX4_sell_1 : decode cX4_sell 1 = .ok (.iload_n 1, 1) := by decide +kernel
theorem dX4_sell_2 : decode cX4_sell 2 = .ok (.invokevirtual 110, 3) := by decide +kernel
theorem dX4_sell_5 : decode cX4_sell 5 = .ok (.aload_n 0, 1) := by decide +kernel
theorem dX4_sell_6 : decode cX4_sell 6 = .ok (.getfield 10, 3) := by decide +kernel
theorem dX4_sell_9 : decode cX4_sell 9 = .ok (.getfield 99, 3) := by decide +kernel
theorem dX4_sell_12 : decode cX4_sell 12 = .ok (.getfield 116, 3) := by decide +kernel
theorem dX4_sell_15 : decode cX4_sell 15 = .ok (.iload_n 1, 1) := by decide +kernel
theorem dX4_sell_16 : decode cX4_sell 16 = .ok (.iaload, 1) := by decide +kernel
theorem dX4_sell_17 : decode cX4_sell 17 = .ok (.invokestatic 125, 3) := by decide +kernel
theorem dX4_sell_20 : decode cX4_sell 20 = .ok (.istore_n 2, 1) := by decide +kernel
theorem dX4_sell_21 : decode cX4_sell 21 = .ok (.iload_n 2, 1) := by decide +kernel
theorem dX4_sell_22 : decode cX4_sell 22 = .ok (.iconst (-1), 1) := by decide +kernel
theorem dX4_sell_23 : decode cX4_sell 23 = .ok (.if_icmp .ne 13, 3) := by decide +kernel
theorem dX4_sell_26 : decode cX4_sell 26 = .ok (.new 42, 3) := by decide +kernel
theorem dX4_sell_29 : decode cX4_sell 29 = .ok (.dup, 1) := by decide +kernel
theorem dX4_sell_30 : decode cX4_sell 30 = .ok (.ldc 128, 2) := by decide +kernel
theorem dX4_sell_32 : decode cX4_sell 32 = .ok (.invokespecial 46, 3) := by decide +kernel
theorem dX4_sell_35 : decode cX4_sell 35 = .ok (.athrow, 1) := by decide +kernel
theorem dX4_sell_36 : decode cX4_sell 36 = .ok (.aload_n 0, 1) := by decide +kernel
theorem dX4_sell_37 : decode cX4_sell 37 = .ok (.getfield 10, 3) := by decide +kernel
theorem dX4_sell_40 : decode cX4_sell 40 = .ok (.iload_n 1, 1) := by decide +kernel
theorem dX4_sell_41 : decode cX4_sell 41 = .ok (.iload_n 2, 1) := by decide +kernel
theorem dX4_sell_42 : decode cX4_sell 42 = .ok (.invokevirtual 130, 3) := by decide +kernel
theorem dX4_sell_45 : decode cX4_sell 45 = .ok (.ireturn, 1) := by decide +kernel
set_option maxRecDepth 20000 in
theorem ggX4_told_X4_needBarge : GoodIn wsX4_told wsX4_needBarge := goodIn_ca (goodIn_r _ [6, 7, 8, 1, 25, 26, 27, 28, 29, 30, 31, 32, 33, 34, 35, 36, 37, 38, 39] (by decide +kernel) (by decide +kernel)) (goodIn_sub (fun _ h => List.mem_cons_of_mem _ (List.mem_append_right _ h)) (by decide +kernel))
set_option maxRecDepth 20000 in
theorem gX4_told_X4_needBarge : GoodIn wsX4_told (wsV RX4 110 RX4 yX4_needBarge wsX4_needBarge) := goodIn_app (goodIn_of _ (by decide +kernel)) ggX4_told_X4_needBarge
set_option maxRecDepth 20000 in
theorem ggX4_told_X4_needFigure : GoodIn wsX4_told wsX4_needFigure := goodIn_ca (goodIn_r _ [11, 7, 8] (by decide +kernel) (by decide +kernel)) (goodIn_sub (fun _ h => List.mem_cons_of_mem _ (List.mem_append_right _ h)) (by decide +kernel))
set_option maxRecDepth 20000 in
theorem gX4_told_X4_needFigure : GoodIn wsX4_told (va_wsS RX4 82 yX4_needFigure wsX4_needFigure) := goodIn_app (goodIn_of _ (by decide +kernel)) ggX4_told_X4_needFigure
set_option maxRecDepth 20000 in
theorem ggX4_told_X0_tell : GoodIn wsX4_told wsX0_tell := goodIn_r _ [16, 17, 18, 19, 20, 21, 22, 5, 23, 24, 34, 35, 36, 37, 38, 39] (by decide +kernel) (by decide +kernel)
set_option maxRecDepth 20000 in
theorem gX4_told_X0_tell : GoodIn wsX4_told (wsV RX4 133 RX0 yX0_tell wsX0_tell) := goodIn_app (goodIn_of _ (by decide +kernel)) ggX4_told_X0_tell
theorem dX4_told_0 : decode cX4_told 0 = .ok (.aload_n 0, 1) := by decide +kernel
theorem dX4_told_1 : decode cX4_told 1 = .ok (.iload_n 1, 1) := by decide +kernel
theorem dX4_told_2 : decode cX4_told 2 = .ok (.invokevirtual 110, 3) := by decide +kernel
theorem dX4_told_5 : decode cX4_told 5 = .ok (.iload_n 2, 1) := by decide +kernel
theorem dX4_told_6 : decode cX4_told 6 = .ok (.bipush 6, 2) := by decide +kernel
theorem dX4_told_8 : decode cX4_told 8 = .ok (.invokestatic 82, 3) := by decide +kernel
theorem dX4_told_11 : decode cX4_told 11 = .ok (.aload_n 0, 1) := by decide +kernel
theorem dX4_told_12 : decode cX4_told 12 = .ok (.getfield 10, 3) := by decide +kernel
theorem dX4_told_15 : decode cX4_told 15 = .ok (.getfield 99, 3) := by decide +kernel
theorem dX4_told_18 : decode cX4_told 18 = .ok (.iload_n 1, 1) := by decide +kernel
theorem dX4_told_19 : decode cX4_told 19 = .ok (.iload_n 2, 1) := by decide +kernel
theorem dX4_told_20 : decode cX4_told 20 = .ok (.invokevirtual 133, 3) := by decide +kernel
theorem dX4_told_23 : decode cX4_told 23 = .ok (.ireturn, 1) := by decide +kernel
set_option maxRecDepth 20000 in
theorem ggX4_landing_X4_needLanding : GoodIn wsX4_landing wsX4_needLanding := goodIn_ca (goodIn_r _ [5, 6, 7] (by decide +kernel) (by decide +kernel)) (goodIn_sub (fun _ h => List.mem_cons_of_mem _ (List.mem_append_right _ h)) (by decide +kernel))
set_option maxRecDepth 20000 in
theorem gX4_landing_X4_needLanding : GoodIn wsX4_landing (va_wsS RX4 134 yX4_needLanding wsX4_needLanding) := goodIn_app (goodIn_of _ (by decide +kernel)) ggX4_landing_X4_needLanding
set_option maxRecDepth 20000 in
theorem ggX4_landing_X4_needFigure : GoodIn wsX4_landing wsX4_needFigure := goodIn_ca (goodIn_r _ [10, 6, 7] (by decide +kernel) (by decide +kernel)) (goodIn_sub (fun _ h => List.mem_cons_of_mem _ (List.mem_append_right _ h)) (by decide +kernel))
set_option maxRecDepth 20000 in
theorem gX4_landing_X4_needFigure : GoodIn wsX4_landing (va_wsS RX4 82 yX4_needFigure wsX4_needFigure) := goodIn_app (goodIn_of _ (by decide +kernel)) ggX4_landing_X4_needFigure
set_option maxRecDepth 20000 in
theorem ggX4_landing_X2_tell : GoodIn wsX4_landing wsX2_tell := goodIn_r _ [15, 16, 17, 18, 19, 14, 20, 21, 22, 23, 24, 25, 26, 27, 28, 38] (by decide +kernel) (by decide +kernel)
set_option maxRecDepth 20000 in
theorem gX4_landing_X2_tell : GoodIn wsX4_landing (wsV RX4 141 RX2 yX2_tell wsX2_tell) := goodIn_app (goodIn_of _ (by decide +kernel)) ggX4_landing_X2_tell
theorem dX4_landing_0 : decode cX4_landing 0 = .ok (.iload_n 1, 1) := by decide +kernel
theorem dX4_landing_1 : decode cX4_landing 1 = .ok (.invokestatic 134, 3) := by decide +kernel
theorem dX4_landing_4 : decode cX4_landing 4 = .ok (.iload_n 2, 1) := by decide +kernel
theorem dX4_landing_5 : decode cX4_landing 5 = .ok (.iconst 4, 1) := by decide +kernel
theorem dX4_landing_6 : decode cX4_landing 6 = .ok (.invokestatic 82, 3) := by decide +kernel
theorem dX4_landing_9 : decode cX4_landing 9 = .ok (.aload_n 0, 1) := by decide +kernel
theorem dX4_landing_10 : decode cX4_landing 10 = .ok (.getfield 10, 3) := by decide +kernel
theorem dX4_landing_13 : decode cX4_landing 13 = .ok (.getfield 137, 3) := by decide +kernel
theorem dX4_landing_16 : decode cX4_landing 16 = .ok (.iload_n 1, 1) := by decide +kernel
theorem dX4_landing_17 : decode cX4_landing 17 = .ok (.iload_n 2, 1) := by decide +kernel
theorem dX4_landing_18 : decode cX4_landing 18 = .ok (.invokevirtual 141, 3) := by decide +kernel
theorem dX4_landing_21 : decode cX4_landing 21 = .ok (.ireturn, 1) := by decide +kernel
set_option maxRecDepth 20000 in
theorem ggX4_would_X4_needBarge : GoodIn wsX4_would wsX4_needBarge := goodIn_ca (goodIn_r _ [8, 9, 10, 2, 128, 129, 130, 131, 132, 133, 134, 135, 136, 137, 138, 139, 140, 141, 142] (by decide +kernel) (by decide +kernel)) (goodIn_sub (fun _ h => List.mem_cons_of_mem _ (List.mem_append_right _ h)) (by decide +kernel))
set_option maxRecDepth 20000 in
theorem gX4_would_X4_needBarge : GoodIn wsX4_would (wsV RX4 110 RX4 yX4_needBarge wsX4_needBarge) := goodIn_app (goodIn_of _ (by decide +kernel)) ggX4_would_X4_needBarge
set_option maxRecDepth 20000 in
theorem ggX4_would_X4_needLanding : GoodIn wsX4_would wsX4_needLanding := goodIn_ca (goodIn_r _ [13, 9, 10] (by decide +kernel) (by decide +kernel)) (goodIn_sub (fun _ h => List.mem_cons_of_mem _ (List.mem_append_right _ h)) (by decide +kernel))
set_option maxRecDepth 20000 in
theorem gX4_would_X4_needLanding : GoodIn wsX4_would (va_wsS RX4 134 yX4_needLanding wsX4_needLanding) := goodIn_app (goodIn_of _ (by decide +kernel)) ggX4_would_X4_needLanding
set_option maxRecDepth 20000 in
theorem ggX4_would_X3_copyFrom : GoodIn wsX4_would wsX3_copyFrom := goodIn_r _ [18, 19, 20, 21, 22, 23, 24, 25, 26, 27, 28, 29, 30, 31, 32, 33, 34, 35, 36, 37, 38, 39, 40, 41, 42, 43, 44, 45, 46, 47, 48, 49, 50, 51, 52, 53, 54, 55, 56, 130, 131, 132, 133, 134, 135, 136, 143, 144, 145, 146, 147, 148, 149, 150, 151, 152, 137, 138, 139, 140, 141, 142, 153] (by decide +kernel) (by decide +kernel)
set_option maxRecDepth 20000 in
theorem gX4_would_X3_copyFrom : GoodIn wsX4_would (wsV RX4 144 RX3 yX3_copyFrom wsX3_copyFrom) := goodIn_app (goodIn_of _ (by decide +kernel)) ggX4_would_X3_copyFrom
set_option maxRecDepth 20000 in
theorem ggX4_would_X0_send : GoodIn wsX4_would wsX0_send := goodIn_r _ [60, 46, 61, 62, 63, 64, 47, 137, 138, 139, 140, 141, 142] (by decide +kernel) (by decide +kernel)
set_option maxRecDepth 20000 in
theorem gX4_would_X0_send : GoodIn wsX4_would (wsV RX4 113 RX0 yX0_send wsX0_send) := goodIn_app (goodIn_of _ (by decide +kernel)) ggX4_would_X0_send
set_option maxRecDepth 20000 in
theorem ggX4_would_X3_passDays : GoodIn wsX4_would wsX3_passDays := goodIn_r _ [68, 22, 69, 70, 71, 17, 72, 24, 23, 25, 19, 73, 74, 75, 43, 76, 45, 47, 46, 77, 78, 63, 79, 80, 81, 82, 83, 84, 85, 29, 86, 31, 36, 37, 87, 7, 88, 89, 90, 91, 54, 92, 56, 93, 94, 95, 96, 97, 98, 99, 34, 35, 100, 101, 102, 103, 104, 105, 106, 107, 108, 32, 109, 62, 64, 130, 131, 132, 133, 134, 135, 136, 137, 138, 139, 140, 141, 142, 143, 144, 145, 146, 147, 148, 149, 150, 151, 152, 153] (by decide +kernel) (by decide +kernel)
set_option maxRecDepth 20000 in
theorem gX4_would_X3_passDays : GoodIn wsX4_would (wsV RX4 150 RX3 yX3_passDays wsX3_passDays) := goodIn_app (goodIn_of _ (by decide +kernel)) ggX4_would_X3_passDays
set_option maxRecDepth 20000 in
theorem ggX4_would_X3_sellAll : GoodIn wsX4_would wsX3_sellAll := goodIn_r _ [113, 24, 25, 20, 114, 115, 116, 43, 117, 48, 49, 118, 119, 120, 54, 121, 56, 122, 81, 63, 82, 123, 124, 125, 126, 127, 130, 131, 132, 133, 134, 135, 136, 137, 138, 139, 140, 141, 142, 153] (by decide +kernel) (by decide +kernel)
set_option maxRecDepth 20000 in
theorem gX4_would_X3_sellAll : GoodIn wsX4_would (wsV RX4 130 RX3 yX3_sellAll wsX3_sellAll) := goodIn_app (goodIn_of _ (by decide +kernel)) ggX4_would_X3_sellAll
theorem dX4_would_0 : decode cX4_would 0 = .ok (.aload_n 0, 1) := by decide +kernel
theorem dX4_would_1 : decode cX4_would 1 = .ok (.iload_n 1, 1) := by decide +kernel
theorem dX4_would_2 : decode cX4_would 2 = .ok (.invokevirtual 110, 3) := by decide +kernel
theorem dX4_would_5 : decode cX4_would 5 = .ok (.iload_n 2, 1) := by decide +kernel
theorem dX4_would_6 : decode cX4_would 6 = .ok (.invokestatic 134, 3) := by decide +kernel
theorem dX4_would_9 : decode cX4_would 9 = .ok (.aload_n 0, 1) := by decide +kernel
theorem dX4_would_10 : decode cX4_would 10 = .ok (.getfield 16, 3) := by decide +kernel
theorem dX4_would_13 : decode cX4_would 13 = .ok (.aload_n 0, 1) := by decide +kernel
theorem dX4_would_14 : decode cX4_would 14 = .ok (.getfield 10, 3) := by decide +kernel
theorem dX4_would_17 : decode cX4_would 17 = .ok (.invokevirtual 144, 3) := by decide +kernel
theorem dX4_would_20 : decode cX4_would 20 = .ok (.aload_n 0, 1) := by decide +kernel
theorem dX4_would_21 : decode cX4_would 21 = .ok (.getfield 16, 3) := by decide +kernel
theorem dX4_would_24 : decode cX4_would 24 = .ok (.getfield 99, 3) := by decide +kernel
theorem dX4_would_27 : decode cX4_would 27 = .ok (.iload_n 1, 1) := by decide +kernel
theorem dX4_would_28 : decode cX4_would 28 = .ok (.getstatic 147, 3) := by decide +kernel
theorem dX4_would_31 : decode cX4_would 31 = .ok (.iload_n 2, 1) := by decide +kernel
theorem dX4_would_32 : decode cX4_would 32 = .ok (.iaload, 1) := by decide +kernel
theorem dX4_would_33 : decode cX4_would 33 = .ok (.invokevirtual 113, 3) := by decide +kernel
theorem dX4_would_36 : decode cX4_would 36 = .ok (.istore_n 3, 1) := by decide +kernel
theorem dX4_would_37 : decode cX4_would 37 = .ok (.aload_n 0, 1) := by decide +kernel
theorem dX4_would_38 : decode cX4_would 38 = .ok (.getfield 16, 3) := by decide +kernel
theorem dX4_would_41 : decode cX4_would 41 = .ok (.iload_n 3, 1) := by decide +kernel
theorem dX4_would_42 : decode cX4_would 42 = .ok (.invokevirtual 150, 3) := by decide +kernel
theorem dX4_would_45 : decode cX4_would 45 = .ok (.pop, 1) := by decide +kernel
theorem dX4_would_46 : decode cX4_would 46 = .ok (.aload_n 0, 1) := by decide +kernel
theorem dX4_would_47 : decode cX4_would 47 = .ok (.getfield 16, 3) := by decide +kernel
theorem dX4_would_50 : decode cX4_would 50 = .ok (.iload_n 1, 1) := by decide +kernel
theorem dX4_would_51 : decode cX4_would 51 = .ok (.iload_n 2, 1) := by decide +kernel
theorem dX4_would_52 : decode cX4_would 52 = .ok (.invokevirtual 130, 3) := by decide +kernel
theorem dX4_would_55 : decode cX4_would 55 = .ok (.ireturn, 1) := by decide +kernel
set_option maxRecDepth 20000 in
theorem ggX4_advise_X4_needBarge : GoodIn wsX4_advise wsX4_needBarge := goodIn_ca (goodIn_r _ [5, 6, 7, 8, 132, 133, 134, 135, 136, 137, 138, 139, 140, 141, 142, 143, 144, 145, 146] (by decide +kernel) (by decide +kernel)) (goodIn_sub (fun _ h => List.mem_cons_of_mem _ (List.mem_append_right _ h)) (by decide +kernel))
set_option maxRecDepth 20000 in
theorem gX4_advise_X4_needBarge : GoodIn wsX4_advise (wsV RX4 110 RX4 yX4_needBarge wsX4_needBarge) := goodIn_app (goodIn_of _ (by decide +kernel)) ggX4_advise_X4_needBarge
set_option maxRecDepth 20000 in
theorem ggX4_advise_X4_would : GoodIn wsX4_advise wsX4_would := goodIn_ca (goodIn_r _ [12, 13, 8, 14, 1, 2, 3, 4, 5, 6, 7, 15, 16, 17, 18, 19, 20, 21, 22, 23, 24, 25, 26, 27, 28, 29, 30, 31, 32, 33, 34, 35, 36, 37, 38, 39, 40, 41, 42, 43, 44, 45, 46, 47, 48, 49, 50, 51, 52, 53, 54, 55, 56, 57, 58, 59, 60, 61, 62, 63, 64, 65, 66, 67, 68, 69, 70, 71, 72, 73, 74, 75, 76, 77, 78, 79, 80, 81, 82, 83, 84, 85, 86, 87, 88, 89, 90, 91, 92, 93, 94, 95, 96, 97, 98, 99, 100, 101, 102, 103, 104, 105, 106, 107, 108, 109, 110, 111, 112, 113, 114, 115, 116, 117, 118, 119, 120, 121, 122, 123, 124, 125, 126, 127, 128, 129, 130, 131, 132, 133, 134, 135, 136, 137, 138, 139, 140, 141, 142, 143, 144, 145, 146, 147, 148, 149, 150, 151, 152, 153, 154, 155, 156, 157] (by decide +kernel) (by decide +kernel)) (goodIn_sub (fun _ h => List.mem_cons_of_mem _ (List.mem_append_right _ h)) (by decide +kernel))
set_option maxRecDepth 20000 in
theorem gX4_advise_X4_would : GoodIn wsX4_advise (wsV RX4 153 RX4 yX4_would wsX4_would) := goodIn_app (goodIn_of _ (by decide +kernel)) ggX4_advise_X4_would
theorem dX4_advise_0 : decode cX4_advise 0 = .ok (.aload_n 0, 1) := by decide +kernel
theorem dX4_advise_1 : decode cX4_advise 1 = .ok (.iload_n 1, 1) := by decide +kernel
theorem dX4_advise_2 : decode cX4_advise 2 = .ok (.invokevirtual 110, 3) := by decide +kernel
theorem dX4_advise_5 : decode cX4_advise 5 = .ok (.iconst 0, 1) := by decide +kernel
theorem dX4_advise_6 : decode cX4_advise 6 = .ok (.istore_n 2, 1) := by decide +kernel
theorem dX4_advise_7 : decode cX4_advise 7 = .ok (.aload_n 0, 1) := by decide +kernel
theorem dX4_advise_8 : decode cX4_advise 8 = .ok (.iload_n 1, 1) := by decide +kernel
theorem dX4_advise_9 : decode cX4_advise 9 = .ok (.iconst 0, 1) := by decide +kernel
theorem dX4_advise_10 : decode cX4_advise 10 = .ok (.invokevirtual 153, 3) := by decide +kernel
theorem dX4_advise_13 : decode cX4_advise 13 = .ok (.istore_n 3, 1) := by decide +kernel
theorem dX4_advise_14 : decode cX4_advise 14 = .ok (.iconst 1, 1) := by decide +kernel
theorem dX4_advise_15 : decode cX4_advise 15 = .ok (.istore 4, 2) := by decide +kernel
theorem dX4_advise_17 : decode cX4_advise 17 = .ok (.iload 4, 2) := by decide +kernel
theorem dX4_advise_19 : decode cX4_advise 19 = .ok (.iconst 3, 1) := by decide +kernel
theorem dX4_advise_20 : decode cX4_advise 20 = .ok (.if_icmp .ge 30, 3) := by decide +kernel
theorem dX4_advise_23 : decode cX4_advise 23 = .ok (.aload_n 0, 1) := by decide +kernel
theorem dX4_advise_24 : decode cX4_advise 24 = .ok (.iload_n 1, 1) := by decide +kernel
theorem dX4_advise_25 : decode cX4_advise 25 = .ok (.iload 4, 2) := by decide +kernel
theorem dX4_advise_27 : decode cX4_advise 27 = .ok (.invokevirtual 153, 3) := by decide +kernel
theorem dX4_advise_30 : decode cX4_advise 30 = .ok (.istore 5, 2) := by decide +kernel
theorem dX4_advise_32 : decode cX4_advise 32 = .ok (.iload 5, 2) := by decide +kernel
theorem dX4_advise_34 : decode cX4_advise 34 = .ok (.iload_n 3, 1) := by decide +kernel
theorem dX4_advise_35 : decode cX4_advise 35 = .ok (.if_icmp .le 9, 3) := by decide +kernel
theorem dX4_advise_38 : decode cX4_advise 38 = .ok (.iload 5, 2) := by decide +kernel
theorem dX4_advise_40 : decode cX4_advise 40 = .ok (.istore_n 3, 1) := by decide +kernel
theorem dX4_advise_41 : decode cX4_advise 41 = .ok (.iload 4, 2) := by decide +kernel
theorem dX4_advise_43 : decode cX4_advise 43 = .ok (.istore_n 2, 1) := by decide +kernel
theorem dX4_advise_44 : decode cX4_advise 44 = .ok (.iinc 4 1, 3) := by decide +kernel
theorem dX4_advise_47 : decode cX4_advise 47 = .ok (.goto (-30), 3) := by decide +kernel
theorem dX4_advise_50 : decode cX4_advise 50 = .ok (.iload_n 2, 1) := by decide +kernel
theorem dX4_advise_51 : decode cX4_advise 51 = .ok (.ireturn, 1) := by decide +kernel
set_option maxRecDepth 20000 in
theorem ggX4_count_X4_needFigure : GoodIn wsX4_count wsX4_needFigure := goodIn_ca (goodIn_r _ [5, 6, 7] (by decide +kernel) (by decide +kernel)) (goodIn_sub (fun _ h => List.mem_cons_of_mem _ (List.mem_append_right _ h)) (by decide +kernel))
set_option maxRecDepth 20000 in
theorem gX4_count_X4_needFigure : GoodIn wsX4_count (va_wsS RX4 82 yX4_needFigure wsX4_needFigure) := goodIn_app (goodIn_of _ (by decide +kernel)) ggX4_count_X4_needFigure
set_option maxRecDepth 20000 in
theorem ggX4_count_X3_tell : GoodIn wsX4_count wsX3_tell := goodIn_r _ [12, 13, 14, 15, 16, 17, 18, 19, 20, 21, 22, 23, 24, 25, 26, 27, 28, 29, 30, 31, 32, 33, 34, 35, 36, 37, 38, 39, 40, 41, 42, 43, 44, 45, 46, 47, 48, 49, 50, 51, 52, 53, 54, 55, 56, 57, 58, 59, 60, 61, 64, 65, 66, 67, 68, 69, 70, 71, 72, 73, 74, 75, 76, 77, 78, 79, 80, 81, 82, 83, 84, 85, 86, 87] (by decide +kernel) (by decide +kernel)
set_option maxRecDepth 20000 in
theorem gX4_count_X3_tell : GoodIn wsX4_count (wsV RX4 156 RX3 yX3_tell wsX3_tell) := goodIn_app (goodIn_of _ (by decide +kernel)) ggX4_count_X3_tell
theorem dX4_count_0 : decode cX4_count 0 = .ok (.iload_n 1, 1) := by decide +kernel
theorem dX4_count_1 : decode cX4_count 1 = .ok (.bipush 11, 2) := by decide +kernel
theorem dX4_count_3 : decode cX4_count 3 = .ok (.invokestatic 82, 3) := by decide +kernel
theorem dX4_count_6 : decode cX4_count 6 = .ok (.aload_n 0, 1) := by decide +kernel
theorem dX4_count_7 : decode cX4_count 7 = .ok (.getfield 10, 3) := by decide +kernel
theorem dX4_count_10 : decode cX4_count 10 = .ok (.iload_n 1, 1) := by decide +kernel
theorem dX4_count_11 : decode cX4_count 11 = .ok (.invokevirtual 156, 3) := by decide +kernel
theorem dX4_count_14 : decode cX4_count 14 = .ok (.ireturn, 1) := by decide +kernel
set_option maxRecDepth 20000 in
theorem ggX4_pass_X4_needDays : GoodIn wsX4_pass wsX4_needDays := goodIn_ca (goodIn_r _ [5, 6, 7] (by decide +kernel) (by decide +kernel)) (goodIn_sub (fun _ h => List.mem_cons_of_mem _ (List.mem_append_right _ h)) (by decide +kernel))
set_option maxRecDepth 20000 in
theorem gX4_pass_X4_needDays : GoodIn wsX4_pass (va_wsS RX4 158 yX4_needDays wsX4_needDays) := goodIn_app (goodIn_of _ (by decide +kernel)) ggX4_pass_X4_needDays
set_option maxRecDepth 20000 in
theorem ggX4_pass_X3_passDays : GoodIn wsX4_pass wsX3_passDays := goodIn_r _ [12, 13, 14, 15, 16, 11, 17, 18, 19, 20, 21, 22, 23, 24, 25, 26, 27, 28, 29, 30, 31, 32, 33, 34, 35, 36, 37, 38, 39, 40, 41, 42, 43, 44, 45, 4, 46, 47, 48, 49, 50, 51, 52, 53, 54, 55, 56, 57, 58, 59, 60, 61, 62, 63, 64, 65, 66, 67, 68, 69, 70, 71, 72, 73, 74, 77, 78, 79, 80, 81, 82, 83, 84, 85, 86, 87, 88, 89, 90, 91, 92, 93, 94, 95, 96, 97, 98, 99, 100] (by decide +kernel) (by decide +kernel)
set_option maxRecDepth 20000 in
theorem gX4_pass_X3_passDays : GoodIn wsX4_pass (wsV RX4 150 RX3 yX3_passDays wsX3_passDays) := goodIn_app (goodIn_of _ (by decide +kernel)) ggX4_pass_X3_passDays
theorem dX4_pass_0 : decode cX4_pass 0 = .ok (.iload_n 1, 1) := by decide +kernel
theorem dX4_pass_1 : decode cX4_pass 1 = .ok (.invokestatic 158, 3) := by decide +kernel
theorem dX4_pass_4 : decode cX4_pass 4 = .ok (.aload_n 0, 1) := by decide +kernel
theorem dX4_pass_5 : decode cX4_pass 5 = .ok (.getfield 10, 3) := by decide +kernel
theorem dX4_pass_8 : decode cX4_pass 8 = .ok (.iload_n 1, 1) := by decide +kernel
theorem dX4_pass_9 : decode cX4_pass 9 = .ok (.invokevirtual 150, 3) := by decide +kernel
theorem dX4_pass_12 : decode cX4_pass 12 = .ok (.ireturn, 1) := by decide +kernel
set_option maxRecDepth 20000 in
theorem ggX4_foresee_X4_needDays : GoodIn wsX4_foresee wsX4_needDays := goodIn_ca (goodIn_r _ [8, 9, 10] (by decide +kernel) (by decide +kernel)) (goodIn_sub (fun _ h => List.mem_cons_of_mem _ (List.mem_append_right _ h)) (by decide +kernel))
set_option maxRecDepth 20000 in
theorem gX4_foresee_X4_needDays : GoodIn wsX4_foresee (va_wsS RX4 158 yX4_needDays wsX4_needDays) := goodIn_app (goodIn_of _ (by decide +kernel)) ggX4_foresee_X4_needDays
set_option maxRecDepth 20000 in
theorem ggX4_foresee_X3_copyFrom : GoodIn wsX4_foresee wsX3_copyFrom := goodIn_r _ [15, 16, 17, 18, 19, 20, 21, 22, 23, 24, 25, 26, 27, 28, 29, 30, 31, 32, 33, 34, 35, 36, 37, 38, 39, 40, 41, 42, 43, 44, 45, 46, 47, 48, 49, 50, 51, 52, 53, 136, 137, 138, 139, 140, 141, 142, 143, 144, 145, 146, 147, 148, 149, 150, 151, 152, 153, 154, 155, 156, 157, 158, 159] (by decide +kernel) (by decide +kernel)
set_option maxRecDepth 20000 in
theorem gX4_foresee_X3_copyFrom : GoodIn wsX4_foresee (wsV RX4 144 RX3 yX3_copyFrom wsX3_copyFrom) := goodIn_app (goodIn_of _ (by decide +kernel)) ggX4_foresee_X3_copyFrom
set_option maxRecDepth 20000 in
theorem ggX4_foresee_X3_passDays : GoodIn wsX4_foresee wsX3_passDays := goodIn_r _ [57, 19, 58, 59, 60, 14, 61, 21, 20, 22, 16, 62, 63, 64, 40, 65, 42, 44, 43, 66, 67, 68, 69, 70, 71, 72, 73, 74, 75, 26, 76, 28, 33, 34, 77, 7, 78, 79, 80, 81, 51, 82, 53, 83, 84, 85, 86, 87, 88, 89, 31, 32, 90, 91, 92, 93, 94, 95, 96, 97, 98, 29, 99, 100, 101, 136, 137, 138, 139, 140, 141, 142, 153, 154, 155, 156, 157, 158, 143, 144, 145, 146, 147, 148, 149, 150, 151, 152, 159] (by decide +kernel) (by decide +kernel)
set_option maxRecDepth 20000 in
theorem gX4_foresee_X3_passDays : GoodIn wsX4_foresee (wsV RX4 150 RX3 yX3_passDays wsX3_passDays) := goodIn_app (goodIn_of _ (by decide +kernel)) ggX4_foresee_X3_passDays
set_option maxRecDepth 20000 in
theorem ggX4_foresee_X3_tell : GoodIn wsX4_foresee wsX3_tell := goodIn_r _ [105, 16, 17, 18, 20, 21, 22, 19, 106, 107, 108, 26, 109, 28, 110, 111, 112, 113, 31, 30, 114, 115, 116, 117, 33, 34, 118, 119, 120, 121, 35, 36, 122, 123, 124, 40, 125, 42, 126, 127, 128, 129, 45, 46, 130, 131, 132, 51, 133, 53, 136, 137, 138, 139, 140, 141, 142, 143, 144, 145, 146, 147, 148, 149, 150, 151, 152, 153, 154, 155, 156, 157, 158, 159] (by decide +kernel) (by decide +kernel)
set_option maxRecDepth 20000 in
theorem gX4_foresee_X3_tell : GoodIn wsX4_foresee (wsV RX4 156 RX3 yX3_tell wsX3_tell) := goodIn_app (goodIn_of _ (by decide +kernel)) ggX4_foresee_X3_tell
theorem dX4_foresee_0 : decode cX4_foresee 0 = .ok (.iload_n 1, 1) := by decide +kernel
theorem dX4_foresee_1 : decode cX4_foresee 1 = .ok (.invokestatic 158, 3) := by decide +kernel
theorem dX4_foresee_4 : decode cX4_foresee 4 = .ok (.iload_n 2, 1) := by decide +kernel
theorem dX4_foresee_5 : decode cX4_foresee 5 = .ok (.iconst 4, 1) := by decide +kernel
theorem dX4_foresee_6 : decode cX4_foresee 6 = .ok (.if_icmp .eq 30, 3) := by decide +kernel
theorem dX4_foresee_9 : decode cX4_foresee 9 = .ok (.iload_n 2, 1) := by decide +kernel
theorem dX4_foresee_10 : decode cX4_foresee 10 = .ok (.iconst 5, 1) := by decide +kernel
theorem dX4_foresee_11 : decode cX4_foresee 11 = .ok (.if_icmp .eq 25, 3) := by decide +kernel
theorem dX4_foresee_14 : decode cX4_foresee 14 = .ok (.iload_n 2, 1) := by decide +kernel
theorem dX4_foresee_15 : decode cX4_foresee 15 = .ok (.bipush 9, 2) := by decide +kernel
theorem dX4_foresee_17 : decode cX4_foresee 17 = .ok (.if_icmp .eq 19, 3) := by decide +kernel
theorem dX4_foresee_20 : decode cX4_foresee 20 = .ok (.iload_n 2, 1) := by decide +kernel
theorem dX4_foresee_21 : decode cX4_foresee 21 = .ok (.bipush 10, 2) := by decide +kernel
theorem dX4_foresee_23 : decode cX4_foresee 23 = .ok (.if_icmp .eq 13, 3) := by decide +kernel
theorem dX4_foresee_26 : decode cX4_foresee 26 = .ok (.new 161, 3) := by decide +kernel
theorem dX4_foresee_29 : decode cX4_foresee 29 = .ok (.dup, 1) := by decide +kernel
theorem dX4_foresee_30 : decode cX4_foresee 30 = .ok (.ldc 163, 2) := by decide +kernel
theorem dX4_foresee_32 : decode cX4_foresee 32 = .ok (.invokespecial 165, 3) := by decide +kernel
theorem dX4_foresee_35 : decode cX4_foresee 35 = .ok (.athrow, 1) := by decide +kernel
theorem dX4_foresee_36 : decode cX4_foresee 36 = .ok (.aload_n 0, 1) := by decide +kernel
theorem dX4_foresee_37 : decode cX4_foresee 37 = .ok (.getfield 16, 3) := by decide +kernel
theorem dX4_foresee_40 : decode cX4_foresee 40 = .ok (.aload_n 0, 1) := by decide +kernel
theorem dX4_foresee_41 : decode cX4_foresee 41 = .ok (.getfield 10, 3) := by decide +kernel
theorem dX4_foresee_44 : decode cX4_foresee 44 = .ok (.invokevirtual 144, 3) := by decide +kernel
theorem dX4_foresee_47 : decode cX4_foresee 47 = .ok (.aload_n 0, 1) := by decide +kernel
theorem dX4_foresee_48 : decode cX4_foresee 48 = .ok (.getfield 16, 3) := by decide +kernel
theorem dX4_foresee_51 : decode cX4_foresee 51 = .ok (.iload_n 1, 1) := by decide +kernel
theorem dX4_foresee_52 : decode cX4_foresee 52 = .ok (.invokevirtual 150, 3) := by decide +kernel
theorem dX4_foresee_55 : decode cX4_foresee 55 = .ok (.pop, 1) := by decide +kernel
theorem dX4_foresee_56 : decode cX4_foresee 56 = .ok (.aload_n 0, 1) := by decide +kernel
theorem dX4_foresee_57 : decode cX4_foresee 57 = .ok (.getfield 16, 3) := by decide +kernel
theorem dX4_foresee_60 : decode cX4_foresee 60 = .ok (.iload_n 2, 1) := by decide +kernel
theorem dX4_foresee_61 : decode cX4_foresee 61 = .ok (.invokevirtual 156, 3) := by decide +kernel
theorem dX4_foresee_64 : decode cX4_foresee 64 = .ok (.ireturn, 1) := by decide +kernel
set_option maxRecDepth 20000 in
theorem ggX4_mean_X1_sedgeOfAll : GoodIn wsX4_mean wsX1_sedgeOfAll := goodIn_r _ [6, 7, 8, 18, 19, 20, 21, 22, 23, 24, 25, 26, 27] (by decide +kernel) (by decide +kernel)
set_option maxRecDepth 20000 in
theorem gX4_mean_X1_sedgeOfAll : GoodIn wsX4_mean (wsV RX4 169 RX1 yX1_sedgeOfAll wsX1_sedgeOfAll) := goodIn_app (goodIn_of _ (by decide +kernel)) ggX4_mean_X1_sedgeOfAll
theorem dX4_mean_0 : decode cX4_mean 0 = .ok (.aload_n 0, 1) := by decide +kernel
theorem dX4_mean_1 : decode cX4_mean 1 = .ok (.getfield 10, 3) := by decide +kernel
theorem dX4_mean_4 : decode cX4_mean 4 = .ok (.getfield 32, 3) := by decide +kernel
theorem dX4_mean_7 : decode cX4_mean 7 = .ok (.getfield 166, 3) := by decide +kernel
theorem dX4_mean_10 : decode cX4_mean 10 = .ok (.ifCond .ne 5, 3) := by decide +kernel
theorem dX4_mean_13 : decode cX4_mean 13 = .ok (.dconst 0, 1) := by decide +kernel
theorem dX4_mean_14 : decode cX4_mean 14 = .ok (.dreturn, 1) := by decide +kernel
theorem dX4_mean_15 : decode cX4_mean 15 = .ok (.aload_n 0, 1) := by decide +kernel
theorem dX4_mean_16 : decode cX4_mean 16 = .ok (.getfield 10, 3) := by decide +kernel
theorem dX4_mean_19 : decode cX4_mean 19 = .ok (.getfield 32, 3) := by decide +kernel
theorem dX4_mean_22 : decode cX4_mean 22 = .ok (.invokevirtual 169, 3) := by decide +kernel
theorem dX4_mean_25 : decode cX4_mean 25 = .ok (.i2d, 1) := by decide +kernel
theorem dX4_mean_26 : decode cX4_mean 26 = .ok (.aload_n 0, 1) := by decide +kernel
theorem dX4_mean_27 : decode cX4_mean 27 = .ok (.getfield 10, 3) := by decide +kernel
theorem dX4_mean_30 : decode cX4_mean 30 = .ok (.getfield 32, 3) := by decide +kernel
theorem dX4_mean_33 : decode cX4_mean 33 = .ok (.getfield 166, 3) := by decide +kernel
theorem dX4_mean_36 : decode cX4_mean 36 = .ok (.i2d, 1) := by decide +kernel
theorem dX4_mean_37 : decode cX4_mean 37 = .ok (.ddiv, 1) := by decide +kernel
theorem dX4_mean_38 : decode cX4_mean 38 = .ok (.dreturn, 1) := by decide +kernel
set_option maxRecDepth 20000 in
theorem ggX4_digest_X3_tell : GoodIn wsX4_digest wsX3_tell := goodIn_r _ [8, 9, 10, 11, 12, 13, 14, 15, 16, 17, 18, 19, 20, 21, 22, 23, 24, 25, 26, 27, 28, 29, 30, 31, 32, 33, 34, 35, 36, 37, 38, 39, 40, 41, 42, 43, 44, 45, 46, 47, 48, 49, 50, 51, 52, 53, 54, 55, 56, 57, 97, 98, 99, 100, 101, 102, 103, 104, 105, 106, 107, 108, 109, 110, 111, 112, 113, 114, 115, 116, 117, 118, 119, 120] (by decide +kernel) (by decide +kernel)
set_option maxRecDepth 20000 in
theorem gX4_digest_X3_tell : GoodIn wsX4_digest (wsV RX4 156 RX3 yX3_tell wsX3_tell) := goodIn_app (goodIn_of _ (by decide +kernel)) ggX4_digest_X3_tell
set_option maxRecDepth 20000 in
theorem ggX4_digest_X1_tell : GoodIn wsX4_digest wsX1_tell := goodIn_r _ [61, 62, 27, 26, 63, 32, 33, 38, 39, 22, 23, 24, 19, 25, 64, 65, 66, 67, 104, 105, 106, 107, 108, 109, 110, 111, 112, 113] (by decide +kernel) (by decide +kernel)
set_option maxRecDepth 20000 in
theorem gX4_digest_X1_tell : GoodIn wsX4_digest (wsV RX4 86 RX1 yX1_tell wsX1_tell) := goodIn_app (goodIn_of _ (by decide +kernel)) ggX4_digest_X1_tell
set_option maxRecDepth 20000 in
theorem ggX4_digest_X0_tell : GoodIn wsX4_digest wsX0_tell := goodIn_r _ [71, 72, 73, 50, 51, 74, 75, 76, 77, 78, 114, 115, 116, 117, 118, 119] (by decide +kernel) (by decide +kernel)
set_option maxRecDepth 20000 in
theorem gX4_digest_X0_tell : GoodIn wsX4_digest (wsV RX4 133 RX0 yX0_tell wsX0_tell) := goodIn_app (goodIn_of _ (by decide +kernel)) ggX4_digest_X0_tell
set_option maxRecDepth 20000 in
theorem ggX4_digest_X2_tell : GoodIn wsX4_digest wsX2_tell := goodIn_r _ [82, 57, 83, 84, 85, 55, 86, 87, 88, 89, 90, 91, 92, 93, 94, 120] (by decide +kernel) (by decide +kernel)
set_option maxRecDepth 20000 in
theorem gX4_digest_X2_tell : GoodIn wsX4_digest (wsV RX4 141 RX2 yX2_tell wsX2_tell) := goodIn_app (goodIn_of _ (by decide +kernel)) ggX4_digest_X2_tell
theorem dX4_digest_0 : decode cX4_digest 0 = .ok (.ldc2_w 173, 3) := by decide +kernel
theorem dX4_digest_3 : decode cX4_digest 3 = .ok (.lstore_n 1, 1) := by decide +kernel
theorem dX4_digest_4 : decode cX4_digest 4 = .ok (.iconst 0, 1) := by decide +kernel
theorem dX4_digest_5 : decode cX4_digest 5 = .ok (.istore_n 3, 1) := by decide +kernel
theorem dX4_digest_6 : decode cX4_digest 6 = .ok (.iload_n 3, 1) := by decide +kernel
theorem dX4_digest_7 : decode cX4_digest 7 = .ok (.bipush 11, 2) := by decide +kernel
theorem dX4_digest_9 : decode cX4_digest 9 = .ok (.if_icmp .ge 25, 3) := by decide +kernel
theorem dX4_digest_12 : decode cX4_digest 12 = .ok (.lload_n 1, 1) := by decide +kernel
theorem dX4_digest_13 : decode cX4_digest 13 = .ok (.ldc2_w 175, 3) := by decide +kernel
theorem dX4_digest_16 : decode cX4_digest 16 = .ok (.lmul, 1) := by decide +kernel
theorem dX4_digest_17 : decode cX4_digest 17 = .ok (.aload_n 0, 1) := by decide +kernel
theorem dX4_digest_18 : decode cX4_digest 18 = .ok (.getfield 10, 3) := by decide +kernel
theorem dX4_digest_21 : decode cX4_digest 21 = .ok (.iload_n 3, 1) := by decide +kernel
theorem dX4_digest_22 : decode cX4_digest 22 = .ok (.invokevirtual 156, 3) := by decide +kernel
theorem dX4_digest_25 : decode cX4_digest 25 = .ok (.i2l, 1) := by decide +kernel
theorem dX4_digest_26 : decode cX4_digest 26 = .ok (.ladd, 1) := by decide +kernel
theorem dX4_digest_27 : decode cX4_digest 27 = .ok (.lstore_n 1, 1) := by decide +kernel
theorem dX4_digest_28 : decode cX4_digest 28 = .ok (.iinc 3 1, 3) := by decide +kernel
theorem dX4_digest_31 : decode cX4_digest 31 = .ok (.goto (-25), 3) := by decide +kernel
theorem dX4_digest_34 : decode cX4_digest 34 = .ok (.iconst 0, 1) := by decide +kernel
theorem dX4_digest_35 : decode cX4_digest 35 = .ok (.istore_n 3, 1) := by decide +kernel
theorem dX4_digest_36 : decode cX4_digest 36 = .ok (.iload_n 3, 1) := by decide +kernel
theorem dX4_digest_37 : decode cX4_digest 37 = .ok (.aload_n 0, 1) := by decide +kernel
theorem dX4_digest_38 : decode cX4_digest 38 = .ok (.getfield 10, 3) := by decide +kernel
theorem dX4_digest_41 : decode cX4_digest 41 = .ok (.getfield 32, 3) := by decide +kernel
theorem dX4_digest_44 : decode cX4_digest 44 = .ok (.getfield 166, 3) := by decide +kernel
theorem dX4_digest_47 : decode cX4_digest 47 = .ok (.if_icmp .ge 46, 3) := by decide +kernel
theorem dX4_digest_50 : decode cX4_digest 50 = .ok (.iconst 0, 1) := by decide +kernel
theorem dX4_digest_51 : decode cX4_digest 51 = .ok (.istore 4, 2) := by decide +kernel
theorem dX4_digest_53 : decode cX4_digest 53 = .ok (.iload 4, 2) := by decide +kernel
theorem dX4_digest_55 : decode cX4_digest 55 = .ok (.bipush 10, 2) := by decide +kernel
theorem dX4_digest_57 : decode cX4_digest 57 = .ok (.if_icmp .ge 30, 3) := by decide +kernel
theorem dX4_digest_60 : decode cX4_digest 60 = .ok (.lload_n 1, 1) := by decide +kernel
theorem dX4_digest_61 : decode cX4_digest 61 = .ok (.ldc2_w 175, 3) := by decide +kernel
theorem dX4_digest_64 : decode cX4_digest 64 = .ok (.lmul, 1) := by decide +kernel
theorem dX4_digest_65 : decode cX4_digest 65 = .ok (.aload_n 0, 1) := by decide +kernel
theorem dX4_digest_66 : decode cX4_digest 66 = .ok (.getfield 10, 3) := by decide +kernel
theorem dX4_digest_69 : decode cX4_digest 69 = .ok (.getfield 32, 3) := by decide +kernel
theorem dX4_digest_72 : decode cX4_digest 72 = .ok (.iload_n 3, 1) := by decide +kernel
theorem dX4_digest_73 : decode cX4_digest 73 = .ok (.iload 4, 2) := by decide +kernel
theorem dX4_digest_75 : decode cX4_digest 75 = .ok (.invokevirtual 86, 3) := by decide +kernel
theorem dX4_digest_78 : decode cX4_digest 78 = .ok (.i2l, 1) := by decide +kernel
theorem dX4_digest_79 : decode cX4_digest 79 = .ok (.ladd, 1) := by decide +kernel
theorem dX4_digest_80 : decode cX4_digest 80 = .ok (.lstore_n 1, 1) := by decide +kernel
theorem dX4_digest_81 : decode cX4_digest 81 = .ok (.iinc 4 1, 3) := by decide +kernel
theorem dX4_digest_84 : decode cX4_digest 84 = .ok (.goto (-31), 3) := by decide +kernel
theorem dX4_digest_87 : decode cX4_digest 87 = .ok (.iinc 3 1, 3) := by decide +kernel
theorem dX4_digest_90 : decode cX4_digest 90 = .ok (.goto (-54), 3) := by decide +kernel
theorem dX4_digest_93 : decode cX4_digest 93 = .ok (.iconst 0, 1) := by decide +kernel
theorem dX4_digest_94 : decode cX4_digest 94 = .ok (.istore_n 3, 1) := by decide +kernel
theorem dX4_digest_95 : decode cX4_digest 95 = .ok (.iload_n 3, 1) := by decide +kernel
theorem dX4_digest_96 : decode cX4_digest 96 = .ok (.aload_n 0, 1) := by decide +kernel
theorem dX4_digest_97 : decode cX4_digest 97 = .ok (.getfield 10, 3) := by decide +kernel
theorem dX4_digest_100 : decode cX4_digest 100 = .ok (.getfield 99, 3) := by decide +kernel
theorem dX4_digest_103 : decode cX4_digest 103 = .ok (.getfield 177, 3) := by decide +kernel
theorem dX4_digest_106 : decode cX4_digest 106 = .ok (.if_icmp .ge 46, 3) := by decide +kernel
theorem dX4_digest_109 : decode cX4_digest 109 = .ok (.iconst 0, 1) := by decide +kernel
theorem dX4_digest_110 : decode cX4_digest 110 = .ok (.istore 4, 2) := by decide +kernel
theorem dX4_digest_112 : decode cX4_digest 112 = .ok (.iload 4, 2) := by decide +kernel
theorem dX4_digest_114 : decode cX4_digest 114 = .ok (.bipush 6, 2) := by decide +kernel
theorem dX4_digest_116 : decode cX4_digest 116 = .ok (.if_icmp .ge 30, 3) := by decide +kernel
theorem dX4_digest_119 : decode cX4_digest 119 = .ok (.lload_n 1, 1) := by decide +kernel
theorem dX4_digest_120 : decode cX4_digest 120 = .ok (.ldc2_w 175, 3) := by decide +kernel
theorem dX4_digest_123 : decode cX4_digest 123 = .ok (.lmul, 1) := by decide +kernel
theorem dX4_digest_124 : decode cX4_digest 124 = .ok (.aload_n 0, 1) := by decide +kernel
theorem dX4_digest_125 : decode cX4_digest 125 = .ok (.getfield 10, 3) := by decide +kernel
theorem dX4_digest_128 : decode cX4_digest 128 = .ok (.getfield 99, 3) := by decide +kernel
theorem dX4_digest_131 : decode cX4_digest 131 = .ok (.iload_n 3, 1) := by decide +kernel
theorem dX4_digest_132 : decode cX4_digest 132 = .ok (.iload 4, 2) := by decide +kernel
theorem dX4_digest_134 : decode cX4_digest 134 = .ok (.invokevirtual 133, 3) := by decide +kernel
theorem dX4_digest_137 : decode cX4_digest 137 = .ok (.i2l, 1) := by decide +kernel
theorem dX4_digest_138 : decode cX4_digest 138 = .ok (.ladd, 1) := by decide +kernel
theorem dX4_digest_139 : decode cX4_digest 139 = .ok (.lstore_n 1, 1) := by decide +kernel
theorem dX4_digest_140 : decode cX4_digest 140 = .ok (.iinc 4 1, 3) := by decide +kernel
theorem dX4_digest_143 : decode cX4_digest 143 = .ok (.goto (-31), 3) := by decide +kernel
theorem dX4_digest_146 : decode cX4_digest 146 = .ok (.iinc 3 1, 3) := by decide +kernel
theorem dX4_digest_149 : decode cX4_digest 149 = .ok (.goto (-54), 3) := by decide +kernel
theorem dX4_digest_152 : decode cX4_digest 152 = .ok (.iconst 0, 1) := by decide +kernel
theorem dX4_digest_153 : decode cX4_digest 153 = .ok (.istore_n 3, 1) := by decide +kernel
theorem dX4_digest_154 : decode cX4_digest 154 = .ok (.iload_n 3, 1) := by decide +kernel
theorem dX4_digest_155 : decode cX4_digest 155 = .ok (.iconst 3, 1) := by decide +kernel
theorem dX4_digest_156 : decode cX4_digest 156 = .ok (.if_icmp .ge 45, 3) := by decide +kernel
theorem dX4_digest_159 : decode cX4_digest 159 = .ok (.iconst 0, 1) := by decide +kernel
theorem dX4_digest_160 : decode cX4_digest 160 = .ok (.istore 4, 2) := by decide +kernel
theorem dX4_digest_162 : decode cX4_digest 162 = .ok (.iload 4, 2) := by decide +kernel
theorem dX4_digest_164 : decode cX4_digest 164 = .ok (.iconst 4, 1) := by decide +kernel
theorem dX4_digest_165 : decode cX4_digest 165 = .ok (.if_icmp .ge 30, 3) := by decide +kernel
theorem dX4_digest_168 : decode cX4_digest 168 = .ok (.lload_n 1, 1) := by decide +kernel
theorem dX4_digest_169 : decode cX4_digest 169 = .ok (.ldc2_w 175, 3) := by decide +kernel
theorem dX4_digest_172 : decode cX4_digest 172 = .ok (.lmul, 1) := by decide +kernel
theorem dX4_digest_173 : decode cX4_digest 173 = .ok (.aload_n 0, 1) := by decide +kernel
theorem dX4_digest_174 : decode cX4_digest 174 = .ok (.getfield 10, 3) := by decide +kernel
theorem dX4_digest_177 : decode cX4_digest 177 = .ok (.getfield 137, 3) := by decide +kernel
theorem dX4_digest_180 : decode cX4_digest 180 = .ok (.iload_n 3, 1) := by decide +kernel
theorem dX4_digest_181 : decode cX4_digest 181 = .ok (.iload 4, 2) := by decide +kernel
theorem dX4_digest_183 : decode cX4_digest 183 = .ok (.invokevirtual 141, 3) := by decide +kernel
theorem dX4_digest_186 : decode cX4_digest 186 = .ok (.i2l, 1) := by decide +kernel
theorem dX4_digest_187 : decode cX4_digest 187 = .ok (.ladd, 1) := by decide +kernel
theorem dX4_digest_188 : decode cX4_digest 188 = .ok (.lstore_n 1, 1) := by decide +kernel
theorem dX4_digest_189 : decode cX4_digest 189 = .ok (.iinc 4 1, 3) := by decide +kernel
theorem dX4_digest_192 : decode cX4_digest 192 = .ok (.goto (-30), 3) := by decide +kernel
theorem dX4_digest_195 : decode cX4_digest 195 = .ok (.iinc 3 1, 3) := by decide +kernel
theorem dX4_digest_198 : decode cX4_digest 198 = .ok (.goto (-44), 3) := by decide +kernel
theorem dX4_digest_201 : decode cX4_digest 201 = .ok (.lload_n 1, 1) := by decide +kernel
theorem dX4_digest_202 : decode cX4_digest 202 = .ok (.lreturn, 1) := by decide +kernel
theorem dX4_needBed_0 : decode cX4_needBed 0 = .ok (.iload_n 1, 1) := by decide +kernel
theorem dX4_needBed_1 : decode cX4_needBed 1 = .ok (.ifCond .lt 17, 3) := by decide +kernel
theorem dX4_needBed_4 : decode cX4_needBed 4 = .ok (.iload_n 1, 1) := by decide +kernel
theorem dX4_needBed_5 : decode cX4_needBed 5 = .ok (.aload_n 0, 1) := by decide +kernel
theorem dX4_needBed_6 : decode cX4_needBed 6 = .ok (.getfield 10, 3) := by decide +kernel
theorem dX4_needBed_9 : decode cX4_needBed 9 = .ok (.getfield 32, 3) := by decide +kernel
theorem dX4_needBed_12 : decode cX4_needBed 12 = .ok (.getfield 166, 3) := by decide +kernel
theorem dX4_needBed_15 : decode cX4_needBed 15 = .ok (.if_icmp .lt 13, 3) := by decide +kernel
theorem dX4_needBed_18 : decode cX4_needBed 18 = .ok (.new 161, 3) := by decide +kernel
theorem dX4_needBed_21 : decode cX4_needBed 21 = .ok (.dup, 1) := by decide +kernel
theorem dX4_needBed_22 : decode cX4_needBed 22 = .ok (.ldc 178, 2) := by decide +kernel
theorem dX4_needBed_24 : decode cX4_needBed 24 = .ok (.invokespecial 165, 3) := by decide +kernel
theorem dX4_needBed_27 : decode cX4_needBed 27 = .ok (.athrow, 1) := by decide +kernel
theorem dX4_needBed_28 : decode cX4_needBed 28 = .ok (.return_, 1) := by decide +kernel
theorem dX4_needBarge_0 : decode cX4_needBarge 0 = .ok (.iload_n 1, 1) := by decide +kernel
theorem dX4_needBarge_1 : decode cX4_needBarge 1 = .ok (.ifCond .lt 17, 3) := by decide +kernel
theorem dX4_needBarge_4 : decode cX4_needBarge 4 = .ok (.iload_n 1, 1) := by decide +kernel
theorem dX4_needBarge_5 : decode cX4_needBarge 5 = .ok (.aload_n 0, 1) := by decide +kernel
theorem dX4_needBarge_6 : decode cX4_needBarge 6 = .ok (.getfield 10, 3) := by decide +kernel
theorem dX4_needBarge_9 : decode cX4_needBarge 9 = .ok (.getfield 99, 3) := by decide +kernel
theorem dX4_needBarge_12 : decode cX4_needBarge 12 = .ok (.getfield 177, 3) := by decide +kernel
theorem dX4_needBarge_15 : decode cX4_needBarge 15 = .ok (.if_icmp .lt 13, 3) := by decide +kernel
theorem dX4_needBarge_18 : decode cX4_needBarge 18 = .ok (.new 161, 3) := by decide +kernel
theorem dX4_needBarge_21 : decode cX4_needBarge 21 = .ok (.dup, 1) := by decide +kernel
theorem dX4_needBarge_22 : decode cX4_needBarge 22 = .ok (.ldc 180, 2) := by decide +kernel
theorem dX4_needBarge_24 : decode cX4_needBarge 24 = .ok (.invokespecial 165, 3) := by decide +kernel
theorem dX4_needBarge_27 : decode cX4_needBarge 27 = .ok (.athrow, 1) := by decide +kernel
theorem dX4_needBarge_28 : decode cX4_needBarge 28 = .ok (.return_, 1) := by decide +kernel
theorem dX4_needLanding_0 : decode cX4_needLanding 0 = .ok (.iload_n 0, 1) := by decide +kernel
theorem dX4_needLanding_1 : decode cX4_needLanding 1 = .ok (.ifCond .lt 8, 3) := by decide +kernel
theorem dX4_needLanding_4 : decode cX4_needLanding 4 = .ok (.iload_n 0, 1) := by decide +kernel
theorem dX4_needLanding_5 : decode cX4_needLanding 5 = .ok (.iconst 3, 1) := by decide +kernel
theorem dX4_needLanding_6 : decode cX4_needLanding 6 = .ok (.if_icmp .lt 13, 3) := by decide +kernel
theorem dX4_needLanding_9 : decode cX4_needLanding 9 = .ok (.new 161, 3) := by decide +kernel
theorem dX4_needLanding_12 : decode cX4_needLanding 12 = .ok (.dup, 1) := by decide +kernel
theorem dX4_needLanding_13 : decode cX4_needLanding 13 = .ok (.ldc 182, 2) := by decide +kernel
theorem dX4_needLanding_15 : decode cX4_needLanding 15 = .ok (.invokespecial 165, 3) := by decide +kernel
theorem dX4_needLanding_18 : decode cX4_needLanding 18 = .ok (.athrow, 1) := by decide +kernel
theorem dX4_needLanding_19 : decode cX4_needLanding 19 = .ok (.return_, 1) := by decide +kernel
theorem dX4_needPlace_0 : decode cX4_needPlace 0 = .ok (.iload_n 0, 1) := by decide +kernel
theorem dX4_needPlace_1 : decode cX4_needPlace 1 = .ok (.ifCond .lt 9, 3) := by decide +kernel
theorem dX4_needPlace_4 : decode cX4_needPlace 4 = .ok (.iload_n 0, 1) := by decide +kernel
theorem dX4_needPlace_5 : decode cX4_needPlace 5 = .ok (.bipush 30, 2) := by decide +kernel
theorem dX4_needPlace_7 : decode cX4_needPlace 7 = .ok (.if_icmp .le 13, 3) := by decide +kernel
theorem dX4_needPlace_10 : decode cX4_needPlace 10 = .ok (.new 161, 3) := by decide +kernel
theorem dX4_needPlace_13 : decode cX4_needPlace 13 = .ok (.dup, 1) := by decide +kernel
theorem dX4_needPlace_14 : decode cX4_needPlace 14 = .ok (.ldc 184, 2) := by decide +kernel
theorem dX4_needPlace_16 : decode cX4_needPlace 16 = .ok (.invokespecial 165, 3) := by decide +kernel
theorem dX4_needPlace_19 : decode cX4_needPlace 19 = .ok (.athrow, 1) := by decide +kernel
theorem dX4_needPlace_20 : decode cX4_needPlace 20 = .ok (.return_, 1) := by decide +kernel
theorem dX4_needFigure_0 : decode cX4_needFigure 0 = .ok (.iload_n 0, 1) := by decide +kernel
theorem dX4_needFigure_1 : decode cX4_needFigure 1 = .ok (.ifCond .lt 8, 3) := by decide +kernel
theorem dX4_needFigure_4 : decode cX4_needFigure 4 = .ok (.iload_n 0, 1) := by decide +kernel
theorem dX4_needFigure_5 : decode cX4_needFigure 5 = .ok (.iload_n 1, 1) := by decide +kernel
theorem dX4_needFigure_6 : decode cX4_needFigure 6 = .ok (.if_icmp .lt 13, 3) := by decide +kernel
theorem dX4_needFigure_9 : decode cX4_needFigure 9 = .ok (.new 161, 3) := by decide +kernel
theorem dX4_needFigure_12 : decode cX4_needFigure 12 = .ok (.dup, 1) := by decide +kernel
theorem dX4_needFigure_13 : decode cX4_needFigure 13 = .ok (.ldc 186, 2) := by decide +kernel
theorem dX4_needFigure_15 : decode cX4_needFigure 15 = .ok (.invokespecial 165, 3) := by decide +kernel
theorem dX4_needFigure_18 : decode cX4_needFigure 18 = .ok (.athrow, 1) := by decide +kernel
theorem dX4_needFigure_19 : decode cX4_needFigure 19 = .ok (.return_, 1) := by decide +kernel
theorem dX4_needDays_0 : decode cX4_needDays 0 = .ok (.iload_n 0, 1) := by decide +kernel
theorem dX4_needDays_1 : decode cX4_needDays 1 = .ok (.iconst 1, 1) := by decide +kernel
theorem dX4_needDays_2 : decode cX4_needDays 2 = .ok (.if_icmp .lt 10, 3) := by decide +kernel
theorem dX4_needDays_5 : decode cX4_needDays 5 = .ok (.iload_n 0, 1) := by decide +kernel
theorem dX4_needDays_6 : decode cX4_needDays 6 = .ok (.sipush 200, 3) := by decide +kernel
theorem dX4_needDays_9 : decode cX4_needDays 9 = .ok (.if_icmp .le 13, 3) := by decide +kernel
theorem dX4_needDays_12 : decode cX4_needDays 12 = .ok (.new 23, 3) := by decide +kernel
theorem dX4_needDays_15 : decode cX4_needDays 15 = .ok (.dup, 1) := by decide +kernel
theorem dX4_needDays_16 : decode cX4_needDays 16 = .ok (.ldc 188, 2) := by decide +kernel
theorem dX4_needDays_18 : decode cX4_needDays 18 = .ok (.invokespecial 27, 3) := by decide +kernel
theorem dX4_needDays_21 : decode cX4_needDays 21 = .ok (.athrow, 1) := by decide +kernel
theorem dX4_needDays_22 : decode cX4_needDays 22 = .ok (.return_, 1) := by decide +kernel
theorem dX4_tenthRoundedUp_0 : decode cX4_tenthRoundedUp 0 = .ok (.iload_n 0, 1) := by decide +kernel
theorem dX4_tenthRoundedUp_1 : decode cX4_tenthRoundedUp 1 = .ok (.bipush 9, 2) := by decide +kernel
theorem dX4_tenthRoundedUp_3 : decode cX4_tenthRoundedUp 3 = .ok (.iadd, 1) := by decide +kernel
theorem dX4_tenthRoundedUp_4 : decode cX4_tenthRoundedUp 4 = .ok (.bipush 10, 2) := by decide +kernel
theorem dX4_tenthRoundedUp_6 : decode cX4_tenthRoundedUp 6 = .ok (.idiv, 1) := by decide +kernel
theorem dX4_tenthRoundedUp_7 : decode cX4_tenthRoundedUp 7 = .ok (.ireturn, 1) := by decide +kernel
theorem dX4_twentiethRoundedUp_0 : decode cX4_twentiethRoundedUp 0 = .ok (.iload_n 0, 1) := by decide +kernel
theorem dX4_twentiethRoundedUp_1 : decode cX4_twentiethRoundedUp 1 = .ok (.bipush 19, 2) := by decide +kernel
theorem dX4_twentiethRoundedUp_3 : decode cX4_twentiethRoundedUp 3 = .ok (.iadd, 1) := by decide +kernel
theorem dX4_twentiethRoundedUp_4 : decode cX4_twentiethRoundedUp 4 = .ok (.bipush 20, 2) := by decide +kernel
theorem dX4_twentiethRoundedUp_6 : decode cX4_twentiethRoundedUp 6 = .ok (.idiv, 1) := by decide +kernel
theorem dX4_twentiethRoundedUp_7 : decode cX4_twentiethRoundedUp 7 = .ok (.ireturn, 1) := by decide +kernel
theorem dX4_landingAt_0 : decode cX4_landingAt 0 = .ok (.iconst 0, 1) := by decide +kernel
theorem dX4_landingAt_1 : decode cX4_landingAt 1 = .ok (.istore_n 1, 1) := by decide +kernel
theorem dX4_landingAt_2 : decode cX4_landingAt 2 = .ok (.iload_n 1, 1) := by decide +kernel
theorem dX4_landingAt_3 : decode cX4_landingAt 3 = .ok (.iconst 3, 1) := by decide +kernel
theorem dX4_landingAt_4 : decode cX4_landingAt 4 = .ok (.if_icmp .ge 20, 3) := by decide +kernel
theorem dX4_landingAt_7 : decode cX4_landingAt 7 = .ok (.getstatic 147, 3) := by decide +kernel
theorem dX4_landingAt_10 : decode cX4_landingAt 10 = .ok (.iload_n 1, 1) := by decide +kernel
theorem dX4_landingAt_11 : decode cX4_landingAt 11 = .ok (.iaload, 1) := by decide +kernel
theorem dX4_landingAt_12 : decode cX4_landingAt 12 = .ok (.iload_n 0, 1) := by decide +kernel
theorem dX4_landingAt_13 : decode cX4_landingAt 13 = .ok (.if_icmp .ne 5, 3) := by decide +kernel
theorem dX4_landingAt_16 : decode cX4_landingAt 16 = .ok (.iload_n 1, 1) := by decide +kernel
theorem dX4_landingAt_17 : decode cX4_landingAt 17 = .ok (.ireturn, 1) := by decide +kernel
theorem dX4_landingAt_18 : decode cX4_landingAt 18 = .ok (.iinc 1 1, 3) := by decide +kernel
theorem dX4_landingAt_21 : decode cX4_landingAt 21 = .ok (.goto (-19), 3) := by decide +kernel
theorem dX4_landingAt_24 : decode cX4_landingAt 24 = .ok (.iconst (-1), 1) := by decide +kernel
theorem dX4_landingAt_25 : decode cX4_landingAt 25 = .ok (.ireturn, 1) := by decide +kernel
theorem dX5_init_0 : decode cX5_init 0 = .ok (.aload_n 0, 1) := by decide +kernel
theorem dX5_init_1 : decode cX5_init 1 = .ok (.invokespecial 1, 3) := by decide +kernel
theorem dX5_init_4 : decode cX5_init 4 = .ok (.aload_n 0, 1) := by decide +kernel
theorem dX5_init_5 : decode cX5_init 5 = .ok (.bipush 20, 2) := by decide +kernel
theorem dX5_init_7 : decode cX5_init 7 = .ok (.putfield 7, 3) := by decide +kernel
theorem dX5_init_10 : decode cX5_init 10 = .ok (.aload_n 0, 1) := by decide +kernel
theorem dX5_init_11 : decode cX5_init 11 = .ok (.bipush 100, 2) := by decide +kernel
theorem dX5_init_13 : decode cX5_init 13 = .ok (.putfield 13, 3) := by decide +kernel
theorem dX5_init_16 : decode cX5_init 16 = .ok (.aload_n 0, 1) := by decide +kernel
theorem dX5_init_17 : decode cX5_init 17 = .ok (.bipush 64, 2) := by decide +kernel
theorem dX5_init_19 : decode cX5_init 19 = .ok (.newarray .int, 2) := by decide +kernel
theorem dX5_init_21 : decode cX5_init 21 = .ok (.putfield 16, 3) := by decide +kernel
theorem dX5_init_24 : decode cX5_init 24 = .ok (.aload_n 0, 1) := by decide +kernel
theorem dX5_init_25 : decode cX5_init 25 = .ok (.bipush 15, 2) := by decide +kernel
theorem dX5_init_27 : decode cX5_init 27 = .ok (.newarray .int, 2) := by decide +kernel
theorem dX5_init_29 : decode cX5_init 29 = .ok (.putfield 20, 3) := by decide +kernel
theorem dX5_init_32 : decode cX5_init 32 = .ok (.aload_n 0, 1) := by decide +kernel
theorem dX5_init_33 : decode cX5_init 33 = .ok (.iconst 3, 1) := by decide +kernel
theorem dX5_init_34 : decode cX5_init 34 = .ok (.newarray .int, 2) := by decide +kernel
theorem dX5_init_36 : decode cX5_init 36 = .ok (.putfield 23, 3) := by decide +kernel
theorem dX5_init_39 : decode cX5_init 39 = .ok (.aload_n 0, 1) := by decide +kernel
theorem dX5_init_40 : decode cX5_init 40 = .ok (.bipush 64, 2) := by decide +kernel
theorem dX5_init_42 : decode cX5_init 42 = .ok (.newarray .int, 2) := by decide +kernel
theorem dX5_init_44 : decode cX5_init 44 = .ok (.putfield 26, 3) := by decide +kernel
theorem dX5_init_47 : decode cX5_init 47 = .ok (.aload_n 0, 1) := by decide +kernel
theorem dX5_init_48 : decode cX5_init 48 = .ok (.bipush 15, 2) := by decide +kernel
theorem dX5_init_50 : decode cX5_init 50 = .ok (.newarray .int, 2) := by decide +kernel
theorem dX5_init_52 : decode cX5_init 52 = .ok (.putfield 29, 3) := by decide +kernel
theorem dX5_init_55 : decode cX5_init 55 = .ok (.aload_n 0, 1) := by decide +kernel
theorem dX5_init_56 : decode cX5_init 56 = .ok (.iconst 3, 1) := by decide +kernel
theorem dX5_init_57 : decode cX5_init 57 = .ok (.newarray .int, 2) := by decide +kernel
theorem dX5_init_59 : decode cX5_init 59 = .ok (.putfield 32, 3) := by decide +kernel
theorem dX5_init_62 : decode cX5_init 62 = .ok (.aload_n 0, 1) := by decide +kernel
theorem dX5_init_63 : decode cX5_init 63 = .ok (.bipush 8, 2) := by decide +kernel
theorem dX5_init_65 : decode cX5_init 65 = .ok (.newarray .int, 2) := by decide +kernel
theorem dX5_init_67 : decode cX5_init 67 = .ok (.putfield 35, 3) := by decide +kernel
theorem dX5_init_70 : decode cX5_init 70 = .ok (.return_, 1) := by decide +kernel
theorem dX5_thrown_0 : decode cX5_thrown 0 = .ok (.aload_n 0, 1) := by decide +kernel
theorem dX5_thrown_1 : decode cX5_thrown 1 = .ok (.getfield 38, 3) := by decide +kernel
theorem dX5_thrown_4 : decode cX5_thrown 4 = .ok (.ireturn, 1) := by decide +kernel
theorem dX5_no_0 : decode cX5_no 0 = .ok (.aload_n 0, 1) := by decide +kernel
theorem dX5_no_1 : decode cX5_no 1 = .ok (.iload_n 1, 1) := by decide +kernel
theorem dX5_no_2 : decode cX5_no 2 = .ok (.putfield 38, 3) := by decide +kernel
theorem dX5_no_5 : decode cX5_no 5 = .ok (.iconst 0, 1) := by decide +kernel
theorem dX5_no_6 : decode cX5_no 6 = .ok (.ireturn, 1) := by decide +kernel
theorem dX5_isIn_0 : decode cX5_isIn 0 = .ok (.iload_n 0, 1) := by decide +kernel
theorem dX5_isIn_1 : decode cX5_isIn 1 = .ok (.iload_n 1, 1) := by decide +kernel
theorem dX5_isIn_2 : decode cX5_isIn 2 = .ok (.if_icmp .lt 12, 3) := by decide +kernel
theorem dX5_isIn_5 : decode cX5_isIn 5 = .ok (.iload_n 0, 1) := by decide +kernel
theorem dX5_isIn_6 : decode cX5_isIn 6 = .ok (.iload_n 2, 1) := by decide +kernel
theorem dX5_isIn_7 : decode cX5_isIn 7 = .ok (.if_icmp .gt 7, 3) := by decide +kernel
theorem dX5_isIn_10 : decode cX5_isIn 10 = .ok (.iconst 1, 1) := by decide +kernel
theorem dX5_isIn_11 : decode cX5_isIn 11 = .ok (.goto 4, 3) := by decide +kernel
theorem dX5_isIn_14 : decode cX5_isIn 14 = .ok (.iconst 0, 1) := by decide +kernel
theorem dX5_isIn_15 : decode cX5_isIn 15 = .ok (.ireturn, 1) := by decide +kernel
set_option maxRecDepth 20000 in
theorem ggX5_isBed_X5_isIn : GoodIn wsX5_isBed wsX5_isIn := goodIn_r _ [5] (by decide +kernel) (by decide +kernel)
set_option maxRecDepth 20000 in
theorem gX5_isBed_X5_isIn : GoodIn wsX5_isBed (va_wsS RX5 44 yX5_isIn wsX5_isIn) := goodIn_app (goodIn_of _ (by decide +kernel)) ggX5_isBed_X5_isIn
theorem dX5_isBed_0 : decode cX5_isBed 0 = .ok (.iload_n 1, 1) := by decide +kernel
theorem dX5_isBed_1 : decode cX5_isBed 1 = .ok (.iconst 0, 1) := by decide +kernel
theorem dX5_isBed_2 : decode cX5_isBed 2 = .ok (.aload_n 0, 1) := by decide +kernel
theorem dX5_isBed_3 : decode cX5_isBed 3 = .ok (.getfield 41, 3) := by decide +kernel
theorem dX5_isBed_6 : decode cX5_isBed 6 = .ok (.iconst 1, 1) := by decide +kernel
theorem dX5_isBed_7 : decode cX5_isBed 7 = .ok (.isub, 1) := by decide +kernel
theorem dX5_isBed_8 : decode cX5_isBed 8 = .ok (.invokestatic 44, 3) := by decide +kernel
theorem dX5_isBed_11 : decode cX5_isBed 11 = .ok (.ireturn, 1) := by decide +kernel
set_option maxRecDepth 20000 in
theorem ggX5_isBarge_X5_isIn : GoodIn wsX5_isBarge wsX5_isIn := goodIn_r _ [5] (by decide +kernel) (by decide +kernel)
set_option maxRecDepth 20000 in
theorem gX5_isBarge_X5_isIn : GoodIn wsX5_isBarge (va_wsS RX5 44 yX5_isIn wsX5_isIn) := goodIn_app (goodIn_of _ (by decide +kernel)) ggX5_isBarge_X5_isIn
theorem dX5_isBarge_0 : decode cX5_isBarge 0 = .ok (.iload_n 1, 1) := by decide +kernel
theorem dX5_isBarge_1 : decode cX5_isBarge 1 = .ok (.iconst 0, 1) := by decide +kernel
theorem dX5_isBarge_2 : decode cX5_isBarge 2 = .ok (.aload_n 0, 1) := by decide +kernel
theorem dX5_isBarge_3 : decode cX5_isBarge 3 = .ok (.getfield 48, 3) := by decide +kernel
theorem dX5_isBarge_6 : decode cX5_isBarge 6 = .ok (.iconst 1, 1) := by decide +kernel
theorem dX5_isBarge_7 : decode cX5_isBarge 7 = .ok (.isub, 1) := by decide +kernel
theorem dX5_isBarge_8 : decode cX5_isBarge 8 = .ok (.invokestatic 44, 3) := by decide +kernel
theorem dX5_isBarge_11 : decode cX5_isBarge 11 = .ok (.ireturn, 1) := by decide +kernel
theorem dX5_gives_0 : decode cX5_gives 0 = .ok (.iconst 3, 1) := by decide +kernel
theorem dX5_gives_1 : decode cX5_gives 1 = .ok (.aload_n 0, 1) := by decide +kernel
theorem dX5_gives_2 : decode cX5_gives 2 = .ok (.iload_n 1, 1) := by decide +kernel
theorem dX5_gives_3 : decode cX5_gives 3 = .ok (.iconst 1, 1) := by decide +kernel
theorem dX5_gives_4 : decode cX5_gives 4 = .ok (.iadd, 1) := by decide +kernel
theorem dX5_gives_5 : decode cX5_gives 5 = .ok (.iaload, 1) := by decide +kernel
theorem dX5_gives_6 : decode cX5_gives 6 = .ok (.imul, 1) := by decide +kernel
theorem dX5_gives_7 : decode cX5_gives 7 = .ok (.getstatic 51, 3) := by decide +kernel
theorem dX5_gives_10 : decode cX5_gives 10 = .ok (.aload_n 0, 1) := by decide +kernel
theorem dX5_gives_11 : decode cX5_gives 11 = .ok (.iload_n 1, 1) := by decide +kernel
theorem dX5_gives_12 : decode cX5_gives 12 = .ok (.iconst 2, 1) := by decide +kernel
theorem dX5_gives_13 : decode cX5_gives 13 = .ok (.iadd, 1) := by decide +kernel
theorem dX5_gives_14 : decode cX5_gives 14 = .ok (.iaload, 1) := by decide +kernel
theorem dX5_gives_15 : decode cX5_gives 15 = .ok (.iaload, 1) := by decide +kernel
theorem dX5_gives_16 : decode cX5_gives 16 = .ok (.imul, 1) := by decide +kernel
theorem dX5_gives_17 : decode cX5_gives 17 = .ok (.ireturn, 1) := by decide +kernel
set_option maxRecDepth 20000 in
theorem ggX5_givesSedge_X5_gives : GoodIn wsX5_givesSedge wsX5_gives := goodIn_r _ [4, 5] (by decide +kernel) (by decide +kernel)
set_option maxRecDepth 20000 in
theorem gX5_givesSedge_X5_gives : GoodIn wsX5_givesSedge (va_wsS RX5 54 yX5_gives wsX5_gives) := goodIn_app (goodIn_of _ (by decide +kernel)) ggX5_givesSedge_X5_gives
theorem dX5_givesSedge_0 : decode cX5_givesSedge 0 = .ok (.aload_n 0, 1) := by decide +kernel
theorem dX5_givesSedge_1 : decode cX5_givesSedge 1 = .ok (.iload_n 1, 1) := by decide +kernel
theorem dX5_givesSedge_2 : decode cX5_givesSedge 2 = .ok (.invokestatic 54, 3) := by decide +kernel
theorem dX5_givesSedge_5 : decode cX5_givesSedge 5 = .ok (.aload_n 0, 1) := by decide +kernel
theorem dX5_givesSedge_6 : decode cX5_givesSedge 6 = .ok (.iload_n 1, 1) := by decide +kernel
theorem dX5_givesSedge_7 : decode cX5_givesSedge 7 = .ok (.iconst 3, 1) := by decide +kernel
theorem dX5_givesSedge_8 : decode cX5_givesSedge 8 = .ok (.iadd, 1) := by decide +kernel
theorem dX5_givesSedge_9 : decode cX5_givesSedge 9 = .ok (.iaload, 1) := by decide +kernel
theorem dX5_givesSedge_10 : decode cX5_givesSedge 10 = .ok (.imul, 1) := by decide +kernel
theorem dX5_givesSedge_11 : decode cX5_givesSedge 11 = .ok (.bipush 100, 2) := by decide +kernel
theorem dX5_givesSedge_13 : decode cX5_givesSedge 13 = .ok (.idiv, 1) := by decide +kernel
theorem dX5_givesSedge_14 : decode cX5_givesSedge 14 = .ok (.ireturn, 1) := by decide +kernel
set_option maxRecDepth 20000 in
theorem ggX5_bed_X5_isIn : GoodIn wsX5_bed wsX5_isIn := goodIn_r _ [7] (by decide +kernel) (by decide +kernel)
set_option maxRecDepth 20000 in
theorem gX5_bed_X5_isIn : GoodIn wsX5_bed (va_wsS RX5 44 yX5_isIn wsX5_isIn) := goodIn_app (goodIn_of _ (by decide +kernel)) ggX5_bed_X5_isIn
set_option maxRecDepth 20000 in
theorem ggX5_bed_X5_no : GoodIn wsX5_bed wsX5_no := goodIn_r _ [11, 1, 12, 13, 14, 15, 16, 17, 18, 19, 20, 21, 22, 23, 24, 25] (by decide +kernel) (by decide +kernel)
set_option maxRecDepth 20000 in
theorem gX5_bed_X5_no : GoodIn wsX5_bed (wsV RX5 58 RX5 yX5_no wsX5_no) := goodIn_app (goodIn_of _ (by decide +kernel)) ggX5_bed_X5_no
theorem dX5_bed_0 : decode cX5_bed 0 = .ok (.aload_n 0, 1) := by decide +kernel
theorem dX5_bed_1 : decode cX5_bed 1 = .ok (.iconst 0, 1) := by decide +kernel
theorem dX5_bed_2 : decode cX5_bed 2 = .ok (.putfield 38, 3) := by decide +kernel
theorem dX5_bed_5 : decode cX5_bed 5 = .ok (.iload_n 1, 1) := by decide +kernel
theorem dX5_bed_6 : decode cX5_bed 6 = .ok (.iconst 0, 1) := by decide +kernel
theorem dX5_bed_7 : decode cX5_bed 7 = .ok (.bipush 30, 2) := by decide +kernel
theorem dX5_bed_9 : decode cX5_bed 9 = .ok (.invokestatic 44, 3) := by decide +kernel
theorem dX5_bed_12 : decode cX5_bed 12 = .ok (.ifCond .ne 9, 3) := by decide +kernel
theorem dX5_bed_15 : decode cX5_bed 15 = .ok (.aload_n 0, 1) := by decide +kernel
theorem dX5_bed_16 : decode cX5_bed 16 = .ok (.iconst 1, 1) := by decide +kernel
theorem dX5_bed_17 : decode cX5_bed 17 = .ok (.invokevirtual 58, 3) := by decide +kernel
theorem dX5_bed_20 : decode cX5_bed 20 = .ok (.ireturn, 1) := by decide +kernel
theorem dX5_bed_21 : decode cX5_bed 21 = .ok (.iload_n 2, 1) := by decide +kernel
theorem dX5_bed_22 : decode cX5_bed 22 = .ok (.iconst 1, 1) := by decide +kernel
theorem dX5_bed_23 : decode cX5_bed 23 = .ok (.bipush 9, 2) := by decide +kernel
theorem dX5_bed_25 : decode cX5_bed 25 = .ok (.invokestatic 44, 3) := by decide +kernel
theorem dX5_bed_28 : decode cX5_bed 28 = .ok (.ifCond .eq 13, 3) := by decide +kernel
theorem dX5_bed_31 : decode cX5_bed 31 = .ok (.iload_n 3, 1) := by decide +kernel
theorem dX5_bed_32 : decode cX5_bed 32 = .ok (.iconst 0, 1) := by decide +kernel
theorem dX5_bed_33 : decode cX5_bed 33 = .ok (.bipush 100, 2) := by decide +kernel
theorem dX5_bed_35 : decode cX5_bed 35 = .ok (.invokestatic 44, 3) := by decide +kernel
theorem dX5_bed_38 : decode cX5_bed 38 = .ok (.ifCond .ne 9, 3) := by decide +kernel
theorem dX5_bed_41 : decode cX5_bed 41 = .ok (.aload_n 0, 1) := by decide +kernel
theorem dX5_bed_42 : decode cX5_bed 42 = .ok (.iconst 2, 1) := by decide +kernel
theorem dX5_bed_43 : decode cX5_bed 43 = .ok (.invokevirtual 58, 3) := by decide +kernel
theorem dX5_bed_46 : decode cX5_bed 46 = .ok (.ireturn, 1) := by decide +kernel
theorem dX5_bed_47 : decode cX5_bed 47 = .ok (.aload_n 0, 1) := by decide +kernel
theorem dX5_bed_48 : decode cX5_bed 48 = .ok (.getfield 41, 3) := by decide +kernel
theorem dX5_bed_51 : decode cX5_bed 51 = .ok (.bipush 8, 2) := by decide +kernel
theorem dX5_bed_53 : decode cX5_bed 53 = .ok (.if_icmp .ne 9, 3) := by decide +kernel
theorem dX5_bed_56 : decode cX5_bed 56 = .ok (.aload_n 0, 1) := by decide +kernel
theorem dX5_bed_57 : decode cX5_bed 57 = .ok (.iconst 3, 1) := by decide +kernel
theorem dX5_bed_58 : decode cX5_bed 58 = .ok (.invokevirtual 58, 3) := by decide +kernel
theorem dX5_bed_61 : decode cX5_bed 61 = .ok (.ireturn, 1) := by decide +kernel
theorem dX5_bed_62 : decode cX5_bed 62 = .ok (.bipush 8, 2) := by decide +kernel
theorem dX5_bed_64 : decode cX5_bed 64 = .ok (.aload_n 0, 1) := by decide +kernel
theorem dX5_bed_65 : decode cX5_bed 65 = .ok (.getfield 41, 3) := by decide +kernel
theorem dX5_bed_68 : decode cX5_bed 68 = .ok (.imul, 1) := by decide +kernel
theorem dX5_bed_69 : decode cX5_bed 69 = .ok (.istore 4, 2) := by decide +kernel
theorem dX5_bed_71 : decode cX5_bed 71 = .ok (.aload_n 0, 1) := by decide +kernel
theorem dX5_bed_72 : decode cX5_bed 72 = .ok (.getfield 16, 3) := by decide +kernel
theorem dX5_bed_75 : decode cX5_bed 75 = .ok (.iload 4, 2) := by decide +kernel
theorem dX5_bed_77 : decode cX5_bed 77 = .ok (.iconst 0, 1) := by decide +kernel
theorem dX5_bed_78 : decode cX5_bed 78 = .ok (.iadd, 1) := by decide +kernel
theorem dX5_bed_79 : decode cX5_bed 79 = .ok (.iload_n 1, 1) := by decide +kernel
theorem dX5_bed_80 : decode cX5_bed 80 = .ok (.iastore, 1) := by decide +kernel
theorem dX5_bed_81 : decode cX5_bed 81 = .ok (.aload_n 0, 1) := by decide +kernel
theorem dX5_bed_82 : decode cX5_bed 82 = .ok (.getfield 16, 3) := by decide +kernel
theorem dX5_bed_85 : decode cX5_bed 85 = .ok (.iload 4, 2) := by decide +kernel
theorem dX5_bed_87 : decode cX5_bed 87 = .ok (.iconst 1, 1) := by decide +kernel
theorem dX5_bed_88 : decode cX5_bed 88 = .ok (.iadd, 1) := by decide +kernel
theorem dX5_bed_89 : decode cX5_bed 89 = .ok (.iload_n 2, 1) := by decide +kernel
theorem dX5_bed_90 : decode cX5_bed 90 = .ok (.iastore, 1) := by decide +kernel
theorem dX5_bed_91 : decode cX5_bed 91 = .ok (.aload_n 0, 1) := by decide +kernel
theorem dX5_bed_92 : decode cX5_bed 92 = .ok (.getfield 16, 3) := by decide +kernel
theorem dX5_bed_95 : decode cX5_bed 95 = .ok (.iload 4, 2) := by decide +kernel
theorem dX5_bed_97 : decode cX5_bed 97 = .ok (.iconst 2, 1) := by decide +kernel
theorem dX5_bed_98 : decode cX5_bed 98 = .ok (.iadd, 1) := by decide +kernel
theorem dX5_bed_99 : decode cX5_bed 99 = .ok (.iconst 3, 1) := by decide +kernel
theorem dX5_bed_100 : decode cX5_bed 100 = .ok (.iastore, 1) := by decide +kernel
theorem dX5_bed_101 : decode cX5_bed 101 = .ok (.aload_n 0, 1) := by decide +kernel
theorem dX5_bed_102 : decode cX5_bed 102 = .ok (.getfield 16, 3) := by decide +kernel
theorem dX5_bed_105 : decode cX5_bed 105 = .ok (.iload 4, 2) := by decide +kernel
theorem dX5_bed_107 : decode cX5_bed 107 = .ok (.iconst 3, 1) := by decide +kernel
theorem dX5_bed_108 : decode cX5_bed 108 = .ok (.iadd, 1) := by decide +kernel
theorem dX5_bed_109 : decode cX5_bed 109 = .ok (.iload_n 3, 1) := by decide +kernel
theorem dX5_bed_110 : decode cX5_bed 110 = .ok (.iastore, 1) := by decide +kernel
theorem dX5_bed_111 : decode cX5_bed 111 = .ok (.aload_n 0, 1) := by decide +kernel
theorem dX5_bed_112 : decode cX5_bed 112 = .ok (.dup, 1) := by decide +kernel
theorem dX5_bed_113 : decode cX5_bed 113 = .ok (.getfield 41, 3) := by decide +kernel
theorem dX5_bed_116 : decode cX5_bed 116 = .ok (.iconst 1, 1) := by decide +kernel
theorem dX5_bed_117 : decode cX5_bed 117 = .ok (.iadd, 1) := by decide +kernel
theorem dX5_bed_118 : decode cX5_bed 118 = .ok (.putfield 41, 3) := by decide +kernel
theorem dX5_bed_121 : decode cX5_bed 121 = .ok (.aload_n 0, 1) := by decide +kernel
theorem dX5_bed_122 : decode cX5_bed 122 = .ok (.getfield 41, 3) := by decide +kernel
theorem dX5_bed_125 : decode cX5_bed 125 = .ok (.iconst 1, 1) := by decide +kernel
theorem dX5_bed_126 : decode cX5_bed 126 = .ok (.isub, 1) := by decide +kernel
theorem dX5_bed_127 : decode cX5_bed 127 = .ok (.ireturn, 1) := by decide +kernel
set_option maxRecDepth 20000 in
theorem ggX5_cut_X5_isBed : GoodIn wsX5_cut wsX5_isBed := goodIn_r _ [7, 8, 9, 10, 6, 11, 23, 24, 25, 26, 27, 28, 29, 30, 31, 32, 33, 34, 35, 36] (by decide +kernel) (by decide +kernel)
set_option maxRecDepth 20000 in
theorem gX5_cut_X5_isBed : GoodIn wsX5_cut (wsV RX5 62 RX5 yX5_isBed wsX5_isBed) := goodIn_app (goodIn_of _ (by decide +kernel)) ggX5_cut_X5_isBed
set_option maxRecDepth 20000 in
theorem ggX5_cut_X5_no : GoodIn wsX5_cut wsX5_no := goodIn_r _ [15, 1, 23, 24, 25, 26, 27, 28, 29, 30, 31, 32, 33, 34, 35, 36] (by decide +kernel) (by decide +kernel)
set_option maxRecDepth 20000 in
theorem gX5_cut_X5_no : GoodIn wsX5_cut (wsV RX5 58 RX5 yX5_no wsX5_no) := goodIn_app (goodIn_of _ (by decide +kernel)) ggX5_cut_X5_no
set_option maxRecDepth 20000 in
theorem ggX5_cut_X5_gives : GoodIn wsX5_cut wsX5_gives := goodIn_r _ [18, 19] (by decide +kernel) (by decide +kernel)
set_option maxRecDepth 20000 in
theorem gX5_cut_X5_gives : GoodIn wsX5_cut (va_wsS RX5 54 yX5_gives wsX5_gives) := goodIn_app (goodIn_of _ (by decide +kernel)) ggX5_cut_X5_gives
set_option maxRecDepth 20000 in
theorem ggX5_cut_X5_givesSedge : GoodIn wsX5_cut wsX5_givesSedge := goodIn_r _ [22, 16, 17, 6, 18, 19] (by decide +kernel) (by decide +kernel)
set_option maxRecDepth 20000 in
theorem gX5_cut_X5_givesSedge : GoodIn wsX5_cut (va_wsS RX5 66 yX5_givesSedge wsX5_givesSedge) := goodIn_app (goodIn_of _ (by decide +kernel)) ggX5_cut_X5_givesSedge
theorem dX5_cut_0 : decode cX5_cut 0 = .ok (.aload_n 0, 1) := by decide +kernel
theorem dX5_cut_1 : decode cX5_cut 1 = .ok (.iconst 0, 1) := by decide +kernel
theorem dX5_cut_2 : decode cX5_cut 2 = .ok (.putfield 38, 3) := by decide +kernel
theorem dX5_cut_5 : decode cX5_cut 5 = .ok (.aload_n 0, 1) := by decide +kernel
theorem dX5_cut_6 : decode cX5_cut 6 = .ok (.iload_n 1, 1) := by decide +kernel
theorem dX5_cut_7 : decode cX5_cut 7 = .ok (.invokevirtual 62, 3) := by decide +kernel
theorem dX5_cut_10 : decode cX5_cut 10 = .ok (.ifCond .ne 9, 3) := by decide +kernel
theorem dX5_cut_13 : decode cX5_cut 13 = .ok (.aload_n 0, 1) := by decide +kernel
theorem dX5_cut_14 : decode cX5_cut 14 = .ok (.iconst 1, 1) := by decide +kernel
theorem dX5_cut_15 : decode cX5_cut 15 = .ok (.invokevirtual 58, 3) := by decide +kernel
theorem dX5_cut_18 : decode cX5_cut 18 = .ok (.ireturn, 1) := by decide +kernel
theorem dX5_cut_19 : decode cX5_cut 19 = .ok (.bipush 8, 2) := by decide +kernel
theorem dX5_cut_21 : decode cX5_cut 21 = .ok (.iload_n 1, 1) := by decide +kernel
theorem dX5_cut_22 : decode cX5_cut 22 = .ok (.imul, 1) := by decide +kernel
theorem dX5_cut_23 : decode cX5_cut 23 = .ok (.istore_n 2, 1) := by decide +kernel
theorem dX5_cut_24 : decode cX5_cut 24 = .ok (.aload_n 0, 1) := by decide +kernel
theorem dX5_cut_25 : decode cX5_cut 25 = .ok (.getfield 16, 3) := by decide +kernel
theorem dX5_cut_28 : decode cX5_cut 28 = .ok (.iload_n 2, 1) := by decide +kernel
theorem dX5_cut_29 : decode cX5_cut 29 = .ok (.iconst 2, 1) := by decide +kernel
theorem dX5_cut_30 : decode cX5_cut 30 = .ok (.iadd, 1) := by decide +kernel
theorem dX5_cut_31 : decode cX5_cut 31 = .ok (.iaload, 1) := by decide +kernel
theorem dX5_cut_32 : decode cX5_cut 32 = .ok (.ifCond .ne 9, 3) := by decide +kernel
theorem dX5_cut_35 : decode cX5_cut 35 = .ok (.aload_n 0, 1) := by decide +kernel
theorem dX5_cut_36 : decode cX5_cut 36 = .ok (.iconst 2, 1) := by decide +kernel
theorem dX5_cut_37 : decode cX5_cut 37 = .ok (.invokevirtual 58, 3) := by decide +kernel
theorem dX5_cut_40 : decode cX5_cut 40 = .ok (.ireturn, 1) := by decide +kernel
theorem dX5_cut_41 : decode cX5_cut 41 = .ok (.aload_n 0, 1) := by decide +kernel
theorem dX5_cut_42 : decode cX5_cut 42 = .ok (.getfield 16, 3) := by decide +kernel
theorem dX5_cut_45 : decode cX5_cut 45 = .ok (.iload_n 2, 1) := by decide +kernel
theorem dX5_cut_46 : decode cX5_cut 46 = .ok (.invokestatic 54, 3) := by decide +kernel
theorem dX5_cut_49 : decode cX5_cut 49 = .ok (.istore_n 3, 1) := by decide +kernel
theorem dX5_cut_50 : decode cX5_cut 50 = .ok (.aload_n 0, 1) := by decide +kernel
theorem dX5_cut_51 : decode cX5_cut 51 = .ok (.getfield 16, 3) := by decide +kernel
theorem dX5_cut_54 : decode cX5_cut 54 = .ok (.iload_n 2, 1) := by decide +kernel
theorem dX5_cut_55 : decode cX5_cut 55 = .ok (.invokestatic 66, 3) := by decide +kernel
theorem dX5_cut_58 : decode cX5_cut 58 = .ok (.istore 4, 2) := by decide +kernel
theorem dX5_cut_60 : decode cX5_cut 60 = .ok (.aload_n 0, 1) := by decide +kernel
theorem dX5_cut_61 : decode cX5_cut 61 = .ok (.getfield 16, 3) := by decide +kernel
theorem dX5_cut_64 : decode cX5_cut 64 = .ok (.iload_n 2, 1) := by decide +kernel
theorem dX5_cut_65 : decode cX5_cut 65 = .ok (.iconst 4, 1) := by decide +kernel
theorem dX5_cut_66 : decode cX5_cut 66 = .ok (.iadd, 1) := by decide +kernel
theorem dX5_cut_67 : decode cX5_cut 67 = .ok (.dup2, 1) := by decide +kernel
theorem dX5_cut_68 : decode cX5_cut 68 = .ok (.iaload, 1) := by decide +kernel
theorem dX5_cut_69 : decode cX5_cut 69 = .ok (.iload 4, 2) := by decide +kernel
theorem dX5_cut_71 : decode cX5_cut 71 = .ok (.iadd, 1) := by decide +kernel
theorem dX5_cut_72 : decode cX5_cut 72 = .ok (.iastore, 1) := by decide +kernel
theorem dX5_cut_73 : decode cX5_cut 73 = .ok (.aload_n 0, 1) := by decide +kernel
theorem dX5_cut_74 : decode cX5_cut 74 = .ok (.getfield 16, 3) := by decide +kernel
theorem dX5_cut_77 : decode cX5_cut 77 = .ok (.iload_n 2, 1) := by decide +kernel
theorem dX5_cut_78 : decode cX5_cut 78 = .ok (.iconst 4, 1) := by decide +kernel
theorem dX5_cut_79 : decode cX5_cut 79 = .ok (.iadd, 1) := by decide +kernel
theorem dX5_cut_80 : decode cX5_cut 80 = .ok (.iconst 1, 1) := by decide +kernel
theorem dX5_cut_81 : decode cX5_cut 81 = .ok (.iadd, 1) := by decide +kernel
theorem dX5_cut_82 : decode cX5_cut 82 = .ok (.dup2, 1) := by decide +kernel
theorem dX5_cut_83 : decode cX5_cut 83 = .ok (.iaload, 1) := by decide +kernel
theorem dX5_cut_84 : decode cX5_cut 84 = .ok (.iload_n 3, 1) := by decide +kernel
theorem dX5_cut_85 : decode cX5_cut 85 = .ok (.iload 4, 2) := by decide +kernel
theorem dX5_cut_87 : decode cX5_cut 87 = .ok (.isub, 1) := by decide +kernel
theorem dX5_cut_88 : decode cX5_cut 88 = .ok (.iadd, 1) := by decide +kernel
theorem dX5_cut_89 : decode cX5_cut 89 = .ok (.iastore, 1) := by decide +kernel
theorem dX5_cut_90 : decode cX5_cut 90 = .ok (.aload_n 0, 1) := by decide +kernel
theorem dX5_cut_91 : decode cX5_cut 91 = .ok (.getfield 16, 3) := by decide +kernel
theorem dX5_cut_94 : decode cX5_cut 94 = .ok (.iload_n 2, 1) := by decide +kernel
theorem dX5_cut_95 : decode cX5_cut 95 = .ok (.iconst 2, 1) := by decide +kernel
theorem dX5_cut_96 : decode cX5_cut 96 = .ok (.iadd, 1) := by decide +kernel
theorem dX5_cut_97 : decode cX5_cut 97 = .ok (.iconst 0, 1) := by decide +kernel
theorem dX5_cut_98 : decode cX5_cut 98 = .ok (.iastore, 1) := by decide +kernel
theorem dX5_cut_99 : decode cX5_cut 99 = .ok (.iload_n 3, 1) := by decide +kernel
theorem dX5_cut_100 : decode cX5_cut 100 = .ok (.ireturn, 1) := by decide +kernel
set_option maxRecDepth 20000 in
theorem ggX5_tie_X5_isBed : GoodIn wsX5_tie wsX5_isBed := goodIn_r _ [6, 7, 8, 9, 5, 10, 25, 26, 27, 28, 29, 30, 31, 32, 33, 34, 35, 36, 37, 38] (by decide +kernel) (by decide +kernel)
set_option maxRecDepth 20000 in
theorem gX5_tie_X5_isBed : GoodIn wsX5_tie (wsV RX5 62 RX5 yX5_isBed wsX5_isBed) := goodIn_app (goodIn_of _ (by decide +kernel)) ggX5_tie_X5_isBed
set_option maxRecDepth 20000 in
theorem ggX5_tie_X5_tieOf : GoodIn wsX5_tie wsX5_tieOf := goodIn_r _ [14, 15, 16, 17, 18, 19, 20, 25, 26, 27, 28, 29, 30, 31, 32, 33, 34, 35, 36, 37, 38] (by decide +kernel) (by decide +kernel)
set_option maxRecDepth 20000 in
theorem gX5_tie_X5_tieOf : GoodIn wsX5_tie (wsV RX5 69 RX5 yX5_tieOf wsX5_tieOf) := goodIn_app (goodIn_of _ (by decide +kernel)) ggX5_tie_X5_tieOf
set_option maxRecDepth 20000 in
theorem ggX5_tie_X5_no : GoodIn wsX5_tie wsX5_no := goodIn_r _ [24, 1, 25, 26, 27, 28, 29, 30, 31, 32, 33, 34, 35, 36, 37, 38] (by decide +kernel) (by decide +kernel)
set_option maxRecDepth 20000 in
theorem gX5_tie_X5_no : GoodIn wsX5_tie (wsV RX5 58 RX5 yX5_no wsX5_no) := goodIn_app (goodIn_of _ (by decide +kernel)) ggX5_tie_X5_no
theorem dX5_tie_0 : decode cX5_tie 0 = .ok (.aload_n 0, 1) := by decide +kernel
theorem dX5_tie_1 : decode cX5_tie 1 = .ok (.iconst 0, 1) := by decide +kernel
theorem dX5_tie_2 : decode cX5_tie 2 = .ok (.putfield 38, 3) := by decide +kernel
theorem dX5_tie_5 : decode cX5_tie 5 = .ok (.aload_n 0, 1) := by decide +kernel
theorem dX5_tie_6 : decode cX5_tie 6 = .ok (.iload_n 1, 1) := by decide +kernel
theorem dX5_tie_7 : decode cX5_tie 7 = .ok (.invokevirtual 62, 3) := by decide +kernel
theorem dX5_tie_10 : decode cX5_tie 10 = .ok (.ifCond .eq 25, 3) := by decide +kernel
theorem dX5_tie_13 : decode cX5_tie 13 = .ok (.aload_n 0, 1) := by decide +kernel
theorem dX5_tie_14 : decode cX5_tie 14 = .ok (.bipush 8, 2) := by decide +kernel
theorem dX5_tie_16 : decode cX5_tie 16 = .ok (.iload_n 1, 1) := by decide +kernel
theorem dX5_tie_17 : decode cX5_tie 17 = .ok (.imul, 1) := by decide +kernel
theorem dX5_tie_18 : decode cX5_tie 18 = .ok (.iconst 0, 1) := by decide +kernel
theorem dX5_tie_19 : decode cX5_tie 19 = .ok (.invokevirtual 69, 3) := by decide +kernel
theorem dX5_tie_22 : decode cX5_tie 22 = .ok (.aload_n 0, 1) := by decide +kernel
theorem dX5_tie_23 : decode cX5_tie 23 = .ok (.bipush 8, 2) := by decide +kernel
theorem dX5_tie_25 : decode cX5_tie 25 = .ok (.iload_n 1, 1) := by decide +kernel
theorem dX5_tie_26 : decode cX5_tie 26 = .ok (.imul, 1) := by decide +kernel
theorem dX5_tie_27 : decode cX5_tie 27 = .ok (.iconst 1, 1) := by decide +kernel
theorem dX5_tie_28 : decode cX5_tie 28 = .ok (.invokevirtual 69, 3) := by decide +kernel
theorem dX5_tie_31 : decode cX5_tie 31 = .ok (.iadd, 1) := by decide +kernel
theorem dX5_tie_32 : decode cX5_tie 32 = .ok (.goto 8, 3) := by decide +kernel
theorem dX5_tie_35 : decode cX5_tie 35 = .ok (.aload_n 0, 1) := by decide +kernel
theorem dX5_tie_36 : decode cX5_tie 36 = .ok (.iconst 1, 1) := by decide +kernel
theorem dX5_tie_37 : decode cX5_tie 37 = .ok (.invokevirtual 58, 3) := by decide +kernel
theorem dX5_tie_40 : decode cX5_tie 40 = .ok (.ireturn, 1) := by decide +kernel
theorem dX5_tieOf_0 : decode cX5_tieOf 0 = .ok (.aload_n 0, 1) := by decide +kernel
theorem dX5_tieOf_1 : decode cX5_tieOf 1 = .ok (.getfield 13, 3) := by decide +kernel
theorem dX5_tieOf_4 : decode cX5_tieOf 4 = .ok (.aload_n 0, 1) := by decide +kernel
theorem dX5_tieOf_5 : decode cX5_tieOf 5 = .ok (.getfield 16, 3) := by decide +kernel
theorem dX5_tieOf_8 : decode cX5_tieOf 8 = .ok (.iload_n 1, 1) := by decide +kernel
theorem dX5_tieOf_9 : decode cX5_tieOf 9 = .ok (.iconst 4, 1) := by decide +kernel
theorem dX5_tieOf_10 : decode cX5_tieOf 10 = .ok (.iadd, 1) := by decide +kernel
theorem dX5_tieOf_11 : decode cX5_tieOf 11 = .ok (.iload_n 2, 1) := by decide +kernel
theorem dX5_tieOf_12 : decode cX5_tieOf 12 = .ok (.iadd, 1) := by decide +kernel
theorem dX5_tieOf_13 : decode cX5_tieOf 13 = .ok (.iaload, 1) := by decide +kernel
theorem dX5_tieOf_14 : decode cX5_tieOf 14 = .ok (.invokestatic 73, 3) := by decide +kernel
theorem dX5_tieOf_17 : decode cX5_tieOf 17 = .ok (.istore_n 3, 1) := by decide +kernel
theorem dX5_tieOf_18 : decode cX5_tieOf 18 = .ok (.aload_n 0, 1) := by decide +kernel
theorem dX5_tieOf_19 : decode cX5_tieOf 19 = .ok (.dup, 1) := by decide +kernel
theorem dX5_tieOf_20 : decode cX5_tieOf 20 = .ok (.getfield 13, 3) := by decide +kernel
theorem dX5_tieOf_23 : decode cX5_tieOf 23 = .ok (.iload_n 3, 1) := by decide +kernel
theorem dX5_tieOf_24 : decode cX5_tieOf 24 = .ok (.isub, 1) := by decide +kernel
theorem dX5_tieOf_25 : decode cX5_tieOf 25 = .ok (.putfield 13, 3) := by decide +kernel
theorem dX5_tieOf_28 : decode cX5_tieOf 28 = .ok (.aload_n 0, 1) := by decide +kernel
theorem dX5_tieOf_29 : decode cX5_tieOf 29 = .ok (.getfield 16, 3) := by decide +kernel
theorem dX5_tieOf_32 : decode cX5_tieOf 32 = .ok (.iload_n 1, 1) := by decide +kernel
theorem dX5_tieOf_33 : decode cX5_tieOf 33 = .ok (.iconst 4, 1) := by decide +kernel
theorem dX5_tieOf_34 : decode cX5_tieOf 34 = .ok (.iadd, 1) := by decide +kernel
theorem dX5_tieOf_35 : decode cX5_tieOf 35 = .ok (.iload_n 2, 1) := by decide +kernel
theorem dX5_tieOf_36 : decode cX5_tieOf 36 = .ok (.iadd, 1) := by decide +kernel
theorem dX5_tieOf_37 : decode cX5_tieOf 37 = .ok (.dup2, 1) := by decide +kernel
theorem dX5_tieOf_38 : decode cX5_tieOf 38 = .ok (.iaload, 1) := by decide +kernel
theorem dX5_tieOf_39 : decode cX5_tieOf 39 = .ok (.iload_n 3, 1) := by decide +kernel
theorem dX5_tieOf_40 : decode cX5_tieOf 40 = .ok (.isub, 1) := by decide +kernel
theorem dX5_tieOf_41 : decode cX5_tieOf 41 = .ok (.iastore, 1) := by decide +kernel
theorem dX5_tieOf_42 : decode cX5_tieOf 42 = .ok (.aload_n 0, 1) := by decide +kernel
theorem dX5_tieOf_43 : decode cX5_tieOf 43 = .ok (.getfield 16, 3) := by decide +kernel
theorem dX5_tieOf_46 : decode cX5_tieOf 46 = .ok (.iload_n 1, 1) := by decide +kernel
theorem dX5_tieOf_47 : decode cX5_tieOf 47 = .ok (.bipush 6, 2) := by decide +kernel
theorem dX5_tieOf_49 : decode cX5_tieOf 49 = .ok (.iadd, 1) := by decide +kernel
theorem dX5_tieOf_50 : decode cX5_tieOf 50 = .ok (.iload_n 2, 1) := by decide +kernel
theorem dX5_tieOf_51 : decode cX5_tieOf 51 = .ok (.iadd, 1) := by decide +kernel
theorem dX5_tieOf_52 : decode cX5_tieOf 52 = .ok (.dup2, 1) := by decide +kernel
theorem dX5_tieOf_53 : decode cX5_tieOf 53 = .ok (.iaload, 1) := by decide +kernel
theorem dX5_tieOf_54 : decode cX5_tieOf 54 = .ok (.iload_n 3, 1) := by decide +kernel
theorem dX5_tieOf_55 : decode cX5_tieOf 55 = .ok (.iadd, 1) := by decide +kernel
theorem dX5_tieOf_56 : decode cX5_tieOf 56 = .ok (.iastore, 1) := by decide +kernel
theorem dX5_tieOf_57 : decode cX5_tieOf 57 = .ok (.iload_n 3, 1) := by decide +kernel
theorem dX5_tieOf_58 : decode cX5_tieOf 58 = .ok (.ireturn, 1) := by decide +kernel
set_option maxRecDepth 20000 in
theorem ggX5_buy_X5_isIn : GoodIn wsX5_buy wsX5_isIn := goodIn_r _ [7] (by decide +kernel) (by decide +kernel)
set_option maxRecDepth 20000 in
theorem gX5_buy_X5_isIn : GoodIn wsX5_buy (va_wsS RX5 44 yX5_isIn wsX5_isIn) := goodIn_app (goodIn_of _ (by decide +kernel)) ggX5_buy_X5_isIn
set_option maxRecDepth 20000 in
theorem ggX5_buy_X5_no : GoodIn wsX5_buy wsX5_no := goodIn_r _ [11, 1, 12, 13, 14, 15, 16, 17, 18, 19, 20, 21, 22, 23, 24, 25] (by decide +kernel) (by decide +kernel)
set_option maxRecDepth 20000 in
theorem gX5_buy_X5_no : GoodIn wsX5_buy (wsV RX5 58 RX5 yX5_no wsX5_no) := goodIn_app (goodIn_of _ (by decide +kernel)) ggX5_buy_X5_no
theorem dX5_buy_0 : decode cX5_buy 0 = .ok (.aload_n 0, 1) := by decide +kernel
theorem dX5_buy_1 : decode cX5_buy 1 = .ok (.iconst 0, 1) := by decide +kernel
theorem dX5_buy_2 : decode cX5_buy 2 = .ok (.putfield 38, 3) := by decide +kernel
theorem dX5_buy_5 : decode cX5_buy 5 = .ok (.iload_n 1, 1) := by decide +kernel
theorem dX5_buy_6 : decode cX5_buy 6 = .ok (.iconst 1, 1) := by decide +kernel
theorem dX5_buy_7 : decode cX5_buy 7 = .ok (.sipush 500, 3) := by decide +kernel
theorem dX5_buy_10 : decode cX5_buy 10 = .ok (.invokestatic 44, 3) := by decide +kernel
theorem dX5_buy_13 : decode cX5_buy 13 = .ok (.ifCond .ne 9, 3) := by decide +kernel
theorem dX5_buy_16 : decode cX5_buy 16 = .ok (.aload_n 0, 1) := by decide +kernel
theorem dX5_buy_17 : decode cX5_buy 17 = .ok (.iconst 1, 1) := by decide +kernel
theorem dX5_buy_18 : decode cX5_buy 18 = .ok (.invokevirtual 58, 3) := by decide +kernel
theorem dX5_buy_21 : decode cX5_buy 21 = .ok (.ireturn, 1) := by decide +kernel
theorem dX5_buy_22 : decode cX5_buy 22 = .ok (.aload_n 0, 1) := by decide +kernel
theorem dX5_buy_23 : decode cX5_buy 23 = .ok (.getfield 7, 3) := by decide +kernel
theorem dX5_buy_26 : decode cX5_buy 26 = .ok (.iload_n 1, 1) := by decide +kernel
theorem dX5_buy_27 : decode cX5_buy 27 = .ok (.bipush 9, 2) := by decide +kernel
theorem dX5_buy_29 : decode cX5_buy 29 = .ok (.iadd, 1) := by decide +kernel
theorem dX5_buy_30 : decode cX5_buy 30 = .ok (.bipush 10, 2) := by decide +kernel
theorem dX5_buy_32 : decode cX5_buy 32 = .ok (.idiv, 1) := by decide +kernel
theorem dX5_buy_33 : decode cX5_buy 33 = .ok (.if_icmp .ge 9, 3) := by decide +kernel
theorem dX5_buy_36 : decode cX5_buy 36 = .ok (.aload_n 0, 1) := by decide +kernel
theorem dX5_buy_37 : decode cX5_buy 37 = .ok (.iconst 2, 1) := by decide +kernel
theorem dX5_buy_38 : decode cX5_buy 38 = .ok (.invokevirtual 58, 3) := by decide +kernel
theorem dX5_buy_41 : decode cX5_buy 41 = .ok (.ireturn, 1) := by decide +kernel
theorem dX5_buy_42 : decode cX5_buy 42 = .ok (.aload_n 0, 1) := by decide +kernel
theorem dX5_buy_43 : decode cX5_buy 43 = .ok (.dup, 1) := by decide +kernel
theorem dX5_buy_44 : decode cX5_buy 44 = .ok (.getfield 7, 3) := by decide +kernel
theorem dX5_buy_47 : decode cX5_buy 47 = .ok (.iload_n 1, 1) := by decide +kernel
theorem dX5_buy_48 : decode cX5_buy 48 = .ok (.bipush 9, 2) := by decide +kernel
theorem dX5_buy_50 : decode cX5_buy 50 = .ok (.iadd, 1) := by decide +kernel
theorem dX5_buy_51 : decode cX5_buy 51 = .ok (.bipush 10, 2) := by decide +kernel
theorem dX5_buy_53 : decode cX5_buy 53 = .ok (.idiv, 1) := by decide +kernel
theorem dX5_buy_54 : decode cX5_buy 54 = .ok (.isub, 1) := by decide +kernel
theorem dX5_buy_55 : decode cX5_buy 55 = .ok (.putfield 7, 3) := by decide +kernel
theorem dX5_buy_58 : decode cX5_buy 58 = .ok (.aload_n 0, 1) := by decide +kernel
theorem dX5_buy_59 : decode cX5_buy 59 = .ok (.dup, 1) := by decide +kernel
theorem dX5_buy_60 : decode cX5_buy 60 = .ok (.getfield 13, 3) := by decide +kernel
theorem dX5_buy_63 : decode cX5_buy 63 = .ok (.iload_n 1, 1) := by decide +kernel
theorem dX5_buy_64 : decode cX5_buy 64 = .ok (.iadd, 1) := by decide +kernel
theorem dX5_buy_65 : decode cX5_buy 65 = .ok (.putfield 13, 3) := by decide +kernel
theorem dX5_buy_68 : decode cX5_buy 68 = .ok (.aload_n 0, 1) := by decide +kernel
theorem dX5_buy_69 : decode cX5_buy 69 = .ok (.getfield 13, 3) := by decide +kernel
theorem dX5_buy_72 : decode cX5_buy 72 = .ok (.ireturn, 1) := by decide +kernel
set_option maxRecDepth 20000 in
theorem ggX5_bedTold_X5_gives : GoodIn wsX5_bedTold wsX5_gives := goodIn_r _ [5, 6] (by decide +kernel) (by decide +kernel)
set_option maxRecDepth 20000 in
theorem gX5_bedTold_X5_gives : GoodIn wsX5_bedTold (va_wsS RX5 54 yX5_gives wsX5_gives) := goodIn_app (goodIn_of _ (by decide +kernel)) ggX5_bedTold_X5_gives
set_option maxRecDepth 20000 in
theorem ggX5_bedTold_X5_givesSedge : GoodIn wsX5_bedTold wsX5_givesSedge := goodIn_r _ [9, 2, 3, 4, 5, 6] (by decide +kernel) (by decide +kernel)
set_option maxRecDepth 20000 in
theorem gX5_bedTold_X5_givesSedge : GoodIn wsX5_bedTold (va_wsS RX5 66 yX5_givesSedge wsX5_givesSedge) := goodIn_app (goodIn_of _ (by decide +kernel)) ggX5_bedTold_X5_givesSedge
theorem dX5_bedTold_0 : decode cX5_bedTold 0 = .ok (.bipush 8, 2) := by decide +kernel
theorem dX5_bedTold_2 : decode cX5_bedTold 2 = .ok (.iload_n 1, 1) := by decide +kernel
theorem dX5_bedTold_3 : decode cX5_bedTold 3 = .ok (.imul, 1) := by decide +kernel
theorem dX5_bedTold_4 : decode cX5_bedTold 4 = .ok (.istore_n 3, 1) := by decide +kernel
theorem dX5_bedTold_5 : decode cX5_bedTold 5 = .ok (.iload_n 2, 1) := by decide +kernel
theorem dX5_bedTold_6 : decode cX5_bedTold 6 = .ok (.iconst 4, 1) := by decide +kernel
theorem dX5_bedTold_7 : decode cX5_bedTold 7 = .ok (.if_icmp .ge 14, 3) := by decide +kernel
theorem dX5_bedTold_10 : decode cX5_bedTold 10 = .ok (.aload_n 0, 1) := by decide +kernel
theorem dX5_bedTold_11 : decode cX5_bedTold 11 = .ok (.getfield 16, 3) := by decide +kernel
theorem dX5_bedTold_14 : decode cX5_bedTold 14 = .ok (.iload_n 3, 1) := by decide +kernel
theorem dX5_bedTold_15 : decode cX5_bedTold 15 = .ok (.iload_n 2, 1) := by decide +kernel
theorem dX5_bedTold_16 : decode cX5_bedTold 16 = .ok (.iadd, 1) := by decide +kernel
theorem dX5_bedTold_17 : decode cX5_bedTold 17 = .ok (.iaload, 1) := by decide +kernel
theorem dX5_bedTold_18 : decode cX5_bedTold 18 = .ok (.goto 45, 3) := by decide +kernel
theorem dX5_bedTold_21 : decode cX5_bedTold 21 = .ok (.iload_n 2, 1) := by decide +kernel
theorem dX5_bedTold_22 : decode cX5_bedTold 22 = .ok (.iconst 4, 1) := by decide +kernel
theorem dX5_bedTold_23 : decode cX5_bedTold 23 = .ok (.if_icmp .ne 14, 3) := by decide +kernel
theorem dX5_bedTold_26 : decode cX5_bedTold 26 = .ok (.aload_n 0, 1) := by decide +kernel
theorem dX5_bedTold_27 : decode cX5_bedTold 27 = .ok (.getfield 16, 3) := by decide +kernel
theorem dX5_bedTold_30 : decode cX5_bedTold 30 = .ok (.iload_n 3, 1) := by decide +kernel
theorem dX5_bedTold_31 : decode cX5_bedTold 31 = .ok (.invokestatic 54, 3) := by decide +kernel
theorem dX5_bedTold_34 : decode cX5_bedTold 34 = .ok (.goto 29, 3) := by decide +kernel
theorem dX5_bedTold_37 : decode cX5_bedTold 37 = .ok (.iload_n 2, 1) := by decide +kernel
theorem dX5_bedTold_38 : decode cX5_bedTold 38 = .ok (.iconst 5, 1) := by decide +kernel
theorem dX5_bedTold_39 : decode cX5_bedTold 39 = .ok (.if_icmp .ne 14, 3) := by decide +kernel
theorem dX5_bedTold_42 : decode cX5_bedTold 42 = .ok (.aload_n 0, 1) := by decide +kernel
theorem dX5_bedTold_43 : decode cX5_bedTold 43 = .ok (.getfield 16, 3) := by decide +kernel
theorem dX5_bedTold_46 : decode cX5_bedTold 46 = .ok (.iload_n 3, 1) := by decide +kernel
theorem dX5_bedTold_47 : decode cX5_bedTold 47 = .ok (.invokestatic 66, 3) := by decide +kernel
theorem dX5_bedTold_50 : decode cX5_bedTold 50 = .ok (.goto 13, 3) := by decide +kernel
theorem dX5_bedTold_53 : decode cX5_bedTold 53 = .ok (.aload_n 0, 1) := by decide +kernel
theorem dX5_bedTold_54 : decode cX5_bedTold 54 = .ok (.getfield 16, 3) := by decide +kernel
theorem dX5_bedTold_57 : decode cX5_bedTold 57 = .ok (.iload_n 3, 1) := by decide +kernel
theorem dX5_bedTold_58 : decode cX5_bedTold 58 = .ok (.iload_n 2, 1) := by decide +kernel
theorem dX5_bedTold_59 : decode cX5_bedTold 59 = .ok (.iadd, 1) := by decide +kernel
theorem dX5_bedTold_60 : decode cX5_bedTold 60 = .ok (.iconst 2, 1) := by decide +kernel
theorem dX5_bedTold_61 : decode cX5_bedTold 61 = .ok (.isub, 1) := by decide +kernel
theorem dX5_bedTold_62 : decode cX5_bedTold 62 = .ok (.iaload, 1) := by decide +kernel
theorem dX5_bedTold_63 : decode cX5_bedTold 63 = .ok (.ireturn, 1) := by decide +kernel
set_option maxRecDepth 20000 in
theorem ggX5_about_X5_isBed : GoodIn wsX5_about wsX5_isBed := goodIn_r _ [6, 7, 8, 9, 5, 10, 27, 28, 29, 30, 31, 32, 33, 34, 35, 36, 37, 38, 39, 40] (by decide +kernel) (by decide +kernel)
set_option maxRecDepth 20000 in
theorem gX5_about_X5_isBed : GoodIn wsX5_about (wsV RX5 62 RX5 yX5_isBed wsX5_isBed) := goodIn_app (goodIn_of _ (by decide +kernel)) ggX5_about_X5_isBed
set_option maxRecDepth 20000 in
theorem ggX5_about_X5_isIn : GoodIn wsX5_about wsX5_isIn := goodIn_r _ [10] (by decide +kernel) (by decide +kernel)
set_option maxRecDepth 20000 in
theorem gX5_about_X5_isIn : GoodIn wsX5_about (va_wsS RX5 44 yX5_isIn wsX5_isIn) := goodIn_app (goodIn_of _ (by decide +kernel)) ggX5_about_X5_isIn
set_option maxRecDepth 20000 in
theorem ggX5_about_X5_bedTold : GoodIn wsX5_about wsX5_bedTold := goodIn_r _ [14, 15, 16, 17, 5, 18, 19, 20, 21, 22, 27, 28, 29, 30, 31, 32, 33, 34, 35, 36, 37, 38, 39, 40] (by decide +kernel) (by decide +kernel)
set_option maxRecDepth 20000 in
theorem gX5_about_X5_bedTold : GoodIn wsX5_about (wsV RX5 78 RX5 yX5_bedTold wsX5_bedTold) := goodIn_app (goodIn_of _ (by decide +kernel)) ggX5_about_X5_bedTold
set_option maxRecDepth 20000 in
theorem ggX5_about_X5_no : GoodIn wsX5_about wsX5_no := goodIn_r _ [26, 1, 27, 28, 29, 30, 31, 32, 33, 34, 35, 36, 37, 38, 39, 40] (by decide +kernel) (by decide +kernel)
set_option maxRecDepth 20000 in
theorem gX5_about_X5_no : GoodIn wsX5_about (wsV RX5 58 RX5 yX5_no wsX5_no) := goodIn_app (goodIn_of _ (by decide +kernel)) ggX5_about_X5_no
theorem dX5_about_0 : decode cX5_about 0 = .ok (.aload_n 0, 1) := by decide +kernel
theorem dX5_about_1 : decode cX5_about 1 = .ok (.iconst 0, 1) := by decide +kernel
theorem dX5_about_2 : decode cX5_about 2 = .ok (.putfield 38, 3) := by decide +kernel
theorem dX5_about_5 : decode cX5_about 5 = .ok (.aload_n 0, 1) := by decide +kernel
theorem dX5_about_6 : decode cX5_about 6 = .ok (.iload_n 1, 1) := by decide +kernel
theorem dX5_about_7 : decode cX5_about 7 = .ok (.invokevirtual 62, 3) := by decide +kernel
theorem dX5_about_10 : decode cX5_about 10 = .ok (.ifCond .eq 22, 3) := by decide +kernel
theorem dX5_about_13 : decode cX5_about 13 = .ok (.iload_n 2, 1) := by decide +kernel
theorem dX5_about_14 : decode cX5_about 14 = .ok (.iconst 0, 1) := by decide +kernel
theorem dX5_about_15 : decode cX5_about 15 = .ok (.bipush 9, 2) := by decide +kernel
theorem dX5_about_17 : decode cX5_about 17 = .ok (.invokestatic 44, 3) := by decide +kernel
theorem dX5_about_20 : decode cX5_about 20 = .ok (.ifCond .eq 12, 3) := by decide +kernel
theorem dX5_about_23 : decode cX5_about 23 = .ok (.aload_n 0, 1) := by decide +kernel
theorem dX5_about_24 : decode cX5_about 24 = .ok (.iload_n 1, 1) := by decide +kernel
theorem dX5_about_25 : decode cX5_about 25 = .ok (.iload_n 2, 1) := by decide +kernel
theorem dX5_about_26 : decode cX5_about 26 = .ok (.invokevirtual 78, 3) := by decide +kernel
theorem dX5_about_29 : decode cX5_about 29 = .ok (.goto 8, 3) := by decide +kernel
theorem dX5_about_32 : decode cX5_about 32 = .ok (.aload_n 0, 1) := by decide +kernel
theorem dX5_about_33 : decode cX5_about 33 = .ok (.iconst 1, 1) := by decide +kernel
theorem dX5_about_34 : decode cX5_about 34 = .ok (.invokevirtual 58, 3) := by decide +kernel
theorem dX5_about_37 : decode cX5_about 37 = .ok (.ireturn, 1) := by decide +kernel
set_option maxRecDepth 20000 in
theorem ggX5_best_X5_isBed : GoodIn wsX5_best wsX5_isBed := goodIn_r _ [7, 8, 9, 10, 6, 11, 55, 56, 57, 58, 59, 60, 61, 62, 63, 64, 65, 66, 67, 68] (by decide +kernel) (by decide +kernel)
set_option maxRecDepth 20000 in
theorem gX5_best_X5_isBed : GoodIn wsX5_best (wsV RX5 62 RX5 yX5_isBed wsX5_isBed) := goodIn_app (goodIn_of _ (by decide +kernel)) ggX5_best_X5_isBed
set_option maxRecDepth 20000 in
theorem ggX5_best_X5_no : GoodIn wsX5_best wsX5_no := goodIn_r _ [15, 1, 55, 56, 57, 58, 59, 60, 61, 62, 63, 64, 65, 66, 67, 68] (by decide +kernel) (by decide +kernel)
set_option maxRecDepth 20000 in
theorem gX5_best_X5_no : GoodIn wsX5_best (wsV RX5 58 RX5 yX5_no wsX5_no) := goodIn_app (goodIn_of _ (by decide +kernel)) ggX5_best_X5_no
set_option maxRecDepth 20000 in
theorem ggX5_best_X5_lookAhead : GoodIn wsX5_best wsX5_lookAhead := goodIn_r _ [19, 20, 2, 21, 22, 23, 24, 25, 26, 27, 28, 55, 56, 57, 58, 59, 60, 61, 62, 63, 64, 65, 66, 67, 68] (by decide +kernel) (by decide +kernel)
set_option maxRecDepth 20000 in
theorem gX5_best_X5_lookAhead : GoodIn wsX5_best (wsV RX5 81 RX5 yX5_lookAhead wsX5_lookAhead) := goodIn_app (goodIn_of _ (by decide +kernel)) ggX5_best_X5_lookAhead
set_option maxRecDepth 20000 in
theorem ggX5_best_X5_givesSedge : GoodIn wsX5_best wsX5_givesSedge := goodIn_r _ [31, 32, 33, 6, 34, 35] (by decide +kernel) (by decide +kernel)
set_option maxRecDepth 20000 in
theorem gX5_best_X5_givesSedge : GoodIn wsX5_best (va_wsS RX5 66 yX5_givesSedge wsX5_givesSedge) := goodIn_app (goodIn_of _ (by decide +kernel)) ggX5_best_X5_givesSedge
set_option maxRecDepth 20000 in
theorem ggX5_best_X5_endYear : GoodIn wsX5_best wsX5_endYear := goodIn_r _ [39, 8, 40, 41, 42, 43, 44, 45, 46, 47, 48, 49, 50, 6, 51, 52, 53, 54, 55, 56, 57, 58, 59, 60, 61, 62, 63, 64, 65, 66, 67, 68] (by decide +kernel) (by decide +kernel)
set_option maxRecDepth 20000 in
theorem gX5_best_X5_endYear : GoodIn wsX5_best (wsV RX5 84 RX5 yX5_endYear wsX5_endYear) := goodIn_app (goodIn_of _ (by decide +kernel)) ggX5_best_X5_endYear
theorem dX5_best_0 : decode cX5_best 0 = .ok (.aload_n 0, 1) := by decide +kernel
theorem dX5_best_1 : decode cX5_best 1 = .ok (.iconst 0, 1) := by decide +kernel
theorem dX5_best_2 : decode cX5_best 2 = .ok (.putfield 38, 3) := by decide +kernel
theorem dX5_best_5 : decode cX5_best 5 = .ok (.aload_n 0, 1) := by decide +kernel
theorem dX5_best_6 : decode cX5_best 6 = .ok (.iload_n 1, 1) := by decide +kernel
theorem dX5_best_7 : decode cX5_best 7 = .ok (.invokevirtual 62, 3) := by decide +kernel
theorem dX5_best_10 : decode cX5_best 10 = .ok (.ifCond .ne 9, 3) := by decide +kernel
theorem dX5_best_13 : decode cX5_best 13 = .ok (.aload_n 0, 1) := by decide +kernel
theorem dX5_best_14 : decode cX5_best 14 = .ok (.iconst 1, 1) := by decide +kernel
theorem dX5_best_15 : decode cX5_best 15 = .ok (.invokevirtual 58, 3) := by decide +kernel
theorem dX5_best_18 : decode cX5_best 18 = .ok (.ireturn, 1) := by decide +kernel
theorem dX5_best_19 : decode cX5_best 19 = .ok (.aload_n 0, 1) := by decide +kernel
theorem dX5_best_20 : decode cX5_best 20 = .ok (.invokevirtual 81, 3) := by decide +kernel
theorem dX5_best_23 : decode cX5_best 23 = .ok (.iconst 0, 1) := by decide +kernel
theorem dX5_best_24 : decode cX5_best 24 = .ok (.istore_n 2, 1) := by decide +kernel
theorem dX5_best_25 : decode cX5_best 25 = .ok (.aload_n 0, 1) := by decide +kernel
theorem dX5_best_26 : decode cX5_best 26 = .ok (.getfield 26, 3) := by decide +kernel
theorem dX5_best_29 : decode cX5_best 29 = .ok (.bipush 8, 2) := by decide +kernel
theorem dX5_best_31 : decode cX5_best 31 = .ok (.iload_n 1, 1) := by decide +kernel
theorem dX5_best_32 : decode cX5_best 32 = .ok (.imul, 1) := by decide +kernel
theorem dX5_best_33 : decode cX5_best 33 = .ok (.invokestatic 66, 3) := by decide +kernel
theorem dX5_best_36 : decode cX5_best 36 = .ok (.istore_n 3, 1) := by decide +kernel
theorem dX5_best_37 : decode cX5_best 37 = .ok (.iconst 1, 1) := by decide +kernel
theorem dX5_best_38 : decode cX5_best 38 = .ok (.istore 4, 2) := by decide +kernel
theorem dX5_best_40 : decode cX5_best 40 = .ok (.iload 4, 2) := by decide +kernel
theorem dX5_best_42 : decode cX5_best 42 = .ok (.bipush 9, 2) := by decide +kernel
theorem dX5_best_44 : decode cX5_best 44 = .ok (.if_icmp .gt 45, 3) := by decide +kernel
theorem dX5_best_47 : decode cX5_best 47 = .ok (.aload_n 0, 1) := by decide +kernel
theorem dX5_best_48 : decode cX5_best 48 = .ok (.aload_n 0, 1) := by decide +kernel
theorem dX5_best_49 : decode cX5_best 49 = .ok (.getfield 26, 3) := by decide +kernel
theorem dX5_best_52 : decode cX5_best 52 = .ok (.invokevirtual 84, 3) := by decide +kernel
theorem dX5_best_55 : decode cX5_best 55 = .ok (.aload_n 0, 1) := by decide +kernel
theorem dX5_best_56 : decode cX5_best 56 = .ok (.getfield 26, 3) := by decide +kernel
theorem dX5_best_59 : decode cX5_best 59 = .ok (.bipush 8, 2) := by decide +kernel
theorem dX5_best_61 : decode cX5_best 61 = .ok (.iload_n 1, 1) := by decide +kernel
theorem dX5_best_62 : decode cX5_best 62 = .ok (.imul, 1) := by decide +kernel
theorem dX5_best_63 : decode cX5_best 63 = .ok (.invokestatic 66, 3) := by decide +kernel
theorem dX5_best_66 : decode cX5_best 66 = .ok (.istore 5, 2) := by decide +kernel
theorem dX5_best_68 : decode cX5_best 68 = .ok (.iload 5, 2) := by decide +kernel
theorem dX5_best_70 : decode cX5_best 70 = .ok (.iload_n 3, 1) := by decide +kernel
theorem dX5_best_71 : decode cX5_best 71 = .ok (.if_icmp .gt 6, 3) := by decide +kernel
theorem dX5_best_74 : decode cX5_best 74 = .ok (.goto 9, 3) := by decide +kernel
theorem dX5_best_77 : decode cX5_best 77 = .ok (.iload 4, 2) := by decide +kernel
theorem dX5_best_79 : decode cX5_best 79 = .ok (.istore_n 2, 1) := by decide +kernel
theorem dX5_best_80 : decode cX5_best 80 = .ok (.iload 5, 2) := by decide +kernel
theorem dX5_best_82 : decode cX5_best 82 = .ok (.istore_n 3, 1) := by decide +kernel
theorem dX5_best_83 : decode cX5_best 83 = .ok (.iinc 4 1, 3) := by decide +kernel
theorem dX5_best_86 : decode cX5_best 86 = .ok (.goto (-46), 3) := by decide +kernel
theorem dX5_best_89 : decode cX5_best 89 = .ok (.iload_n 2, 1) := by decide +kernel
theorem dX5_best_90 : decode cX5_best 90 = .ok (.ireturn, 1) := by decide +kernel
set_option maxRecDepth 20000 in
theorem ggX5_barge_X5_isIn : GoodIn wsX5_barge wsX5_isIn := goodIn_r _ [7] (by decide +kernel) (by decide +kernel)
set_option maxRecDepth 20000 in
theorem gX5_barge_X5_isIn : GoodIn wsX5_barge (va_wsS RX5 44 yX5_isIn wsX5_isIn) := goodIn_app (goodIn_of _ (by decide +kernel)) ggX5_barge_X5_isIn
set_option maxRecDepth 20000 in
theorem ggX5_barge_X5_no : GoodIn wsX5_barge wsX5_no := goodIn_r _ [11, 1, 12, 13, 14, 15, 16, 17, 18, 19, 20, 21, 22, 23, 24, 25] (by decide +kernel) (by decide +kernel)
set_option maxRecDepth 20000 in
theorem gX5_barge_X5_no : GoodIn wsX5_barge (wsV RX5 58 RX5 yX5_no wsX5_no) := goodIn_app (goodIn_of _ (by decide +kernel)) ggX5_barge_X5_no
theorem dX5_barge_0 : decode cX5_barge 0 = .ok (.aload_n 0, 1) := by decide +kernel
theorem dX5_barge_1 : decode cX5_barge 1 = .ok (.iconst 0, 1) := by decide +kernel
theorem dX5_barge_2 : decode cX5_barge 2 = .ok (.putfield 38, 3) := by decide +kernel
theorem dX5_barge_5 : decode cX5_barge 5 = .ok (.iload_n 1, 1) := by decide +kernel
theorem dX5_barge_6 : decode cX5_barge 6 = .ok (.iconst 0, 1) := by decide +kernel
theorem dX5_barge_7 : decode cX5_barge 7 = .ok (.bipush 30, 2) := by decide +kernel
theorem dX5_barge_9 : decode cX5_barge 9 = .ok (.invokestatic 44, 3) := by decide +kernel
theorem dX5_barge_12 : decode cX5_barge 12 = .ok (.ifCond .ne 9, 3) := by decide +kernel
theorem dX5_barge_15 : decode cX5_barge 15 = .ok (.aload_n 0, 1) := by decide +kernel
theorem dX5_barge_16 : decode cX5_barge 16 = .ok (.iconst 1, 1) := by decide +kernel
theorem dX5_barge_17 : decode cX5_barge 17 = .ok (.invokevirtual 58, 3) := by decide +kernel
theorem dX5_barge_20 : decode cX5_barge 20 = .ok (.ireturn, 1) := by decide +kernel
theorem dX5_barge_21 : decode cX5_barge 21 = .ok (.aload_n 0, 1) := by decide +kernel
theorem dX5_barge_22 : decode cX5_barge 22 = .ok (.getfield 48, 3) := by decide +kernel
theorem dX5_barge_25 : decode cX5_barge 25 = .ok (.iconst 3, 1) := by decide +kernel
theorem dX5_barge_26 : decode cX5_barge 26 = .ok (.if_icmp .ne 9, 3) := by decide +kernel
theorem dX5_barge_29 : decode cX5_barge 29 = .ok (.aload_n 0, 1) := by decide +kernel
theorem dX5_barge_30 : decode cX5_barge 30 = .ok (.iconst 2, 1) := by decide +kernel
theorem dX5_barge_31 : decode cX5_barge 31 = .ok (.invokevirtual 58, 3) := by decide +kernel
theorem dX5_barge_34 : decode cX5_barge 34 = .ok (.ireturn, 1) := by decide +kernel
theorem dX5_barge_35 : decode cX5_barge 35 = .ok (.aload_n 0, 1) := by decide +kernel
theorem dX5_barge_36 : decode cX5_barge 36 = .ok (.getfield 20, 3) := by decide +kernel
theorem dX5_barge_39 : decode cX5_barge 39 = .ok (.iconst 5, 1) := by decide +kernel
theorem dX5_barge_40 : decode cX5_barge 40 = .ok (.aload_n 0, 1) := by decide +kernel
theorem dX5_barge_41 : decode cX5_barge 41 = .ok (.getfield 48, 3) := by decide +kernel
theorem dX5_barge_44 : decode cX5_barge 44 = .ok (.imul, 1) := by decide +kernel
theorem dX5_barge_45 : decode cX5_barge 45 = .ok (.iload_n 1, 1) := by decide +kernel
theorem dX5_barge_46 : decode cX5_barge 46 = .ok (.iastore, 1) := by decide +kernel
theorem dX5_barge_47 : decode cX5_barge 47 = .ok (.aload_n 0, 1) := by decide +kernel
theorem dX5_barge_48 : decode cX5_barge 48 = .ok (.getfield 20, 3) := by decide +kernel
theorem dX5_barge_51 : decode cX5_barge 51 = .ok (.iconst 5, 1) := by decide +kernel
theorem dX5_barge_52 : decode cX5_barge 52 = .ok (.aload_n 0, 1) := by decide +kernel
theorem dX5_barge_53 : decode cX5_barge 53 = .ok (.getfield 48, 3) := by decide +kernel
theorem dX5_barge_56 : decode cX5_barge 56 = .ok (.imul, 1) := by decide +kernel
theorem dX5_barge_57 : decode cX5_barge 57 = .ok (.iconst 1, 1) := by decide +kernel
theorem dX5_barge_58 : decode cX5_barge 58 = .ok (.iadd, 1) := by decide +kernel
theorem dX5_barge_59 : decode cX5_barge 59 = .ok (.iconst (-1), 1) := by decide +kernel
theorem dX5_barge_60 : decode cX5_barge 60 = .ok (.iastore, 1) := by decide +kernel
theorem dX5_barge_61 : decode cX5_barge 61 = .ok (.aload_n 0, 1) := by decide +kernel
theorem dX5_barge_62 : decode cX5_barge 62 = .ok (.dup, 1) := by decide +kernel
theorem dX5_barge_63 : decode cX5_barge 63 = .ok (.getfield 48, 3) := by decide +kernel
theorem dX5_barge_66 : decode cX5_barge 66 = .ok (.iconst 1, 1) := by decide +kernel
theorem dX5_barge_67 : decode cX5_barge 67 = .ok (.iadd, 1) := by decide +kernel
theorem dX5_barge_68 : decode cX5_barge 68 = .ok (.putfield 48, 3) := by decide +kernel
theorem dX5_barge_71 : decode cX5_barge 71 = .ok (.aload_n 0, 1) := by decide +kernel
theorem dX5_barge_72 : decode cX5_barge 72 = .ok (.getfield 48, 3) := by decide +kernel
theorem dX5_barge_75 : decode cX5_barge 75 = .ok (.iconst 1, 1) := by decide +kernel
theorem dX5_barge_76 : decode cX5_barge 76 = .ok (.isub, 1) := by decide +kernel
theorem dX5_barge_77 : decode cX5_barge 77 = .ok (.ireturn, 1) := by decide +kernel
theorem dX5_days_0 : decode cX5_days 0 = .ok (.iload_n 0, 1) := by decide +kernel
theorem dX5_days_1 : decode cX5_days 1 = .ok (.iload_n 1, 1) := by decide +kernel
theorem dX5_days_2 : decode cX5_days 2 = .ok (.isub, 1) := by decide +kernel
theorem dX5_days_3 : decode cX5_days 3 = .ok (.invokestatic 88, 3) := by decide +kernel
theorem dX5_days_6 : decode cX5_days 6 = .ok (.iconst 4, 1) := by decide +kernel
theorem dX5_days_7 : decode cX5_days 7 = .ok (.iadd, 1) := by decide +kernel
theorem dX5_days_8 : decode cX5_days 8 = .ok (.iconst 5, 1) := by decide +kernel
theorem dX5_days_9 : decode cX5_days 9 = .ok (.idiv, 1) := by decide +kernel
theorem dX5_days_10 : decode cX5_days 10 = .ok (.ireturn, 1) := by decide +kernel
set_option maxRecDepth 20000 in
theorem ggX5_sail_X5_isBarge : GoodIn wsX5_sail wsX5_isBarge := goodIn_r _ [7, 8, 9, 10, 6, 11, 23, 24, 25, 26, 27, 28, 29, 30, 31, 32, 33, 34, 35, 36] (by decide +kernel) (by decide +kernel)
set_option maxRecDepth 20000 in
theorem gX5_sail_X5_isBarge : GoodIn wsX5_sail (wsV RX5 91 RX5 yX5_isBarge wsX5_isBarge) := goodIn_app (goodIn_of _ (by decide +kernel)) ggX5_sail_X5_isBarge
set_option maxRecDepth 20000 in
theorem ggX5_sail_X5_isIn : GoodIn wsX5_sail wsX5_isIn := goodIn_r _ [11] (by decide +kernel) (by decide +kernel)
set_option maxRecDepth 20000 in
theorem gX5_sail_X5_isIn : GoodIn wsX5_sail (va_wsS RX5 44 yX5_isIn wsX5_isIn) := goodIn_app (goodIn_of _ (by decide +kernel)) ggX5_sail_X5_isIn
set_option maxRecDepth 20000 in
theorem ggX5_sail_X5_no : GoodIn wsX5_sail wsX5_no := goodIn_r _ [15, 1, 23, 24, 25, 26, 27, 28, 29, 30, 31, 32, 33, 34, 35, 36] (by decide +kernel) (by decide +kernel)
set_option maxRecDepth 20000 in
theorem gX5_sail_X5_no : GoodIn wsX5_sail (wsV RX5 58 RX5 yX5_no wsX5_no) := goodIn_app (goodIn_of _ (by decide +kernel)) ggX5_sail_X5_no
set_option maxRecDepth 20000 in
theorem ggX5_sail_X5_days : GoodIn wsX5_sail wsX5_days := goodIn_r _ [18, 19, 20, 21, 22] (by decide +kernel) (by decide +kernel)
set_option maxRecDepth 20000 in
theorem gX5_sail_X5_days : GoodIn wsX5_sail (va_wsS RX5 94 yX5_days wsX5_days) := goodIn_app (goodIn_of _ (by decide +kernel)) ggX5_sail_X5_days
theorem dX5_sail_0 : decode cX5_sail 0 = .ok (.aload_n 0, 1) := by decide +kernel
theorem dX5_sail_1 : decode cX5_sail 1 = .ok (.iconst 0, 1) := by decide +kernel
theorem dX5_sail_2 : decode cX5_sail 2 = .ok (.putfield 38, 3) := by decide +kernel
theorem dX5_sail_5 : decode cX5_sail 5 = .ok (.aload_n 0, 1) := by decide +kernel
theorem dX5_sail_6 : decode cX5_sail 6 = .ok (.iload_n 1, 1) := by decide +kernel
theorem dX5_sail_7 : decode cX5_sail 7 = .ok (.invokevirtual 91, 3) := by decide +kernel
theorem dX5_sail_10 : decode cX5_sail 10 = .ok (.ifCond .eq 13, 3) := by decide +kernel
theorem dX5_sail_13 : decode cX5_sail 13 = .ok (.iload_n 2, 1) := by decide +kernel
theorem dX5_sail_14 : decode cX5_sail 14 = .ok (.iconst 0, 1) := by decide +kernel
theorem dX5_sail_15 : decode cX5_sail 15 = .ok (.bipush 30, 2) := by decide +kernel
theorem dX5_sail_17 : decode cX5_sail 17 = .ok (.invokestatic 44, 3) := by decide +kernel
theorem dX5_sail_20 : decode cX5_sail 20 = .ok (.ifCond .ne 9, 3) := by decide +kernel
theorem dX5_sail_23 : decode cX5_sail 23 = .ok (.aload_n 0, 1) := by decide +kernel
theorem dX5_sail_24 : decode cX5_sail 24 = .ok (.iconst 1, 1) := by decide +kernel
theorem dX5_sail_25 : decode cX5_sail 25 = .ok (.invokevirtual 58, 3) := by decide +kernel
theorem dX5_sail_28 : decode cX5_sail 28 = .ok (.ireturn, 1) := by decide +kernel
theorem dX5_sail_29 : decode cX5_sail 29 = .ok (.iconst 5, 1) := by decide +kernel
theorem dX5_sail_30 : decode cX5_sail 30 = .ok (.iload_n 1, 1) := by decide +kernel
theorem dX5_sail_31 : decode cX5_sail 31 = .ok (.imul, 1) := by decide +kernel
theorem dX5_sail_32 : decode cX5_sail 32 = .ok (.istore_n 3, 1) := by decide +kernel
theorem dX5_sail_33 : decode cX5_sail 33 = .ok (.aload_n 0, 1) := by decide +kernel
theorem dX5_sail_34 : decode cX5_sail 34 = .ok (.getfield 20, 3) := by decide +kernel
theorem dX5_sail_37 : decode cX5_sail 37 = .ok (.iload_n 3, 1) := by decide +kernel
theorem dX5_sail_38 : decode cX5_sail 38 = .ok (.iconst 1, 1) := by decide +kernel
theorem dX5_sail_39 : decode cX5_sail 39 = .ok (.iadd, 1) := by decide +kernel
theorem dX5_sail_40 : decode cX5_sail 40 = .ok (.aload_n 0, 1) := by decide +kernel
theorem dX5_sail_41 : decode cX5_sail 41 = .ok (.getfield 20, 3) := by decide +kernel
theorem dX5_sail_44 : decode cX5_sail 44 = .ok (.iload_n 3, 1) := by decide +kernel
theorem dX5_sail_45 : decode cX5_sail 45 = .ok (.iaload, 1) := by decide +kernel
theorem dX5_sail_46 : decode cX5_sail 46 = .ok (.iload_n 2, 1) := by decide +kernel
theorem dX5_sail_47 : decode cX5_sail 47 = .ok (.if_icmp .ne 7, 3) := by decide +kernel
theorem dX5_sail_50 : decode cX5_sail 50 = .ok (.iconst (-1), 1) := by decide +kernel
theorem dX5_sail_51 : decode cX5_sail 51 = .ok (.goto 4, 3) := by decide +kernel
theorem dX5_sail_54 : decode cX5_sail 54 = .ok (.iload_n 2, 1) := by decide +kernel
theorem dX5_sail_55 : decode cX5_sail 55 = .ok (.iastore, 1) := by decide +kernel
theorem dX5_sail_56 : decode cX5_sail 56 = .ok (.aload_n 0, 1) := by decide +kernel
theorem dX5_sail_57 : decode cX5_sail 57 = .ok (.getfield 20, 3) := by decide +kernel
theorem dX5_sail_60 : decode cX5_sail 60 = .ok (.iload_n 3, 1) := by decide +kernel
theorem dX5_sail_61 : decode cX5_sail 61 = .ok (.iaload, 1) := by decide +kernel
theorem dX5_sail_62 : decode cX5_sail 62 = .ok (.iload_n 2, 1) := by decide +kernel
theorem dX5_sail_63 : decode cX5_sail 63 = .ok (.invokestatic 94, 3) := by decide +kernel
theorem dX5_sail_66 : decode cX5_sail 66 = .ok (.ireturn, 1) := by decide +kernel
theorem dX5_aboard_0 : decode cX5_aboard 0 = .ok (.aload_n 0, 1) := by decide +kernel
theorem dX5_aboard_1 : decode cX5_aboard 1 = .ok (.getfield 20, 3) := by decide +kernel
theorem dX5_aboard_4 : decode cX5_aboard 4 = .ok (.iload_n 1, 1) := by decide +kernel
theorem dX5_aboard_5 : decode cX5_aboard 5 = .ok (.iconst 2, 1) := by decide +kernel
theorem dX5_aboard_6 : decode cX5_aboard 6 = .ok (.iadd, 1) := by decide +kernel
theorem dX5_aboard_7 : decode cX5_aboard 7 = .ok (.iaload, 1) := by decide +kernel
theorem dX5_aboard_8 : decode cX5_aboard 8 = .ok (.aload_n 0, 1) := by decide +kernel
theorem dX5_aboard_9 : decode cX5_aboard 9 = .ok (.getfield 20, 3) := by decide +kernel
theorem dX5_aboard_12 : decode cX5_aboard 12 = .ok (.iload_n 1, 1) := by decide +kernel
theorem dX5_aboard_13 : decode cX5_aboard 13 = .ok (.iconst 2, 1) := by decide +kernel
theorem dX5_aboard_14 : decode cX5_aboard 14 = .ok (.iadd, 1) := by decide +kernel
theorem dX5_aboard_15 : decode cX5_aboard 15 = .ok (.iconst 1, 1) := by decide +kernel
theorem dX5_aboard_16 : decode cX5_aboard 16 = .ok (.iadd, 1) := by decide +kernel
theorem dX5_aboard_17 : decode cX5_aboard 17 = .ok (.iaload, 1) := by decide +kernel
theorem dX5_aboard_18 : decode cX5_aboard 18 = .ok (.iadd, 1) := by decide +kernel
theorem dX5_aboard_19 : decode cX5_aboard 19 = .ok (.ireturn, 1) := by decide +kernel
set_option maxRecDepth 20000 in
theorem ggX5_load_X5_isBarge : GoodIn wsX5_load wsX5_isBarge := goodIn_r _ [8, 9, 10, 11, 7, 12, 34, 35, 36, 37, 38, 39, 40, 41, 42, 43, 44, 45, 46, 47] (by decide +kernel) (by decide +kernel)
set_option maxRecDepth 20000 in
theorem gX5_load_X5_isBarge : GoodIn wsX5_load (wsV RX5 91 RX5 yX5_isBarge wsX5_isBarge) := goodIn_app (goodIn_of _ (by decide +kernel)) ggX5_load_X5_isBarge
set_option maxRecDepth 20000 in
theorem ggX5_load_X5_isBed : GoodIn wsX5_load wsX5_isBed := goodIn_r _ [16, 17, 10, 11, 7, 12, 34, 35, 36, 37, 38, 39, 40, 41, 42, 43, 44, 45, 46, 47] (by decide +kernel) (by decide +kernel)
set_option maxRecDepth 20000 in
theorem gX5_load_X5_isBed : GoodIn wsX5_load (wsV RX5 62 RX5 yX5_isBed wsX5_isBed) := goodIn_app (goodIn_of _ (by decide +kernel)) ggX5_load_X5_isBed
set_option maxRecDepth 20000 in
theorem ggX5_load_X5_no : GoodIn wsX5_load wsX5_no := goodIn_r _ [21, 1, 34, 35, 36, 37, 38, 39, 40, 41, 42, 43, 44, 45, 46, 47] (by decide +kernel) (by decide +kernel)
set_option maxRecDepth 20000 in
theorem gX5_load_X5_no : GoodIn wsX5_load (wsV RX5 58 RX5 yX5_no wsX5_no) := goodIn_app (goodIn_of _ (by decide +kernel)) ggX5_load_X5_no
set_option maxRecDepth 20000 in
theorem ggX5_load_X5_loadOf : GoodIn wsX5_load wsX5_loadOf := goodIn_r _ [25, 3, 26, 27, 28, 29, 2, 30, 31, 32, 7, 33, 34, 35, 36, 37, 38, 39, 40, 41, 42, 43, 44, 45, 46, 47] (by decide +kernel) (by decide +kernel)
set_option maxRecDepth 20000 in
theorem gX5_load_X5_loadOf : GoodIn wsX5_load (wsV RX5 97 RX5 yX5_loadOf wsX5_loadOf) := goodIn_app (goodIn_of _ (by decide +kernel)) ggX5_load_X5_loadOf
theorem dX5_load_0 : decode cX5_load 0 = .ok (.aload_n 0, 1) := by decide +kernel
theorem dX5_load_1 : decode cX5_load 1 = .ok (.iconst 0, 1) := by decide +kernel
theorem dX5_load_2 : decode cX5_load 2 = .ok (.putfield 38, 3) := by decide +kernel
theorem dX5_load_5 : decode cX5_load 5 = .ok (.aload_n 0, 1) := by decide +kernel
theorem dX5_load_6 : decode cX5_load 6 = .ok (.iload_n 1, 1) := by decide +kernel
theorem dX5_load_7 : decode cX5_load 7 = .ok (.invokevirtual 91, 3) := by decide +kernel
theorem dX5_load_10 : decode cX5_load 10 = .ok (.ifCond .eq 11, 3) := by decide +kernel
theorem dX5_load_13 : decode cX5_load 13 = .ok (.aload_n 0, 1) := by decide +kernel
theorem dX5_load_14 : decode cX5_load 14 = .ok (.iload_n 2, 1) := by decide +kernel
theorem dX5_load_15 : decode cX5_load 15 = .ok (.invokevirtual 62, 3) := by decide +kernel
theorem dX5_load_18 : decode cX5_load 18 = .ok (.ifCond .ne 9, 3) := by decide +kernel
theorem dX5_load_21 : decode cX5_load 21 = .ok (.aload_n 0, 1) := by decide +kernel
theorem dX5_load_22 : decode cX5_load 22 = .ok (.iconst 1, 1) := by decide +kernel
theorem dX5_load_23 : decode cX5_load 23 = .ok (.invokevirtual 58, 3) := by decide +kernel
theorem dX5_load_26 : decode cX5_load 26 = .ok (.ireturn, 1) := by decide +kernel
theorem dX5_load_27 : decode cX5_load 27 = .ok (.aload_n 0, 1) := by decide +kernel
theorem dX5_load_28 : decode cX5_load 28 = .ok (.getfield 20, 3) := by decide +kernel
theorem dX5_load_31 : decode cX5_load 31 = .ok (.iconst 5, 1) := by decide +kernel
theorem dX5_load_32 : decode cX5_load 32 = .ok (.iload_n 1, 1) := by decide +kernel
theorem dX5_load_33 : decode cX5_load 33 = .ok (.imul, 1) := by decide +kernel
theorem dX5_load_34 : decode cX5_load 34 = .ok (.iaload, 1) := by decide +kernel
theorem dX5_load_35 : decode cX5_load 35 = .ok (.aload_n 0, 1) := by decide +kernel
theorem dX5_load_36 : decode cX5_load 36 = .ok (.getfield 16, 3) := by decide +kernel
theorem dX5_load_39 : decode cX5_load 39 = .ok (.bipush 8, 2) := by decide +kernel
theorem dX5_load_41 : decode cX5_load 41 = .ok (.iload_n 2, 1) := by decide +kernel
theorem dX5_load_42 : decode cX5_load 42 = .ok (.imul, 1) := by decide +kernel
theorem dX5_load_43 : decode cX5_load 43 = .ok (.iaload, 1) := by decide +kernel
theorem dX5_load_44 : decode cX5_load 44 = .ok (.if_icmp .eq 9, 3) := by decide +kernel
theorem dX5_load_47 : decode cX5_load 47 = .ok (.aload_n 0, 1) := by decide +kernel
theorem dX5_load_48 : decode cX5_load 48 = .ok (.iconst 2, 1) := by decide +kernel
theorem dX5_load_49 : decode cX5_load 49 = .ok (.invokevirtual 58, 3) := by decide +kernel
theorem dX5_load_52 : decode cX5_load 52 = .ok (.ireturn, 1) := by decide +kernel
theorem dX5_load_53 : decode cX5_load 53 = .ok (.aload_n 0, 1) := by decide +kernel
theorem dX5_load_54 : decode cX5_load 54 = .ok (.iconst 5, 1) := by decide +kernel
theorem dX5_load_55 : decode cX5_load 55 = .ok (.iload_n 1, 1) := by decide +kernel
theorem dX5_load_56 : decode cX5_load 56 = .ok (.imul, 1) := by decide +kernel
theorem dX5_load_57 : decode cX5_load 57 = .ok (.bipush 8, 2) := by decide +kernel
theorem dX5_load_59 : decode cX5_load 59 = .ok (.iload_n 2, 1) := by decide +kernel
theorem dX5_load_60 : decode cX5_load 60 = .ok (.imul, 1) := by decide +kernel
theorem dX5_load_61 : decode cX5_load 61 = .ok (.iconst 0, 1) := by decide +kernel
theorem dX5_load_62 : decode cX5_load 62 = .ok (.invokevirtual 97, 3) := by decide +kernel
theorem dX5_load_65 : decode cX5_load 65 = .ok (.aload_n 0, 1) := by decide +kernel
theorem dX5_load_66 : decode cX5_load 66 = .ok (.iconst 5, 1) := by decide +kernel
theorem dX5_load_67 : decode cX5_load 67 = .ok (.iload_n 1, 1) := by decide +kernel
theorem dX5_load_68 : decode cX5_load 68 = .ok (.imul, 1) := by decide +kernel
theorem dX5_load_69 : decode cX5_load 69 = .ok (.bipush 8, 2) := by decide +kernel
theorem dX5_load_71 : decode cX5_load 71 = .ok (.iload_n 2, 1) := by decide +kernel
theorem dX5_load_72 : decode cX5_load 72 = .ok (.imul, 1) := by decide +kernel
theorem dX5_load_73 : decode cX5_load 73 = .ok (.iconst 1, 1) := by decide +kernel
theorem dX5_load_74 : decode cX5_load 74 = .ok (.invokevirtual 97, 3) := by decide +kernel
theorem dX5_load_77 : decode cX5_load 77 = .ok (.iadd, 1) := by decide +kernel
theorem dX5_load_78 : decode cX5_load 78 = .ok (.ireturn, 1) := by decide +kernel
set_option maxRecDepth 20000 in
theorem ggX5_loadOf_X5_aboard : GoodIn wsX5_loadOf wsX5_aboard := goodIn_r _ [11, 6, 12, 13, 14, 15, 16, 17, 18, 19, 20, 21, 22, 23, 24, 25] (by decide +kernel) (by decide +kernel)
set_option maxRecDepth 20000 in
theorem gX5_loadOf_X5_aboard : GoodIn wsX5_loadOf (wsV RX5 101 RX5 yX5_aboard wsX5_aboard) := goodIn_app (goodIn_of _ (by decide +kernel)) ggX5_loadOf_X5_aboard
theorem dX5_loadOf_0 : decode cX5_loadOf 0 = .ok (.sipush 150, 3) := by decide +kernel
theorem dX5_loadOf_3 : decode cX5_loadOf 3 = .ok (.aload_n 0, 1) := by decide +kernel
theorem dX5_loadOf_4 : decode cX5_loadOf 4 = .ok (.iload_n 1, 1) := by decide +kernel
theorem dX5_loadOf_5 : decode cX5_loadOf 5 = .ok (.invokevirtual 101, 3) := by decide +kernel
theorem dX5_loadOf_8 : decode cX5_loadOf 8 = .ok (.isub, 1) := by decide +kernel
theorem dX5_loadOf_9 : decode cX5_loadOf 9 = .ok (.aload_n 0, 1) := by decide +kernel
theorem dX5_loadOf_10 : decode cX5_loadOf 10 = .ok (.getfield 16, 3) := by decide +kernel
theorem dX5_loadOf_13 : decode cX5_loadOf 13 = .ok (.iload_n 2, 1) := by decide +kernel
theorem dX5_loadOf_14 : decode cX5_loadOf 14 = .ok (.bipush 6, 2) := by decide +kernel
theorem dX5_loadOf_16 : decode cX5_loadOf 16 = .ok (.iadd, 1) := by decide +kernel
theorem dX5_loadOf_17 : decode cX5_loadOf 17 = .ok (.iload_n 3, 1) := by decide +kernel
theorem dX5_loadOf_18 : decode cX5_loadOf 18 = .ok (.iadd, 1) := by decide +kernel
theorem dX5_loadOf_19 : decode cX5_loadOf 19 = .ok (.iaload, 1) := by decide +kernel
theorem dX5_loadOf_20 : decode cX5_loadOf 20 = .ok (.invokestatic 73, 3) := by decide +kernel
theorem dX5_loadOf_23 : decode cX5_loadOf 23 = .ok (.istore 4, 2) := by decide +kernel
theorem dX5_loadOf_25 : decode cX5_loadOf 25 = .ok (.aload_n 0, 1) := by decide +kernel
theorem dX5_loadOf_26 : decode cX5_loadOf 26 = .ok (.getfield 16, 3) := by decide +kernel
theorem dX5_loadOf_29 : decode cX5_loadOf 29 = .ok (.iload_n 2, 1) := by decide +kernel
theorem dX5_loadOf_30 : decode cX5_loadOf 30 = .ok (.bipush 6, 2) := by decide +kernel
theorem dX5_loadOf_32 : decode cX5_loadOf 32 = .ok (.iadd, 1) := by decide +kernel
theorem dX5_loadOf_33 : decode cX5_loadOf 33 = .ok (.iload_n 3, 1) := by decide +kernel
theorem dX5_loadOf_34 : decode cX5_loadOf 34 = .ok (.iadd, 1) := by decide +kernel
theorem dX5_loadOf_35 : decode cX5_loadOf 35 = .ok (.dup2, 1) := by decide +kernel
theorem dX5_loadOf_36 : decode cX5_loadOf 36 = .ok (.iaload, 1) := by decide +kernel
theorem dX5_loadOf_37 : decode cX5_loadOf 37 = .ok (.iload 4, 2) := by decide +kernel
theorem dX5_loadOf_39 : decode cX5_loadOf 39 = .ok (.isub, 1) := by decide +kernel
theorem dX5_loadOf_40 : decode cX5_loadOf 40 = .ok (.iastore, 1) := by decide +kernel
theorem dX5_loadOf_41 : decode cX5_loadOf 41 = .ok (.aload_n 0, 1) := by decide +kernel
theorem dX5_loadOf_42 : decode cX5_loadOf 42 = .ok (.getfield 20, 3) := by decide +kernel
theorem dX5_loadOf_45 : decode cX5_loadOf 45 = .ok (.iload_n 1, 1) := by decide +kernel
theorem dX5_loadOf_46 : decode cX5_loadOf 46 = .ok (.iconst 2, 1) := by decide +kernel
theorem dX5_loadOf_47 : decode cX5_loadOf 47 = .ok (.iadd, 1) := by decide +kernel
theorem dX5_loadOf_48 : decode cX5_loadOf 48 = .ok (.iload_n 3, 1) := by decide +kernel
theorem dX5_loadOf_49 : decode cX5_loadOf 49 = .ok (.iadd, 1) := by decide +kernel
theorem dX5_loadOf_50 : decode cX5_loadOf 50 = .ok (.dup2, 1) := by decide +kernel
theorem dX5_loadOf_51 : decode cX5_loadOf 51 = .ok (.iaload, 1) := by decide +kernel
theorem dX5_loadOf_52 : decode cX5_loadOf 52 = .ok (.iload 4, 2) := by decide +kernel
theorem dX5_loadOf_54 : decode cX5_loadOf 54 = .ok (.iadd, 1) := by decide +kernel
theorem dX5_loadOf_55 : decode cX5_loadOf 55 = .ok (.iastore, 1) := by decide +kernel
theorem dX5_loadOf_56 : decode cX5_loadOf 56 = .ok (.iload 4, 2) := by decide +kernel
theorem dX5_loadOf_58 : decode cX5_loadOf 58 = .ok (.ireturn, 1) := by decide +kernel
theorem dX5_landingAt_0 : decode cX5_landingAt 0 = .ok (.iconst 0, 1) := by decide +kernel
theorem dX5_landingAt_1 : decode cX5_landingAt 1 = .ok (.istore_n 1, 1) := by decide +kernel
theorem dX5_landingAt_2 : decode cX5_landingAt 2 = .ok (.iload_n 1, 1) := by decide +kernel
theorem dX5_landingAt_3 : decode cX5_landingAt 3 = .ok (.iconst 3, 1) := by decide +kernel
theorem dX5_landingAt_4 : decode cX5_landingAt 4 = .ok (.if_icmp .ge 20, 3) := by decide +kernel
theorem dX5_landingAt_7 : decode cX5_landingAt 7 = .ok (.getstatic 104, 3) := by decide +kernel
theorem dX5_landingAt_10 : decode cX5_landingAt 10 = .ok (.iload_n 1, 1) := by decide +kernel
theorem dX5_landingAt_11 : decode cX5_landingAt 11 = .ok (.iaload, 1) := by decide +kernel
theorem dX5_landingAt_12 : decode cX5_landingAt 12 = .ok (.iload_n 0, 1) := by decide +kernel
theorem dX5_landingAt_13 : decode cX5_landingAt 13 = .ok (.if_icmp .ne 5, 3) := by decide +kernel
theorem dX5_landingAt_16 : decode cX5_landingAt 16 = .ok (.iload_n 1, 1) := by decide +kernel
theorem dX5_landingAt_17 : decode cX5_landingAt 17 = .ok (.ireturn, 1) := by decide +kernel
theorem dX5_landingAt_18 : decode cX5_landingAt 18 = .ok (.iinc 1 1, 3) := by decide +kernel
theorem dX5_landingAt_21 : decode cX5_landingAt 21 = .ok (.goto (-19), 3) := by decide +kernel
theorem dX5_landingAt_24 : decode cX5_landingAt 24 = .ok (.iconst (-1), 1) := by decide +kernel
theorem dX5_landingAt_25 : decode cX5_landingAt 25 = .ok (.ireturn, 1) := by decide +kernel
theorem dX5_price_0 : decode cX5_price 0 = .ok (.iconst 1, 1) := by decide +kernel
theorem dX5_price_1 : decode cX5_price 1 = .ok (.getstatic 107, 3) := by decide +kernel
theorem dX5_price_4 : decode cX5_price 4 = .ok (.iload_n 0, 1) := by decide +kernel
theorem dX5_price_5 : decode cX5_price 5 = .ok (.iaload, 1) := by decide +kernel
theorem dX5_price_6 : decode cX5_price 6 = .ok (.iload_n 1, 1) := by decide +kernel
theorem dX5_price_7 : decode cX5_price 7 = .ok (.bipush 25, 2) := by decide +kernel
theorem dX5_price_9 : decode cX5_price 9 = .ok (.idiv, 1) := by decide +kernel
theorem dX5_price_10 : decode cX5_price 10 = .ok (.isub, 1) := by decide +kernel
theorem dX5_price_11 : decode cX5_price 11 = .ok (.invokestatic 110, 3) := by decide +kernel
theorem dX5_price_14 : decode cX5_price 14 = .ok (.ireturn, 1) := by decide +kernel
set_option maxRecDepth 20000 in
theorem ggX5_reedPrice_X5_price : GoodIn wsX5_reedPrice wsX5_price := goodIn_r _ [8, 9, 1, 2, 3, 4] (by decide +kernel) (by decide +kernel)
set_option maxRecDepth 20000 in
theorem gX5_reedPrice_X5_price : GoodIn wsX5_reedPrice (va_wsS RX5 113 yX5_price wsX5_price) := goodIn_app (goodIn_of _ (by decide +kernel)) ggX5_reedPrice_X5_price
theorem dX5_reedPrice_0 : decode cX5_reedPrice 0 = .ok (.iconst 1, 1) := by decide +kernel
theorem dX5_reedPrice_1 : decode cX5_reedPrice 1 = .ok (.iload_n 0, 1) := by decide +kernel
theorem dX5_reedPrice_2 : decode cX5_reedPrice 2 = .ok (.iload_n 1, 1) := by decide +kernel
theorem dX5_reedPrice_3 : decode cX5_reedPrice 3 = .ok (.invokestatic 113, 3) := by decide +kernel
theorem dX5_reedPrice_6 : decode cX5_reedPrice 6 = .ok (.iconst 2, 1) := by decide +kernel
theorem dX5_reedPrice_7 : decode cX5_reedPrice 7 = .ok (.idiv, 1) := by decide +kernel
theorem dX5_reedPrice_8 : decode cX5_reedPrice 8 = .ok (.invokestatic 110, 3) := by decide +kernel
theorem dX5_reedPrice_11 : decode cX5_reedPrice 11 = .ok (.ireturn, 1) := by decide +kernel
set_option maxRecDepth 20000 in
theorem ggX5_brings_X5_price : GoodIn wsX5_brings wsX5_price := goodIn_r _ [5, 6, 7, 8, 9, 10] (by decide +kernel) (by decide +kernel)
set_option maxRecDepth 20000 in
theorem gX5_brings_X5_price : GoodIn wsX5_brings (va_wsS RX5 113 yX5_price wsX5_price) := goodIn_app (goodIn_of _ (by decide +kernel)) ggX5_brings_X5_price
set_option maxRecDepth 20000 in
theorem ggX5_brings_X5_reedPrice : GoodIn wsX5_brings wsX5_reedPrice := goodIn_r _ [13, 7, 8, 9, 10, 2, 3, 4, 5, 6] (by decide +kernel) (by decide +kernel)
set_option maxRecDepth 20000 in
theorem gX5_brings_X5_reedPrice : GoodIn wsX5_brings (va_wsS RX5 116 yX5_reedPrice wsX5_reedPrice) := goodIn_app (goodIn_of _ (by decide +kernel)) ggX5_brings_X5_reedPrice
theorem dX5_brings_0 : decode cX5_brings 0 = .ok (.aload_n 0, 1) := by decide +kernel
theorem dX5_brings_1 : decode cX5_brings 1 = .ok (.getfield 20, 3) := by decide +kernel
theorem dX5_brings_4 : decode cX5_brings 4 = .ok (.iload_n 1, 1) := by decide +kernel
theorem dX5_brings_5 : decode cX5_brings 5 = .ok (.iconst 2, 1) := by decide +kernel
theorem dX5_brings_6 : decode cX5_brings 6 = .ok (.iadd, 1) := by decide +kernel
theorem dX5_brings_7 : decode cX5_brings 7 = .ok (.iaload, 1) := by decide +kernel
theorem dX5_brings_8 : decode cX5_brings 8 = .ok (.iload_n 2, 1) := by decide +kernel
theorem dX5_brings_9 : decode cX5_brings 9 = .ok (.iload_n 3, 1) := by decide +kernel
theorem dX5_brings_10 : decode cX5_brings 10 = .ok (.invokestatic 113, 3) := by decide +kernel
theorem dX5_brings_13 : decode cX5_brings 13 = .ok (.imul, 1) := by decide +kernel
theorem dX5_brings_14 : decode cX5_brings 14 = .ok (.aload_n 0, 1) := by decide +kernel
theorem dX5_brings_15 : decode cX5_brings 15 = .ok (.getfield 20, 3) := by decide +kernel
theorem dX5_brings_18 : decode cX5_brings 18 = .ok (.iload_n 1, 1) := by decide +kernel
theorem dX5_brings_19 : decode cX5_brings 19 = .ok (.iconst 2, 1) := by decide +kernel
theorem dX5_brings_20 : decode cX5_brings 20 = .ok (.iadd, 1) := by decide +kernel
theorem dX5_brings_21 : decode cX5_brings 21 = .ok (.iconst 1, 1) := by decide +kernel
theorem dX5_brings_22 : decode cX5_brings 22 = .ok (.iadd, 1) := by decide +kernel
theorem dX5_brings_23 : decode cX5_brings 23 = .ok (.iaload, 1) := by decide +kernel
theorem dX5_brings_24 : decode cX5_brings 24 = .ok (.iload_n 2, 1) := by decide +kernel
theorem dX5_brings_25 : decode cX5_brings 25 = .ok (.iload_n 3, 1) := by decide +kernel
theorem dX5_brings_26 : decode cX5_brings 26 = .ok (.invokestatic 116, 3) := by decide +kernel
theorem dX5_brings_29 : decode cX5_brings 29 = .ok (.imul, 1) := by decide +kernel
theorem dX5_brings_30 : decode cX5_brings 30 = .ok (.iadd, 1) := by decide +kernel
theorem dX5_brings_31 : decode cX5_brings 31 = .ok (.ireturn, 1) := by decide +kernel
set_option maxRecDepth 20000 in
theorem ggX5_sell_X5_isBarge : GoodIn wsX5_sell wsX5_isBarge := goodIn_r _ [9, 10, 11, 12, 8, 13, 41, 42, 43, 44, 45, 46, 47, 48, 49, 50, 51, 52, 53, 54] (by decide +kernel) (by decide +kernel)
set_option maxRecDepth 20000 in
theorem gX5_sell_X5_isBarge : GoodIn wsX5_sell (wsV RX5 91 RX5 yX5_isBarge wsX5_isBarge) := goodIn_app (goodIn_of _ (by decide +kernel)) ggX5_sell_X5_isBarge
set_option maxRecDepth 20000 in
theorem ggX5_sell_X5_no : GoodIn wsX5_sell wsX5_no := goodIn_r _ [17, 1, 41, 42, 43, 44, 45, 46, 47, 48, 49, 50, 51, 52, 53, 54] (by decide +kernel) (by decide +kernel)
set_option maxRecDepth 20000 in
theorem gX5_sell_X5_no : GoodIn wsX5_sell (wsV RX5 58 RX5 yX5_no wsX5_no) := goodIn_app (goodIn_of _ (by decide +kernel)) ggX5_sell_X5_no
set_option maxRecDepth 20000 in
theorem ggX5_sell_X5_landingAt : GoodIn wsX5_sell wsX5_landingAt := goodIn_r _ [20, 21] (by decide +kernel) (by decide +kernel)
set_option maxRecDepth 20000 in
theorem gX5_sell_X5_landingAt : GoodIn wsX5_sell (va_wsS RX5 119 yX5_landingAt wsX5_landingAt) := goodIn_app (goodIn_of _ (by decide +kernel)) ggX5_sell_X5_landingAt
set_option maxRecDepth 20000 in
theorem ggX5_sell_X5_brings : GoodIn wsX5_sell wsX5_brings := goodIn_r _ [25, 2, 26, 27, 8, 28, 29, 30, 31, 32, 33, 34, 35, 36, 41, 42, 43, 44, 45, 46, 47, 48, 49, 50, 51, 52, 53, 54] (by decide +kernel) (by decide +kernel)
set_option maxRecDepth 20000 in
theorem gX5_sell_X5_brings : GoodIn wsX5_sell (wsV RX5 122 RX5 yX5_brings wsX5_brings) := goodIn_app (goodIn_of _ (by decide +kernel)) ggX5_sell_X5_brings
set_option maxRecDepth 20000 in
theorem ggX5_sell_X5_aboard : GoodIn wsX5_sell wsX5_aboard := goodIn_r _ [40, 2, 41, 42, 43, 44, 45, 46, 47, 48, 49, 50, 51, 52, 53, 54] (by decide +kernel) (by decide +kernel)
set_option maxRecDepth 20000 in
theorem gX5_sell_X5_aboard : GoodIn wsX5_sell (wsV RX5 101 RX5 yX5_aboard wsX5_aboard) := goodIn_app (goodIn_of _ (by decide +kernel)) ggX5_sell_X5_aboard
theorem dX5_sell_0 : decode cX5_sell 0 = .ok (.aload_n 0, 1) := by decide +kernel
theorem dX5_sell_1 : decode cX5_sell 1 = .ok (.iconst 0, 1) := by decide +kernel
theorem dX5_sell_2 : decode cX5_sell 2 = .ok (.putfield 38, 3) := by decide +kernel
theorem dX5_sell_5 : decode cX5_sell 5 = .ok (.aload_n 0, 1) := by decide +kernel
theorem dX5_sell_6 : decode cX5_sell 6 = .ok (.iload_n 1, 1) := by decide +kernel
theorem dX5_sell_7 : decode cX5_sell 7 = .ok (.invokevirtual 91, 3) := by decide +kernel
theorem dX5_sell_10 : decode cX5_sell 10 = .ok (.ifCond .ne 9, 3) := by decide +kernel
theorem dX5_sell_13 : decode cX5_sell 13 = .ok (.aload_n 0, 1) := by decide +kernel
theorem dX5_sell_14 : decode cX5_sell 14 = .ok (.iconst 1, 1) := by decide +kernel
theorem dX5_sell_15 : decode cX5_sell 15 = .ok (.invokevirtual 58, 3) := by decide +kernel
theorem dX5_sell_18 : decode cX5_sell 18 = .ok (.ireturn, 1) := by decide +kernel
theorem dX5_sell_19 : decode cX5_sell 19 = .ok (.iconst 5, 1) := by decide +kernel
theorem dX5_sell_20 : decode cX5_sell 20 = .ok (.iload_n 1, 1) := by decide +kernel
theorem dX5_sell_21 : decode cX5_sell 21 = .ok (.imul, 1) := by decide +kernel
theorem dX5_sell_22 : decode cX5_sell 22 = .ok (.istore_n 2, 1) := by decide +kernel
theorem dX5_sell_23 : decode cX5_sell 23 = .ok (.aload_n 0, 1) := by decide +kernel
theorem dX5_sell_24 : decode cX5_sell 24 = .ok (.getfield 20, 3) := by decide +kernel
theorem dX5_sell_27 : decode cX5_sell 27 = .ok (.iload_n 2, 1) := by decide +kernel
theorem dX5_sell_28 : decode cX5_sell 28 = .ok (.iaload, 1) := by decide +kernel
theorem dX5_sell_29 : decode cX5_sell 29 = .ok (.invokestatic 119, 3) := by decide +kernel
theorem dX5_sell_32 : decode cX5_sell 32 = .ok (.istore_n 3, 1) := by decide +kernel
theorem dX5_sell_33 : decode cX5_sell 33 = .ok (.iload_n 3, 1) := by decide +kernel
theorem dX5_sell_34 : decode cX5_sell 34 = .ok (.ifCond .ge 9, 3) := by decide +kernel
theorem dX5_sell_37 : decode cX5_sell 37 = .ok (.aload_n 0, 1) := by decide +kernel
theorem dX5_sell_38 : decode cX5_sell 38 = .ok (.iconst 2, 1) := by decide +kernel
theorem dX5_sell_39 : decode cX5_sell 39 = .ok (.invokevirtual 58, 3) := by decide +kernel
theorem dX5_sell_42 : decode cX5_sell 42 = .ok (.ireturn, 1) := by decide +kernel
theorem dX5_sell_43 : decode cX5_sell 43 = .ok (.aload_n 0, 1) := by decide +kernel
theorem dX5_sell_44 : decode cX5_sell 44 = .ok (.iload_n 2, 1) := by decide +kernel
theorem dX5_sell_45 : decode cX5_sell 45 = .ok (.iload_n 3, 1) := by decide +kernel
theorem dX5_sell_46 : decode cX5_sell 46 = .ok (.aload_n 0, 1) := by decide +kernel
theorem dX5_sell_47 : decode cX5_sell 47 = .ok (.getfield 23, 3) := by decide +kernel
theorem dX5_sell_50 : decode cX5_sell 50 = .ok (.iload_n 3, 1) := by decide +kernel
theorem dX5_sell_51 : decode cX5_sell 51 = .ok (.iaload, 1) := by decide +kernel
theorem dX5_sell_52 : decode cX5_sell 52 = .ok (.invokevirtual 122, 3) := by decide +kernel
theorem dX5_sell_55 : decode cX5_sell 55 = .ok (.istore 4, 2) := by decide +kernel
theorem dX5_sell_57 : decode cX5_sell 57 = .ok (.aload_n 0, 1) := by decide +kernel
theorem dX5_sell_58 : decode cX5_sell 58 = .ok (.getfield 23, 3) := by decide +kernel
theorem dX5_sell_61 : decode cX5_sell 61 = .ok (.iload_n 3, 1) := by decide +kernel
theorem dX5_sell_62 : decode cX5_sell 62 = .ok (.dup2, 1) := by decide +kernel
theorem dX5_sell_63 : decode cX5_sell 63 = .ok (.iaload, 1) := by decide +kernel
theorem dX5_sell_64 : decode cX5_sell 64 = .ok (.aload_n 0, 1) := by decide +kernel
theorem dX5_sell_65 : decode cX5_sell 65 = .ok (.iload_n 2, 1) := by decide +kernel
theorem dX5_sell_66 : decode cX5_sell 66 = .ok (.invokevirtual 101, 3) := by decide +kernel
theorem dX5_sell_69 : decode cX5_sell 69 = .ok (.iadd, 1) := by decide +kernel
theorem dX5_sell_70 : decode cX5_sell 70 = .ok (.iastore, 1) := by decide +kernel
theorem dX5_sell_71 : decode cX5_sell 71 = .ok (.aload_n 0, 1) := by decide +kernel
theorem dX5_sell_72 : decode cX5_sell 72 = .ok (.getfield 20, 3) := by decide +kernel
theorem dX5_sell_75 : decode cX5_sell 75 = .ok (.iload_n 2, 1) := by decide +kernel
theorem dX5_sell_76 : decode cX5_sell 76 = .ok (.iconst 2, 1) := by decide +kernel
theorem dX5_sell_77 : decode cX5_sell 77 = .ok (.iadd, 1) := by decide +kernel
theorem dX5_sell_78 : decode cX5_sell 78 = .ok (.iconst 0, 1) := by decide +kernel
theorem dX5_sell_79 : decode cX5_sell 79 = .ok (.iastore, 1) := by decide +kernel
theorem dX5_sell_80 : decode cX5_sell 80 = .ok (.aload_n 0, 1) := by decide +kernel
theorem dX5_sell_81 : decode cX5_sell 81 = .ok (.getfield 20, 3) := by decide +kernel
theorem dX5_sell_84 : decode cX5_sell 84 = .ok (.iload_n 2, 1) := by decide +kernel
theorem dX5_sell_85 : decode cX5_sell 85 = .ok (.iconst 2, 1) := by decide +kernel
theorem dX5_sell_86 : decode cX5_sell 86 = .ok (.iadd, 1) := by decide +kernel
theorem dX5_sell_87 : decode cX5_sell 87 = .ok (.iconst 1, 1) := by decide +kernel
theorem dX5_sell_88 : decode cX5_sell 88 = .ok (.iadd, 1) := by decide +kernel
theorem dX5_sell_89 : decode cX5_sell 89 = .ok (.iconst 0, 1) := by decide +kernel
theorem dX5_sell_90 : decode cX5_sell 90 = .ok (.iastore, 1) := by decide +kernel
theorem dX5_sell_91 : decode cX5_sell 91 = .ok (.aload_n 0, 1) := by decide +kernel
theorem dX5_sell_92 : decode cX5_sell 92 = .ok (.getfield 20, 3) := by decide +kernel
theorem dX5_sell_95 : decode cX5_sell 95 = .ok (.iload_n 2, 1) := by decide +kernel
theorem dX5_sell_96 : decode cX5_sell 96 = .ok (.iconst 4, 1) := by decide +kernel
theorem dX5_sell_97 : decode cX5_sell 97 = .ok (.iadd, 1) := by decide +kernel
theorem dX5_sell_98 : decode cX5_sell 98 = .ok (.dup2, 1) := by decide +kernel
theorem dX5_sell_99 : decode cX5_sell 99 = .ok (.iaload, 1) := by decide +kernel
theorem dX5_sell_100 : decode cX5_sell 100 = .ok (.iload 4, 2) := by decide +kernel
theorem dX5_sell_102 : decode cX5_sell 102 = .ok (.iadd, 1) := by decide +kernel
theorem dX5_sell_103 : decode cX5_sell 103 = .ok (.iastore, 1) := by decide +kernel
theorem dX5_sell_104 : decode cX5_sell 104 = .ok (.aload_n 0, 1) := by decide +kernel
theorem dX5_sell_105 : decode cX5_sell 105 = .ok (.dup, 1) := by decide +kernel
theorem dX5_sell_106 : decode cX5_sell 106 = .ok (.getfield 7, 3) := by decide +kernel
theorem dX5_sell_109 : decode cX5_sell 109 = .ok (.iload 4, 2) := by decide +kernel
theorem dX5_sell_111 : decode cX5_sell 111 = .ok (.iadd, 1) := by decide +kernel
theorem dX5_sell_112 : decode cX5_sell 112 = .ok (.putfield 7, 3) := by decide +kernel
theorem dX5_sell_115 : decode cX5_sell 115 = .ok (.iload 4, 2) := by decide +kernel
theorem dX5_sell_117 : decode cX5_sell 117 = .ok (.ireturn, 1) := by decide +kernel
set_option maxRecDepth 20000 in
theorem ggX5_bargeTold_X5_landingAt : GoodIn wsX5_bargeTold wsX5_landingAt := goodIn_r _ [5, 6] (by decide +kernel) (by decide +kernel)
set_option maxRecDepth 20000 in
theorem gX5_bargeTold_X5_landingAt : GoodIn wsX5_bargeTold (va_wsS RX5 119 yX5_landingAt wsX5_landingAt) := goodIn_app (goodIn_of _ (by decide +kernel)) ggX5_bargeTold_X5_landingAt
theorem dX5_bargeTold_0 : decode cX5_bargeTold 0 = .ok (.iconst 5, 1) := by decide +kernel
theorem dX5_bargeTold_1 : decode cX5_bargeTold 1 = .ok (.iload_n 1, 1) := by decide +kernel
theorem dX5_bargeTold_2 : decode cX5_bargeTold 2 = .ok (.imul, 1) := by decide +kernel
theorem dX5_bargeTold_3 : decode cX5_bargeTold 3 = .ok (.istore_n 3, 1) := by decide +kernel
theorem dX5_bargeTold_4 : decode cX5_bargeTold 4 = .ok (.iload_n 2, 1) := by decide +kernel
theorem dX5_bargeTold_5 : decode cX5_bargeTold 5 = .ok (.iconst 4, 1) := by decide +kernel
theorem dX5_bargeTold_6 : decode cX5_bargeTold 6 = .ok (.if_icmp .ge 14, 3) := by decide +kernel
theorem dX5_bargeTold_9 : decode cX5_bargeTold 9 = .ok (.aload_n 0, 1) := by decide +kernel
theorem dX5_bargeTold_10 : decode cX5_bargeTold 10 = .ok (.getfield 20, 3) := by decide +kernel
theorem dX5_bargeTold_13 : decode cX5_bargeTold 13 = .ok (.iload_n 3, 1) := by decide +kernel
theorem dX5_bargeTold_14 : decode cX5_bargeTold 14 = .ok (.iload_n 2, 1) := by decide +kernel
theorem dX5_bargeTold_15 : decode cX5_bargeTold 15 = .ok (.iadd, 1) := by decide +kernel
theorem dX5_bargeTold_16 : decode cX5_bargeTold 16 = .ok (.iaload, 1) := by decide +kernel
theorem dX5_bargeTold_17 : decode cX5_bargeTold 17 = .ok (.goto 28, 3) := by decide +kernel
theorem dX5_bargeTold_20 : decode cX5_bargeTold 20 = .ok (.iload_n 2, 1) := by decide +kernel
theorem dX5_bargeTold_21 : decode cX5_bargeTold 21 = .ok (.iconst 4, 1) := by decide +kernel
theorem dX5_bargeTold_22 : decode cX5_bargeTold 22 = .ok (.if_icmp .ne 15, 3) := by decide +kernel
theorem dX5_bargeTold_25 : decode cX5_bargeTold 25 = .ok (.aload_n 0, 1) := by decide +kernel
theorem dX5_bargeTold_26 : decode cX5_bargeTold 26 = .ok (.getfield 20, 3) := by decide +kernel
theorem dX5_bargeTold_29 : decode cX5_bargeTold 29 = .ok (.iload_n 3, 1) := by decide +kernel
theorem dX5_bargeTold_30 : decode cX5_bargeTold 30 = .ok (.iaload, 1) := by decide +kernel
theorem dX5_bargeTold_31 : decode cX5_bargeTold 31 = .ok (.invokestatic 119, 3) := by decide +kernel
theorem dX5_bargeTold_34 : decode cX5_bargeTold 34 = .ok (.goto 11, 3) := by decide +kernel
theorem dX5_bargeTold_37 : decode cX5_bargeTold 37 = .ok (.aload_n 0, 1) := by decide +kernel
theorem dX5_bargeTold_38 : decode cX5_bargeTold 38 = .ok (.getfield 20, 3) := by decide +kernel
theorem dX5_bargeTold_41 : decode cX5_bargeTold 41 = .ok (.iload_n 3, 1) := by decide +kernel
theorem dX5_bargeTold_42 : decode cX5_bargeTold 42 = .ok (.iconst 4, 1) := by decide +kernel
theorem dX5_bargeTold_43 : decode cX5_bargeTold 43 = .ok (.iadd, 1) := by decide +kernel
theorem dX5_bargeTold_44 : decode cX5_bargeTold 44 = .ok (.iaload, 1) := by decide +kernel
theorem dX5_bargeTold_45 : decode cX5_bargeTold 45 = .ok (.ireturn, 1) := by decide +kernel
set_option maxRecDepth 20000 in
theorem ggX5_told_X5_isBarge : GoodIn wsX5_told wsX5_isBarge := goodIn_r _ [6, 7, 8, 9, 5, 10, 24, 25, 26, 27, 28, 29, 30, 31, 32, 33, 34, 35, 36, 37] (by decide +kernel) (by decide +kernel)
set_option maxRecDepth 20000 in
theorem gX5_told_X5_isBarge : GoodIn wsX5_told (wsV RX5 91 RX5 yX5_isBarge wsX5_isBarge) := goodIn_app (goodIn_of _ (by decide +kernel)) ggX5_told_X5_isBarge
set_option maxRecDepth 20000 in
theorem ggX5_told_X5_isIn : GoodIn wsX5_told wsX5_isIn := goodIn_r _ [10] (by decide +kernel) (by decide +kernel)
set_option maxRecDepth 20000 in
theorem gX5_told_X5_isIn : GoodIn wsX5_told (va_wsS RX5 44 yX5_isIn wsX5_isIn) := goodIn_app (goodIn_of _ (by decide +kernel)) ggX5_told_X5_isIn
set_option maxRecDepth 20000 in
theorem ggX5_told_X5_bargeTold : GoodIn wsX5_told wsX5_bargeTold := goodIn_r _ [14, 15, 16, 17, 5, 18, 19, 24, 25, 26, 27, 28, 29, 30, 31, 32, 33, 34, 35, 36, 37] (by decide +kernel) (by decide +kernel)
set_option maxRecDepth 20000 in
theorem gX5_told_X5_bargeTold : GoodIn wsX5_told (wsV RX5 125 RX5 yX5_bargeTold wsX5_bargeTold) := goodIn_app (goodIn_of _ (by decide +kernel)) ggX5_told_X5_bargeTold
set_option maxRecDepth 20000 in
theorem ggX5_told_X5_no : GoodIn wsX5_told wsX5_no := goodIn_r _ [23, 1, 24, 25, 26, 27, 28, 29, 30, 31, 32, 33, 34, 35, 36, 37] (by decide +kernel) (by decide +kernel)
set_option maxRecDepth 20000 in
theorem gX5_told_X5_no : GoodIn wsX5_told (wsV RX5 58 RX5 yX5_no wsX5_no) := goodIn_app (goodIn_of _ (by decide +kernel)) ggX5_told_X5_no
theorem dX5_told_0 : decode cX5_told 0 = .ok (.aload_n 0, 1) := by decide +kernel
theorem dX5_told_1 : decode cX5_told 1 = .ok (.iconst 0, 1) := by decide +kernel
theorem dX5_told_2 : decode cX5_told 2 = .ok (.putfield 38, 3) := by decide +kernel
theorem dX5_told_5 : decode cX5_told 5 = .ok (.aload_n 0, 1) := by decide +kernel
theorem dX5_told_6 : decode cX5_told 6 = .ok (.iload_n 1, 1) := by decide +kernel
theorem dX5_told_7 : decode cX5_told 7 = .ok (.invokevirtual 91, 3) := by decide +kernel
theorem dX5_told_10 : decode cX5_told 10 = .ok (.ifCond .eq 21, 3) := by decide +kernel
theorem dX5_told_13 : decode cX5_told 13 = .ok (.iload_n 2, 1) := by decide +kernel
theorem dX5_told_14 : decode cX5_told 14 = .ok (.iconst 0, 1) := by decide +kernel
theorem dX5_told_15 : decode cX5_told 15 = .ok (.iconst 5, 1) := by decide +kernel
theorem dX5_told_16 : decode cX5_told 16 = .ok (.invokestatic 44, 3) := by decide +kernel
theorem dX5_told_19 : decode cX5_told 19 = .ok (.ifCond .eq 12, 3) := by decide +kernel
theorem dX5_told_22 : decode cX5_told 22 = .ok (.aload_n 0, 1) := by decide +kernel
theorem dX5_told_23 : decode cX5_told 23 = .ok (.iload_n 1, 1) := by decide +kernel
theorem dX5_told_24 : decode cX5_told 24 = .ok (.iload_n 2, 1) := by decide +kernel
theorem dX5_told_25 : decode cX5_told 25 = .ok (.invokevirtual 125, 3) := by decide +kernel
theorem dX5_told_28 : decode cX5_told 28 = .ok (.goto 8, 3) := by decide +kernel
theorem dX5_told_31 : decode cX5_told 31 = .ok (.aload_n 0, 1) := by decide +kernel
theorem dX5_told_32 : decode cX5_told 32 = .ok (.iconst 1, 1) := by decide +kernel
theorem dX5_told_33 : decode cX5_told 33 = .ok (.invokevirtual 58, 3) := by decide +kernel
theorem dX5_told_36 : decode cX5_told 36 = .ok (.ireturn, 1) := by decide +kernel
set_option maxRecDepth 20000 in
theorem ggX5_landingTold_X5_price : GoodIn wsX5_landingTold wsX5_price := goodIn_r _ [6, 7, 8, 9, 10, 11] (by decide +kernel) (by decide +kernel)
set_option maxRecDepth 20000 in
theorem gX5_landingTold_X5_price : GoodIn wsX5_landingTold (va_wsS RX5 113 yX5_price wsX5_price) := goodIn_app (goodIn_of _ (by decide +kernel)) ggX5_landingTold_X5_price
set_option maxRecDepth 20000 in
theorem ggX5_landingTold_X5_reedPrice : GoodIn wsX5_landingTold wsX5_reedPrice := goodIn_r _ [14, 8, 9, 10, 11, 3, 4, 5, 6, 7] (by decide +kernel) (by decide +kernel)
set_option maxRecDepth 20000 in
theorem gX5_landingTold_X5_reedPrice : GoodIn wsX5_landingTold (va_wsS RX5 116 yX5_reedPrice wsX5_reedPrice) := goodIn_app (goodIn_of _ (by decide +kernel)) ggX5_landingTold_X5_reedPrice
theorem dX5_landingTold_0 : decode cX5_landingTold 0 = .ok (.iload_n 2, 1) := by decide +kernel
theorem dX5_landingTold_1 : decode cX5_landingTold 1 = .ok (.ifCond .ne 11, 3) := by decide +kernel
theorem dX5_landingTold_4 : decode cX5_landingTold 4 = .ok (.getstatic 104, 3) := by decide +kernel
theorem dX5_landingTold_7 : decode cX5_landingTold 7 = .ok (.iload_n 1, 1) := by decide +kernel
theorem dX5_landingTold_8 : decode cX5_landingTold 8 = .ok (.iaload, 1) := by decide +kernel
theorem dX5_landingTold_9 : decode cX5_landingTold 9 = .ok (.goto 45, 3) := by decide +kernel
theorem dX5_landingTold_12 : decode cX5_landingTold 12 = .ok (.iload_n 2, 1) := by decide +kernel
theorem dX5_landingTold_13 : decode cX5_landingTold 13 = .ok (.iconst 1, 1) := by decide +kernel
theorem dX5_landingTold_14 : decode cX5_landingTold 14 = .ok (.if_icmp .ne 12, 3) := by decide +kernel
theorem dX5_landingTold_17 : decode cX5_landingTold 17 = .ok (.aload_n 0, 1) := by decide +kernel
theorem dX5_landingTold_18 : decode cX5_landingTold 18 = .ok (.getfield 23, 3) := by decide +kernel
theorem dX5_landingTold_21 : decode cX5_landingTold 21 = .ok (.iload_n 1, 1) := by decide +kernel
theorem dX5_landingTold_22 : decode cX5_landingTold 22 = .ok (.iaload, 1) := by decide +kernel
theorem dX5_landingTold_23 : decode cX5_landingTold 23 = .ok (.goto 31, 3) := by decide +kernel
theorem dX5_landingTold_26 : decode cX5_landingTold 26 = .ok (.iload_n 2, 1) := by decide +kernel
theorem dX5_landingTold_27 : decode cX5_landingTold 27 = .ok (.iconst 2, 1) := by decide +kernel
theorem dX5_landingTold_28 : decode cX5_landingTold 28 = .ok (.if_icmp .ne 16, 3) := by decide +kernel
theorem dX5_landingTold_31 : decode cX5_landingTold 31 = .ok (.iload_n 1, 1) := by decide +kernel
theorem dX5_landingTold_32 : decode cX5_landingTold 32 = .ok (.aload_n 0, 1) := by decide +kernel
theorem dX5_landingTold_33 : decode cX5_landingTold 33 = .ok (.getfield 23, 3) := by decide +kernel
theorem dX5_landingTold_36 : decode cX5_landingTold 36 = .ok (.iload_n 1, 1) := by decide +kernel
theorem dX5_landingTold_37 : decode cX5_landingTold 37 = .ok (.iaload, 1) := by decide +kernel
theorem dX5_landingTold_38 : decode cX5_landingTold 38 = .ok (.invokestatic 113, 3) := by decide +kernel
theorem dX5_landingTold_41 : decode cX5_landingTold 41 = .ok (.goto 13, 3) := by decide +kernel
theorem dX5_landingTold_44 : decode cX5_landingTold 44 = .ok (.iload_n 1, 1) := by decide +kernel
theorem dX5_landingTold_45 : decode cX5_landingTold 45 = .ok (.aload_n 0, 1) := by decide +kernel
theorem dX5_landingTold_46 : decode cX5_landingTold 46 = .ok (.getfield 23, 3) := by decide +kernel
theorem dX5_landingTold_49 : decode cX5_landingTold 49 = .ok (.iload_n 1, 1) := by decide +kernel
theorem dX5_landingTold_50 : decode cX5_landingTold 50 = .ok (.iaload, 1) := by decide +kernel
theorem dX5_landingTold_51 : decode cX5_landingTold 51 = .ok (.invokestatic 116, 3) := by decide +kernel
theorem dX5_landingTold_54 : decode cX5_landingTold 54 = .ok (.ireturn, 1) := by decide +kernel
set_option maxRecDepth 20000 in
theorem ggX5_landing_X5_isIn : GoodIn wsX5_landing wsX5_isIn := goodIn_r _ [5] (by decide +kernel) (by decide +kernel)
set_option maxRecDepth 20000 in
theorem gX5_landing_X5_isIn : GoodIn wsX5_landing (va_wsS RX5 44 yX5_isIn wsX5_isIn) := goodIn_app (goodIn_of _ (by decide +kernel)) ggX5_landing_X5_isIn
set_option maxRecDepth 20000 in
theorem ggX5_landing_X5_landingTold : GoodIn wsX5_landing wsX5_landingTold := goodIn_r _ [9, 10, 11, 12, 13, 4, 14, 15, 16, 17, 18, 19, 20, 21, 22, 27, 28, 29, 30, 31, 32, 33, 34, 35, 36, 37, 38, 39, 40] (by decide +kernel) (by decide +kernel)
set_option maxRecDepth 20000 in
theorem gX5_landing_X5_landingTold : GoodIn wsX5_landing (wsV RX5 128 RX5 yX5_landingTold wsX5_landingTold) := goodIn_app (goodIn_of _ (by decide +kernel)) ggX5_landing_X5_landingTold
set_option maxRecDepth 20000 in
theorem ggX5_landing_X5_no : GoodIn wsX5_landing wsX5_no := goodIn_r _ [26, 1, 27, 28, 29, 30, 31, 32, 33, 34, 35, 36, 37, 38, 39, 40] (by decide +kernel) (by decide +kernel)
set_option maxRecDepth 20000 in
theorem gX5_landing_X5_no : GoodIn wsX5_landing (wsV RX5 58 RX5 yX5_no wsX5_no) := goodIn_app (goodIn_of _ (by decide +kernel)) ggX5_landing_X5_no
theorem dX5_landing_0 : decode cX5_landing 0 = .ok (.aload_n 0, 1) := by decide +kernel
theorem dX5_landing_1 : decode cX5_landing 1 = .ok (.iconst 0, 1) := by decide +kernel
theorem dX5_landing_2 : decode cX5_landing 2 = .ok (.putfield 38, 3) := by decide +kernel
theorem dX5_landing_5 : decode cX5_landing 5 = .ok (.iload_n 1, 1) := by decide +kernel
theorem dX5_landing_6 : decode cX5_landing 6 = .ok (.iconst 0, 1) := by decide +kernel
theorem dX5_landing_7 : decode cX5_landing 7 = .ok (.iconst 2, 1) := by decide +kernel
theorem dX5_landing_8 : decode cX5_landing 8 = .ok (.invokestatic 44, 3) := by decide +kernel
theorem dX5_landing_11 : decode cX5_landing 11 = .ok (.ifCond .eq 21, 3) := by decide +kernel
theorem dX5_landing_14 : decode cX5_landing 14 = .ok (.iload_n 2, 1) := by decide +kernel
theorem dX5_landing_15 : decode cX5_landing 15 = .ok (.iconst 0, 1) := by decide +kernel
theorem dX5_landing_16 : decode cX5_landing 16 = .ok (.iconst 3, 1) := by decide +kernel
theorem dX5_landing_17 : decode cX5_landing 17 = .ok (.invokestatic 44, 3) := by decide +kernel
theorem dX5_landing_20 : decode cX5_landing 20 = .ok (.ifCond .eq 12, 3) := by decide +kernel
theorem dX5_landing_23 : decode cX5_landing 23 = .ok (.aload_n 0, 1) := by decide +kernel
theorem dX5_landing_24 : decode cX5_landing 24 = .ok (.iload_n 1, 1) := by decide +kernel
theorem dX5_landing_25 : decode cX5_landing 25 = .ok (.iload_n 2, 1) := by decide +kernel
theorem dX5_landing_26 : decode cX5_landing 26 = .ok (.invokevirtual 128, 3) := by decide +kernel
theorem dX5_landing_29 : decode cX5_landing 29 = .ok (.goto 8, 3) := by decide +kernel
theorem dX5_landing_32 : decode cX5_landing 32 = .ok (.aload_n 0, 1) := by decide +kernel
theorem dX5_landing_33 : decode cX5_landing 33 = .ok (.iconst 1, 1) := by decide +kernel
theorem dX5_landing_34 : decode cX5_landing 34 = .ok (.invokevirtual 58, 3) := by decide +kernel
theorem dX5_landing_37 : decode cX5_landing 37 = .ok (.ireturn, 1) := by decide +kernel
theorem dX5_left_0 : decode cX5_left 0 = .ok (.iload_n 0, 1) := by decide +kernel
theorem dX5_left_1 : decode cX5_left 1 = .ok (.iload_n 0, 1) := by decide +kernel
theorem dX5_left_2 : decode cX5_left 2 = .ok (.bipush 19, 2) := by decide +kernel
theorem dX5_left_4 : decode cX5_left 4 = .ok (.iadd, 1) := by decide +kernel
theorem dX5_left_5 : decode cX5_left 5 = .ok (.bipush 20, 2) := by decide +kernel
theorem dX5_left_7 : decode cX5_left 7 = .ok (.idiv, 1) := by decide +kernel
theorem dX5_left_8 : decode cX5_left 8 = .ok (.isub, 1) := by decide +kernel
theorem dX5_left_9 : decode cX5_left 9 = .ok (.ireturn, 1) := by decide +kernel
set_option maxRecDepth 20000 in
theorem ggX5_wouldBring_X5_days : GoodIn wsX5_wouldBring wsX5_days := goodIn_r _ [7, 8, 9, 10, 11] (by decide +kernel) (by decide +kernel)
set_option maxRecDepth 20000 in
theorem gX5_wouldBring_X5_days : GoodIn wsX5_wouldBring (va_wsS RX5 94 yX5_days wsX5_days) := goodIn_app (goodIn_of _ (by decide +kernel)) ggX5_wouldBring_X5_days
set_option maxRecDepth 20000 in
theorem ggX5_wouldBring_X5_left : GoodIn wsX5_wouldBring wsX5_left := goodIn_r _ [14] (by decide +kernel) (by decide +kernel)
set_option maxRecDepth 20000 in
theorem gX5_wouldBring_X5_left : GoodIn wsX5_wouldBring (va_wsS RX5 131 yX5_left wsX5_left) := goodIn_app (goodIn_of _ (by decide +kernel)) ggX5_wouldBring_X5_left
set_option maxRecDepth 20000 in
theorem ggX5_wouldBring_X5_brings : GoodIn wsX5_wouldBring wsX5_brings := goodIn_r _ [18, 2, 19, 20, 6, 21, 22, 23, 24, 10, 25, 26, 27, 28, 29, 30, 31, 32, 33, 34, 35, 36, 37, 38, 39, 40, 41, 42] (by decide +kernel) (by decide +kernel)
set_option maxRecDepth 20000 in
theorem gX5_wouldBring_X5_brings : GoodIn wsX5_wouldBring (wsV RX5 122 RX5 yX5_brings wsX5_brings) := goodIn_app (goodIn_of _ (by decide +kernel)) ggX5_wouldBring_X5_brings
theorem dX5_wouldBring_0 : decode cX5_wouldBring 0 = .ok (.aload_n 0, 1) := by decide +kernel
theorem dX5_wouldBring_1 : decode cX5_wouldBring 1 = .ok (.getfield 23, 3) := by decide +kernel
theorem dX5_wouldBring_4 : decode cX5_wouldBring 4 = .ok (.iload_n 2, 1) := by decide +kernel
theorem dX5_wouldBring_5 : decode cX5_wouldBring 5 = .ok (.iaload, 1) := by decide +kernel
theorem dX5_wouldBring_6 : decode cX5_wouldBring 6 = .ok (.istore_n 3, 1) := by decide +kernel
theorem dX5_wouldBring_7 : decode cX5_wouldBring 7 = .ok (.aload_n 0, 1) := by decide +kernel
theorem dX5_wouldBring_8 : decode cX5_wouldBring 8 = .ok (.getfield 20, 3) := by decide +kernel
theorem dX5_wouldBring_11 : decode cX5_wouldBring 11 = .ok (.iconst 5, 1) := by decide +kernel
theorem dX5_wouldBring_12 : decode cX5_wouldBring 12 = .ok (.iload_n 1, 1) := by decide +kernel
theorem dX5_wouldBring_13 : decode cX5_wouldBring 13 = .ok (.imul, 1) := by decide +kernel
theorem dX5_wouldBring_14 : decode cX5_wouldBring 14 = .ok (.iaload, 1) := by decide +kernel
theorem dX5_wouldBring_15 : decode cX5_wouldBring 15 = .ok (.getstatic 104, 3) := by decide +kernel
theorem dX5_wouldBring_18 : decode cX5_wouldBring 18 = .ok (.iload_n 2, 1) := by decide +kernel
theorem dX5_wouldBring_19 : decode cX5_wouldBring 19 = .ok (.iaload, 1) := by decide +kernel
theorem dX5_wouldBring_20 : decode cX5_wouldBring 20 = .ok (.invokestatic 94, 3) := by decide +kernel
theorem dX5_wouldBring_23 : decode cX5_wouldBring 23 = .ok (.istore 4, 2) := by decide +kernel
theorem dX5_wouldBring_25 : decode cX5_wouldBring 25 = .ok (.iload 4, 2) := by decide +kernel
theorem dX5_wouldBring_27 : decode cX5_wouldBring 27 = .ok (.ifCond .le 14, 3) := by decide +kernel
theorem dX5_wouldBring_30 : decode cX5_wouldBring 30 = .ok (.iload_n 3, 1) := by decide +kernel
theorem dX5_wouldBring_31 : decode cX5_wouldBring 31 = .ok (.invokestatic 131, 3) := by decide +kernel
theorem dX5_wouldBring_34 : decode cX5_wouldBring 34 = .ok (.istore_n 3, 1) := by decide +kernel
theorem dX5_wouldBring_35 : decode cX5_wouldBring 35 = .ok (.iinc 4 (-1), 3) := by decide +kernel
theorem dX5_wouldBring_38 : decode cX5_wouldBring 38 = .ok (.goto (-13), 3) := by decide +kernel
theorem dX5_wouldBring_41 : decode cX5_wouldBring 41 = .ok (.aload_n 0, 1) := by decide +kernel
theorem dX5_wouldBring_42 : decode cX5_wouldBring 42 = .ok (.iconst 5, 1) := by decide +kernel
theorem dX5_wouldBring_43 : decode cX5_wouldBring 43 = .ok (.iload_n 1, 1) := by decide +kernel
theorem dX5_wouldBring_44 : decode cX5_wouldBring 44 = .ok (.imul, 1) := by decide +kernel
theorem dX5_wouldBring_45 : decode cX5_wouldBring 45 = .ok (.iload_n 2, 1) := by decide +kernel
theorem dX5_wouldBring_46 : decode cX5_wouldBring 46 = .ok (.iload_n 3, 1) := by decide +kernel
theorem dX5_wouldBring_47 : decode cX5_wouldBring 47 = .ok (.invokevirtual 122, 3) := by decide +kernel
theorem dX5_wouldBring_50 : decode cX5_wouldBring 50 = .ok (.ireturn, 1) := by decide +kernel
set_option maxRecDepth 20000 in
theorem ggX5_would_X5_isBarge : GoodIn wsX5_would wsX5_isBarge := goodIn_r _ [6, 7, 8, 9, 5, 10, 46, 47, 48, 49, 50, 51, 52, 53, 54, 55, 56, 57, 58, 59] (by decide +kernel) (by decide +kernel)
set_option maxRecDepth 20000 in
theorem gX5_would_X5_isBarge : GoodIn wsX5_would (wsV RX5 91 RX5 yX5_isBarge wsX5_isBarge) := goodIn_app (goodIn_of _ (by decide +kernel)) ggX5_would_X5_isBarge
set_option maxRecDepth 20000 in
theorem ggX5_would_X5_isIn : GoodIn wsX5_would wsX5_isIn := goodIn_r _ [10] (by decide +kernel) (by decide +kernel)
set_option maxRecDepth 20000 in
theorem gX5_would_X5_isIn : GoodIn wsX5_would (va_wsS RX5 44 yX5_isIn wsX5_isIn) := goodIn_app (goodIn_of _ (by decide +kernel)) ggX5_would_X5_isIn
set_option maxRecDepth 20000 in
theorem ggX5_would_X5_wouldBring : GoodIn wsX5_would wsX5_wouldBring := goodIn_r _ [14, 15, 16, 17, 18, 19, 5, 20, 21, 22, 23, 24, 25, 26, 27, 28, 29, 30, 31, 32, 33, 34, 35, 36, 37, 38, 39, 40, 41, 46, 47, 48, 49, 50, 51, 52, 53, 54, 55, 56, 57, 58, 59] (by decide +kernel) (by decide +kernel)
set_option maxRecDepth 20000 in
theorem gX5_would_X5_wouldBring : GoodIn wsX5_would (wsV RX5 134 RX5 yX5_wouldBring wsX5_wouldBring) := goodIn_app (goodIn_of _ (by decide +kernel)) ggX5_would_X5_wouldBring
set_option maxRecDepth 20000 in
theorem ggX5_would_X5_no : GoodIn wsX5_would wsX5_no := goodIn_r _ [45, 1, 46, 47, 48, 49, 50, 51, 52, 53, 54, 55, 56, 57, 58, 59] (by decide +kernel) (by decide +kernel)
set_option maxRecDepth 20000 in
theorem gX5_would_X5_no : GoodIn wsX5_would (wsV RX5 58 RX5 yX5_no wsX5_no) := goodIn_app (goodIn_of _ (by decide +kernel)) ggX5_would_X5_no
theorem dX5_would_0 : decode cX5_would 0 = .ok (.aload_n 0, 1) := by decide +kernel
theorem dX5_would_1 : decode cX5_would 1 = .ok (.iconst 0, 1) := by decide +kernel
theorem dX5_would_2 : decode cX5_would 2 = .ok (.putfield 38, 3) := by decide +kernel
theorem dX5_would_5 : decode cX5_would 5 = .ok (.aload_n 0, 1) := by decide +kernel
theorem dX5_would_6 : decode cX5_would 6 = .ok (.iload_n 1, 1) := by decide +kernel
theorem dX5_would_7 : decode cX5_would 7 = .ok (.invokevirtual 91, 3) := by decide +kernel
theorem dX5_would_10 : decode cX5_would 10 = .ok (.ifCond .eq 21, 3) := by decide +kernel
theorem dX5_would_13 : decode cX5_would 13 = .ok (.iload_n 2, 1) := by decide +kernel
theorem dX5_would_14 : decode cX5_would 14 = .ok (.iconst 0, 1) := by decide +kernel
theorem dX5_would_15 : decode cX5_would 15 = .ok (.iconst 2, 1) := by decide +kernel
theorem dX5_would_16 : decode cX5_would 16 = .ok (.invokestatic 44, 3) := by decide +kernel
theorem dX5_would_19 : decode cX5_would 19 = .ok (.ifCond .eq 12, 3) := by decide +kernel
theorem dX5_would_22 : decode cX5_would 22 = .ok (.aload_n 0, 1) := by decide +kernel
theorem dX5_would_23 : decode cX5_would 23 = .ok (.iload_n 1, 1) := by decide +kernel
theorem dX5_would_24 : decode cX5_would 24 = .ok (.iload_n 2, 1) := by decide +kernel
theorem dX5_would_25 : decode cX5_would 25 = .ok (.invokevirtual 134, 3) := by decide +kernel
theorem dX5_would_28 : decode cX5_would 28 = .ok (.goto 8, 3) := by decide +kernel
theorem dX5_would_31 : decode cX5_would 31 = .ok (.aload_n 0, 1) := by decide +kernel
theorem dX5_would_32 : decode cX5_would 32 = .ok (.iconst 1, 1) := by decide +kernel
theorem dX5_would_33 : decode cX5_would 33 = .ok (.invokevirtual 58, 3) := by decide +kernel
theorem dX5_would_36 : decode cX5_would 36 = .ok (.ireturn, 1) := by decide +kernel
set_option maxRecDepth 20000 in
theorem ggX5_advise_X5_isBarge : GoodIn wsX5_advise wsX5_isBarge := goodIn_r _ [6, 7, 8, 9, 5, 10, 46, 47, 48, 49, 50, 51, 52, 53, 54, 55, 56, 57, 58, 59] (by decide +kernel) (by decide +kernel)
set_option maxRecDepth 20000 in
theorem gX5_advise_X5_isBarge : GoodIn wsX5_advise (wsV RX5 91 RX5 yX5_isBarge wsX5_isBarge) := goodIn_app (goodIn_of _ (by decide +kernel)) ggX5_advise_X5_isBarge
set_option maxRecDepth 20000 in
theorem ggX5_advise_X5_no : GoodIn wsX5_advise wsX5_no := goodIn_r _ [14, 1, 46, 47, 48, 49, 50, 51, 52, 53, 54, 55, 56, 57, 58, 59] (by decide +kernel) (by decide +kernel)
set_option maxRecDepth 20000 in
theorem gX5_advise_X5_no : GoodIn wsX5_advise (wsV RX5 58 RX5 yX5_no wsX5_no) := goodIn_app (goodIn_of _ (by decide +kernel)) ggX5_advise_X5_no
set_option maxRecDepth 20000 in
theorem ggX5_advise_X5_wouldBring : GoodIn wsX5_advise wsX5_wouldBring := goodIn_r _ [18, 19, 20, 21, 22, 23, 5, 24, 25, 26, 27, 28, 29, 30, 31, 32, 33, 34, 35, 36, 37, 38, 39, 40, 41, 42, 43, 44, 45, 46, 47, 48, 49, 50, 51, 52, 53, 54, 55, 56, 57, 58, 59] (by decide +kernel) (by decide +kernel)
set_option maxRecDepth 20000 in
theorem gX5_advise_X5_wouldBring : GoodIn wsX5_advise (wsV RX5 134 RX5 yX5_wouldBring wsX5_wouldBring) := goodIn_app (goodIn_of _ (by decide +kernel)) ggX5_advise_X5_wouldBring
theorem dX5_advise_0 : decode cX5_advise 0 = .ok (.aload_n 0, 1) := by decide +kernel
theorem dX5_advise_1 : decode cX5_advise 1 = .ok (.iconst 0, 1) := by decide +kernel
theorem dX5_advise_2 : decode cX5_advise 2 = .ok (.putfield 38, 3) := by decide +kernel
theorem dX5_advise_5 : decode cX5_advise 5 = .ok (.aload_n 0, 1) := by decide +kernel
theorem dX5_advise_6 : decode cX5_advise 6 = .ok (.iload_n 1, 1) := by decide +kernel
theorem dX5_advise_7 : decode cX5_advise 7 = .ok (.invokevirtual 91, 3) := by decide +kernel
theorem dX5_advise_10 : decode cX5_advise 10 = .ok (.ifCond .ne 9, 3) := by decide +kernel
theorem dX5_advise_13 : decode cX5_advise 13 = .ok (.aload_n 0, 1) := by decide +kernel
theorem dX5_advise_14 : decode cX5_advise 14 = .ok (.iconst 1, 1) := by decide +kernel
theorem dX5_advise_15 : decode cX5_advise 15 = .ok (.invokevirtual 58, 3) := by decide +kernel
theorem dX5_advise_18 : decode cX5_advise 18 = .ok (.ireturn, 1) := by decide +kernel
theorem dX5_advise_19 : decode cX5_advise 19 = .ok (.iconst 0, 1) := by decide +kernel
theorem dX5_advise_20 : decode cX5_advise 20 = .ok (.istore_n 2, 1) := by decide +kernel
theorem dX5_advise_21 : decode cX5_advise 21 = .ok (.iconst 1, 1) := by decide +kernel
theorem dX5_advise_22 : decode cX5_advise 22 = .ok (.istore_n 3, 1) := by decide +kernel
theorem dX5_advise_23 : decode cX5_advise 23 = .ok (.iload_n 3, 1) := by decide +kernel
theorem dX5_advise_24 : decode cX5_advise 24 = .ok (.iconst 3, 1) := by decide +kernel
theorem dX5_advise_25 : decode cX5_advise 25 = .ok (.if_icmp .ge 26, 3) := by decide +kernel
theorem dX5_advise_28 : decode cX5_advise 28 = .ok (.aload_n 0, 1) := by decide +kernel
theorem dX5_advise_29 : decode cX5_advise 29 = .ok (.iload_n 1, 1) := by decide +kernel
theorem dX5_advise_30 : decode cX5_advise 30 = .ok (.iload_n 3, 1) := by decide +kernel
theorem dX5_advise_31 : decode cX5_advise 31 = .ok (.invokevirtual 134, 3) := by decide +kernel
theorem dX5_advise_34 : decode cX5_advise 34 = .ok (.aload_n 0, 1) := by decide +kernel
theorem dX5_advise_35 : decode cX5_advise 35 = .ok (.iload_n 1, 1) := by decide +kernel
theorem dX5_advise_36 : decode cX5_advise 36 = .ok (.iload_n 2, 1) := by decide +kernel
theorem dX5_advise_37 : decode cX5_advise 37 = .ok (.invokevirtual 134, 3) := by decide +kernel
theorem dX5_advise_40 : decode cX5_advise 40 = .ok (.if_icmp .le 5, 3) := by decide +kernel
theorem dX5_advise_43 : decode cX5_advise 43 = .ok (.iload_n 3, 1) := by decide +kernel
theorem dX5_advise_44 : decode cX5_advise 44 = .ok (.istore_n 2, 1) := by decide +kernel
theorem dX5_advise_45 : decode cX5_advise 45 = .ok (.iinc 3 1, 3) := by decide +kernel
theorem dX5_advise_48 : decode cX5_advise 48 = .ok (.goto (-25), 3) := by decide +kernel
theorem dX5_advise_51 : decode cX5_advise 51 = .ok (.iload_n 2, 1) := by decide +kernel
theorem dX5_advise_52 : decode cX5_advise 52 = .ok (.ireturn, 1) := by decide +kernel
theorem dX5_sailOn_0 : decode cX5_sailOn 0 = .ok (.aload_n 1, 1) := by decide +kernel
theorem dX5_sailOn_1 : decode cX5_sailOn 1 = .ok (.iload_n 2, 1) := by decide +kernel
theorem dX5_sailOn_2 : decode cX5_sailOn 2 = .ok (.iconst 1, 1) := by decide +kernel
theorem dX5_sailOn_3 : decode cX5_sailOn 3 = .ok (.iadd, 1) := by decide +kernel
theorem dX5_sailOn_4 : decode cX5_sailOn 4 = .ok (.iaload, 1) := by decide +kernel
theorem dX5_sailOn_5 : decode cX5_sailOn 5 = .ok (.istore_n 3, 1) := by decide +kernel
theorem dX5_sailOn_6 : decode cX5_sailOn 6 = .ok (.iload_n 3, 1) := by decide +kernel
theorem dX5_sailOn_7 : decode cX5_sailOn 7 = .ok (.ifCond .ge 4, 3) := by decide +kernel
theorem dX5_sailOn_10 : decode cX5_sailOn 10 = .ok (.return_, 1) := by decide +kernel
theorem dX5_sailOn_11 : decode cX5_sailOn 11 = .ok (.iload_n 3, 1) := by decide +kernel
theorem dX5_sailOn_12 : decode cX5_sailOn 12 = .ok (.aload_n 1, 1) := by decide +kernel
theorem dX5_sailOn_13 : decode cX5_sailOn 13 = .ok (.iload_n 2, 1) := by decide +kernel
theorem dX5_sailOn_14 : decode cX5_sailOn 14 = .ok (.iaload, 1) := by decide +kernel
theorem dX5_sailOn_15 : decode cX5_sailOn 15 = .ok (.isub, 1) := by decide +kernel
theorem dX5_sailOn_16 : decode cX5_sailOn 16 = .ok (.istore 4, 2) := by decide +kernel
theorem dX5_sailOn_18 : decode cX5_sailOn 18 = .ok (.aload_n 1, 1) := by decide +kernel
theorem dX5_sailOn_19 : decode cX5_sailOn 19 = .ok (.iload_n 2, 1) := by decide +kernel
theorem dX5_sailOn_20 : decode cX5_sailOn 20 = .ok (.dup2, 1) := by decide +kernel
theorem dX5_sailOn_21 : decode cX5_sailOn 21 = .ok (.iaload, 1) := by decide +kernel
theorem dX5_sailOn_22 : decode cX5_sailOn 22 = .ok (.bipush (-5), 2) := by decide +kernel
theorem dX5_sailOn_24 : decode cX5_sailOn 24 = .ok (.iconst 5, 1) := by decide +kernel
theorem dX5_sailOn_25 : decode cX5_sailOn 25 = .ok (.iload 4, 2) := by decide +kernel
theorem dX5_sailOn_27 : decode cX5_sailOn 27 = .ok (.invokestatic 73, 3) := by decide +kernel
theorem dX5_sailOn_30 : decode cX5_sailOn 30 = .ok (.invokestatic 110, 3) := by decide +kernel
theorem dX5_sailOn_33 : decode cX5_sailOn 33 = .ok (.iadd, 1) := by decide +kernel
theorem dX5_sailOn_34 : decode cX5_sailOn 34 = .ok (.iastore, 1) := by decide +kernel
theorem dX5_sailOn_35 : decode cX5_sailOn 35 = .ok (.aload_n 1, 1) := by decide +kernel
theorem dX5_sailOn_36 : decode cX5_sailOn 36 = .ok (.iload_n 2, 1) := by decide +kernel
theorem dX5_sailOn_37 : decode cX5_sailOn 37 = .ok (.iaload, 1) := by decide +kernel
theorem dX5_sailOn_38 : decode cX5_sailOn 38 = .ok (.iload_n 3, 1) := by decide +kernel
theorem dX5_sailOn_39 : decode cX5_sailOn 39 = .ok (.if_icmp .ne 9, 3) := by decide +kernel
theorem dX5_sailOn_42 : decode cX5_sailOn 42 = .ok (.aload_n 1, 1) := by decide +kernel
theorem dX5_sailOn_43 : decode cX5_sailOn 43 = .ok (.iload_n 2, 1) := by decide +kernel
theorem dX5_sailOn_44 : decode cX5_sailOn 44 = .ok (.iconst 1, 1) := by decide +kernel
theorem dX5_sailOn_45 : decode cX5_sailOn 45 = .ok (.iadd, 1) := by decide +kernel
theorem dX5_sailOn_46 : decode cX5_sailOn 46 = .ok (.iconst (-1), 1) := by decide +kernel
theorem dX5_sailOn_47 : decode cX5_sailOn 47 = .ok (.iastore, 1) := by decide +kernel
theorem dX5_sailOn_48 : decode cX5_sailOn 48 = .ok (.return_, 1) := by decide +kernel
theorem dX5_rot_0 : decode cX5_rot 0 = .ok (.aload_n 0, 1) := by decide +kernel
theorem dX5_rot_1 : decode cX5_rot 1 = .ok (.iload_n 1, 1) := by decide +kernel
theorem dX5_rot_2 : decode cX5_rot 2 = .ok (.iaload, 1) := by decide +kernel
theorem dX5_rot_3 : decode cX5_rot 3 = .ok (.bipush 9, 2) := by decide +kernel
theorem dX5_rot_5 : decode cX5_rot 5 = .ok (.iadd, 1) := by decide +kernel
theorem dX5_rot_6 : decode cX5_rot 6 = .ok (.bipush 10, 2) := by decide +kernel
theorem dX5_rot_8 : decode cX5_rot 8 = .ok (.idiv, 1) := by decide +kernel
theorem dX5_rot_9 : decode cX5_rot 9 = .ok (.istore_n 2, 1) := by decide +kernel
theorem dX5_rot_10 : decode cX5_rot 10 = .ok (.aload_n 0, 1) := by decide +kernel
theorem dX5_rot_11 : decode cX5_rot 11 = .ok (.iload_n 1, 1) := by decide +kernel
theorem dX5_rot_12 : decode cX5_rot 12 = .ok (.dup2, 1) := by decide +kernel
theorem dX5_rot_13 : decode cX5_rot 13 = .ok (.iaload, 1) := by decide +kernel
theorem dX5_rot_14 : decode cX5_rot 14 = .ok (.iload_n 2, 1) := by decide +kernel
theorem dX5_rot_15 : decode cX5_rot 15 = .ok (.isub, 1) := by decide +kernel
theorem dX5_rot_16 : decode cX5_rot 16 = .ok (.iastore, 1) := by decide +kernel
theorem dX5_rot_17 : decode cX5_rot 17 = .ok (.iload_n 2, 1) := by decide +kernel
theorem dX5_rot_18 : decode cX5_rot 18 = .ok (.ireturn, 1) := by decide +kernel
theorem dX5_hasReedBeside_0 : decode cX5_hasReedBeside 0 = .ok (.iconst 0, 1) := by decide +kernel
theorem dX5_hasReedBeside_1 : decode cX5_hasReedBeside 1 = .ok (.istore_n 3, 1) := by decide +kernel
theorem dX5_hasReedBeside_2 : decode cX5_hasReedBeside 2 = .ok (.iconst 0, 1) := by decide +kernel
theorem dX5_hasReedBeside_3 : decode cX5_hasReedBeside 3 = .ok (.istore 4, 2) := by decide +kernel
theorem dX5_hasReedBeside_5 : decode cX5_hasReedBeside 5 = .ok (.iload 4, 2) := by decide +kernel
theorem dX5_hasReedBeside_7 : decode cX5_hasReedBeside 7 = .ok (.aload_n 0, 1) := by decide +kernel
theorem dX5_hasReedBeside_8 : decode cX5_hasReedBeside 8 = .ok (.getfield 41, 3) := by decide +kernel
theorem dX5_hasReedBeside_11 : decode cX5_hasReedBeside 11 = .ok (.if_icmp .ge 67, 3) := by decide +kernel
theorem dX5_hasReedBeside_14 : decode cX5_hasReedBeside 14 = .ok (.iload_n 3, 1) := by decide +kernel
theorem dX5_hasReedBeside_15 : decode cX5_hasReedBeside 15 = .ok (.iload 4, 2) := by decide +kernel
theorem dX5_hasReedBeside_17 : decode cX5_hasReedBeside 17 = .ok (.iload_n 2, 1) := by decide +kernel
theorem dX5_hasReedBeside_18 : decode cX5_hasReedBeside 18 = .ok (.if_icmp .eq 51, 3) := by decide +kernel
theorem dX5_hasReedBeside_21 : decode cX5_hasReedBeside 21 = .ok (.aload_n 1, 1) := by decide +kernel
theorem dX5_hasReedBeside_22 : decode cX5_hasReedBeside 22 = .ok (.bipush 8, 2) := by decide +kernel
theorem dX5_hasReedBeside_24 : decode cX5_hasReedBeside 24 = .ok (.iload 4, 2) := by decide +kernel
theorem dX5_hasReedBeside_26 : decode cX5_hasReedBeside 26 = .ok (.imul, 1) := by decide +kernel
theorem dX5_hasReedBeside_27 : decode cX5_hasReedBeside 27 = .ok (.iaload, 1) := by decide +kernel
theorem dX5_hasReedBeside_28 : decode cX5_hasReedBeside 28 = .ok (.aload_n 1, 1) := by decide +kernel
theorem dX5_hasReedBeside_29 : decode cX5_hasReedBeside 29 = .ok (.bipush 8, 2) := by decide +kernel
theorem dX5_hasReedBeside_31 : decode cX5_hasReedBeside 31 = .ok (.iload_n 2, 1) := by decide +kernel
theorem dX5_hasReedBeside_32 : decode cX5_hasReedBeside 32 = .ok (.imul, 1) := by decide +kernel
theorem dX5_hasReedBeside_33 : decode cX5_hasReedBeside 33 = .ok (.iaload, 1) := by decide +kernel
theorem dX5_hasReedBeside_34 : decode cX5_hasReedBeside 34 = .ok (.isub, 1) := by decide +kernel
theorem dX5_hasReedBeside_35 : decode cX5_hasReedBeside 35 = .ok (.invokestatic 88, 3) := by decide +kernel
theorem dX5_hasReedBeside_38 : decode cX5_hasReedBeside 38 = .ok (.iconst 4, 1) := by decide +kernel
theorem dX5_hasReedBeside_39 : decode cX5_hasReedBeside 39 = .ok (.if_icmp .gt 30, 3) := by decide +kernel
theorem dX5_hasReedBeside_42 : decode cX5_hasReedBeside 42 = .ok (.aload_n 1, 1) := by decide +kernel
theorem dX5_hasReedBeside_43 : decode cX5_hasReedBeside 43 = .ok (.bipush 8, 2) := by decide +kernel
theorem dX5_hasReedBeside_45 : decode cX5_hasReedBeside 45 = .ok (.iload 4, 2) := by decide +kernel
theorem dX5_hasReedBeside_47 : decode cX5_hasReedBeside 47 = .ok (.imul, 1) := by decide +kernel
theorem dX5_hasReedBeside_48 : decode cX5_hasReedBeside 48 = .ok (.iconst 3, 1) := by decide +kernel
theorem dX5_hasReedBeside_49 : decode cX5_hasReedBeside 49 = .ok (.iadd, 1) := by decide +kernel
theorem dX5_hasReedBeside_50 : decode cX5_hasReedBeside 50 = .ok (.iaload, 1) := by decide +kernel
theorem dX5_hasReedBeside_51 : decode cX5_hasReedBeside 51 = .ok (.aload_n 1, 1) := by decide +kernel
theorem dX5_hasReedBeside_52 : decode cX5_hasReedBeside 52 = .ok (.bipush 8, 2) := by decide +kernel
theorem dX5_hasReedBeside_54 : decode cX5_hasReedBeside 54 = .ok (.iload_n 2, 1) := by decide +kernel
theorem dX5_hasReedBeside_55 : decode cX5_hasReedBeside 55 = .ok (.imul, 1) := by decide +kernel
theorem dX5_hasReedBeside_56 : decode cX5_hasReedBeside 56 = .ok (.iconst 3, 1) := by decide +kernel
theorem dX5_hasReedBeside_57 : decode cX5_hasReedBeside 57 = .ok (.iadd, 1) := by decide +kernel
theorem dX5_hasReedBeside_58 : decode cX5_hasReedBeside 58 = .ok (.iaload, 1) := by decide +kernel
theorem dX5_hasReedBeside_59 : decode cX5_hasReedBeside 59 = .ok (.bipush 30, 2) := by decide +kernel
theorem dX5_hasReedBeside_61 : decode cX5_hasReedBeside 61 = .ok (.isub, 1) := by decide +kernel
theorem dX5_hasReedBeside_62 : decode cX5_hasReedBeside 62 = .ok (.if_icmp .gt 7, 3) := by decide +kernel
theorem dX5_hasReedBeside_65 : decode cX5_hasReedBeside 65 = .ok (.iconst 1, 1) := by decide +kernel
theorem dX5_hasReedBeside_66 : decode cX5_hasReedBeside 66 = .ok (.goto 4, 3) := by decide +kernel
theorem dX5_hasReedBeside_69 : decode cX5_hasReedBeside 69 = .ok (.iconst 0, 1) := by decide +kernel
theorem dX5_hasReedBeside_70 : decode cX5_hasReedBeside 70 = .ok (.ior, 1) := by decide +kernel
theorem dX5_hasReedBeside_71 : decode cX5_hasReedBeside 71 = .ok (.istore_n 3, 1) := by decide +kernel
theorem dX5_hasReedBeside_72 : decode cX5_hasReedBeside 72 = .ok (.iinc 4 1, 3) := by decide +kernel
theorem dX5_hasReedBeside_75 : decode cX5_hasReedBeside 75 = .ok (.goto (-70), 3) := by decide +kernel
theorem dX5_hasReedBeside_78 : decode cX5_hasReedBeside 78 = .ok (.iload_n 3, 1) := by decide +kernel
theorem dX5_hasReedBeside_79 : decode cX5_hasReedBeside 79 = .ok (.ireturn, 1) := by decide +kernel
set_option maxRecDepth 20000 in
theorem ggX5_endYear_X5_hasReedBeside : GoodIn wsX5_endYear wsX5_hasReedBeside := goodIn_r _ [14, 1, 15, 16, 5, 17, 18, 19, 20, 21, 22, 23, 24, 25, 26, 27, 28, 29, 30, 31] (by decide +kernel) (by decide +kernel)
set_option maxRecDepth 20000 in
theorem gX5_endYear_X5_hasReedBeside : GoodIn wsX5_endYear (wsV RX5 137 RX5 yX5_hasReedBeside wsX5_hasReedBeside) := goodIn_app (goodIn_of _ (by decide +kernel)) ggX5_endYear_X5_hasReedBeside
theorem dX5_endYear_0 : decode cX5_endYear 0 = .ok (.iconst 0, 1) := by decide +kernel
theorem dX5_endYear_1 : decode cX5_endYear 1 = .ok (.istore_n 2, 1) := by decide +kernel
theorem dX5_endYear_2 : decode cX5_endYear 2 = .ok (.iload_n 2, 1) := by decide +kernel
theorem dX5_endYear_3 : decode cX5_endYear 3 = .ok (.aload_n 0, 1) := by decide +kernel
theorem dX5_endYear_4 : decode cX5_endYear 4 = .ok (.getfield 41, 3) := by decide +kernel
theorem dX5_endYear_7 : decode cX5_endYear 7 = .ok (.if_icmp .ge 60, 3) := by decide +kernel
theorem dX5_endYear_10 : decode cX5_endYear 10 = .ok (.aload_n 1, 1) := by decide +kernel
theorem dX5_endYear_11 : decode cX5_endYear 11 = .ok (.bipush 8, 2) := by decide +kernel
theorem dX5_endYear_13 : decode cX5_endYear 13 = .ok (.iload_n 2, 1) := by decide +kernel
theorem dX5_endYear_14 : decode cX5_endYear 14 = .ok (.imul, 1) := by decide +kernel
theorem dX5_endYear_15 : decode cX5_endYear 15 = .ok (.iconst 2, 1) := by decide +kernel
theorem dX5_endYear_16 : decode cX5_endYear 16 = .ok (.iadd, 1) := by decide +kernel
theorem dX5_endYear_17 : decode cX5_endYear 17 = .ok (.iaload, 1) := by decide +kernel
theorem dX5_endYear_18 : decode cX5_endYear 18 = .ok (.istore_n 3, 1) := by decide +kernel
theorem dX5_endYear_19 : decode cX5_endYear 19 = .ok (.aload_n 0, 1) := by decide +kernel
theorem dX5_endYear_20 : decode cX5_endYear 20 = .ok (.getfield 35, 3) := by decide +kernel
theorem dX5_endYear_23 : decode cX5_endYear 23 = .ok (.iload_n 2, 1) := by decide +kernel
theorem dX5_endYear_24 : decode cX5_endYear 24 = .ok (.iload_n 3, 1) := by decide +kernel
theorem dX5_endYear_25 : decode cX5_endYear 25 = .ok (.bipush 6, 2) := by decide +kernel
theorem dX5_endYear_27 : decode cX5_endYear 27 = .ok (.if_icmp .lt 8, 3) := by decide +kernel
theorem dX5_endYear_30 : decode cX5_endYear 30 = .ok (.bipush (-6), 2) := by decide +kernel
theorem dX5_endYear_32 : decode cX5_endYear 32 = .ok (.goto 13, 3) := by decide +kernel
theorem dX5_endYear_35 : decode cX5_endYear 35 = .ok (.iload_n 3, 1) := by decide +kernel
theorem dX5_endYear_36 : decode cX5_endYear 36 = .ok (.iconst 1, 1) := by decide +kernel
theorem dX5_endYear_37 : decode cX5_endYear 37 = .ok (.if_icmp .lt 7, 3) := by decide +kernel
theorem dX5_endYear_40 : decode cX5_endYear 40 = .ok (.iconst 2, 1) := by decide +kernel
theorem dX5_endYear_41 : decode cX5_endYear 41 = .ok (.goto 4, 3) := by decide +kernel
theorem dX5_endYear_44 : decode cX5_endYear 44 = .ok (.iconst 0, 1) := by decide +kernel
theorem dX5_endYear_45 : decode cX5_endYear 45 = .ok (.aload_n 0, 1) := by decide +kernel
theorem dX5_endYear_46 : decode cX5_endYear 46 = .ok (.aload_n 1, 1) := by decide +kernel
theorem dX5_endYear_47 : decode cX5_endYear 47 = .ok (.iload_n 2, 1) := by decide +kernel
theorem dX5_endYear_48 : decode cX5_endYear 48 = .ok (.invokevirtual 137, 3) := by decide +kernel
theorem dX5_endYear_51 : decode cX5_endYear 51 = .ok (.ifCond .eq 7, 3) := by decide +kernel
theorem dX5_endYear_54 : decode cX5_endYear 54 = .ok (.iconst 3, 1) := by decide +kernel
theorem dX5_endYear_55 : decode cX5_endYear 55 = .ok (.goto 4, 3) := by decide +kernel
theorem dX5_endYear_58 : decode cX5_endYear 58 = .ok (.iconst 0, 1) := by decide +kernel
theorem dX5_endYear_59 : decode cX5_endYear 59 = .ok (.isub, 1) := by decide +kernel
theorem dX5_endYear_60 : decode cX5_endYear 60 = .ok (.iastore, 1) := by decide +kernel
theorem dX5_endYear_61 : decode cX5_endYear 61 = .ok (.iinc 2 1, 3) := by decide +kernel
theorem dX5_endYear_64 : decode cX5_endYear 64 = .ok (.goto (-62), 3) := by decide +kernel
theorem dX5_endYear_67 : decode cX5_endYear 67 = .ok (.iconst 0, 1) := by decide +kernel
theorem dX5_endYear_68 : decode cX5_endYear 68 = .ok (.istore_n 2, 1) := by decide +kernel
theorem dX5_endYear_69 : decode cX5_endYear 69 = .ok (.iload_n 2, 1) := by decide +kernel
theorem dX5_endYear_70 : decode cX5_endYear 70 = .ok (.aload_n 0, 1) := by decide +kernel
theorem dX5_endYear_71 : decode cX5_endYear 71 = .ok (.getfield 41, 3) := by decide +kernel
theorem dX5_endYear_74 : decode cX5_endYear 74 = .ok (.if_icmp .ge 64, 3) := by decide +kernel
theorem dX5_endYear_77 : decode cX5_endYear 77 = .ok (.aload_n 1, 1) := by decide +kernel
theorem dX5_endYear_78 : decode cX5_endYear 78 = .ok (.bipush 8, 2) := by decide +kernel
theorem dX5_endYear_80 : decode cX5_endYear 80 = .ok (.iload_n 2, 1) := by decide +kernel
theorem dX5_endYear_81 : decode cX5_endYear 81 = .ok (.imul, 1) := by decide +kernel
theorem dX5_endYear_82 : decode cX5_endYear 82 = .ok (.iconst 3, 1) := by decide +kernel
theorem dX5_endYear_83 : decode cX5_endYear 83 = .ok (.iadd, 1) := by decide +kernel
theorem dX5_endYear_84 : decode cX5_endYear 84 = .ok (.iconst 0, 1) := by decide +kernel
theorem dX5_endYear_85 : decode cX5_endYear 85 = .ok (.bipush 100, 2) := by decide +kernel
theorem dX5_endYear_87 : decode cX5_endYear 87 = .ok (.aload_n 1, 1) := by decide +kernel
theorem dX5_endYear_88 : decode cX5_endYear 88 = .ok (.bipush 8, 2) := by decide +kernel
theorem dX5_endYear_90 : decode cX5_endYear 90 = .ok (.iload_n 2, 1) := by decide +kernel
theorem dX5_endYear_91 : decode cX5_endYear 91 = .ok (.imul, 1) := by decide +kernel
theorem dX5_endYear_92 : decode cX5_endYear 92 = .ok (.iconst 3, 1) := by decide +kernel
theorem dX5_endYear_93 : decode cX5_endYear 93 = .ok (.iadd, 1) := by decide +kernel
theorem dX5_endYear_94 : decode cX5_endYear 94 = .ok (.iaload, 1) := by decide +kernel
theorem dX5_endYear_95 : decode cX5_endYear 95 = .ok (.aload_n 0, 1) := by decide +kernel
theorem dX5_endYear_96 : decode cX5_endYear 96 = .ok (.getfield 35, 3) := by decide +kernel
theorem dX5_endYear_99 : decode cX5_endYear 99 = .ok (.iload_n 2, 1) := by decide +kernel
theorem dX5_endYear_100 : decode cX5_endYear 100 = .ok (.iaload, 1) := by decide +kernel
theorem dX5_endYear_101 : decode cX5_endYear 101 = .ok (.iadd, 1) := by decide +kernel
theorem dX5_endYear_102 : decode cX5_endYear 102 = .ok (.invokestatic 73, 3) := by decide +kernel
theorem dX5_endYear_105 : decode cX5_endYear 105 = .ok (.invokestatic 110, 3) := by decide +kernel
theorem dX5_endYear_108 : decode cX5_endYear 108 = .ok (.iastore, 1) := by decide +kernel
theorem dX5_endYear_109 : decode cX5_endYear 109 = .ok (.aload_n 1, 1) := by decide +kernel
theorem dX5_endYear_110 : decode cX5_endYear 110 = .ok (.bipush 8, 2) := by decide +kernel
theorem dX5_endYear_112 : decode cX5_endYear 112 = .ok (.iload_n 2, 1) := by decide +kernel
theorem dX5_endYear_113 : decode cX5_endYear 113 = .ok (.imul, 1) := by decide +kernel
theorem dX5_endYear_114 : decode cX5_endYear 114 = .ok (.iconst 2, 1) := by decide +kernel
theorem dX5_endYear_115 : decode cX5_endYear 115 = .ok (.iadd, 1) := by decide +kernel
theorem dX5_endYear_116 : decode cX5_endYear 116 = .ok (.bipush 9, 2) := by decide +kernel
theorem dX5_endYear_118 : decode cX5_endYear 118 = .ok (.aload_n 1, 1) := by decide +kernel
theorem dX5_endYear_119 : decode cX5_endYear 119 = .ok (.bipush 8, 2) := by decide +kernel
theorem dX5_endYear_121 : decode cX5_endYear 121 = .ok (.iload_n 2, 1) := by decide +kernel
theorem dX5_endYear_122 : decode cX5_endYear 122 = .ok (.imul, 1) := by decide +kernel
theorem dX5_endYear_123 : decode cX5_endYear 123 = .ok (.iconst 2, 1) := by decide +kernel
theorem dX5_endYear_124 : decode cX5_endYear 124 = .ok (.iadd, 1) := by decide +kernel
theorem dX5_endYear_125 : decode cX5_endYear 125 = .ok (.iaload, 1) := by decide +kernel
theorem dX5_endYear_126 : decode cX5_endYear 126 = .ok (.iconst 1, 1) := by decide +kernel
theorem dX5_endYear_127 : decode cX5_endYear 127 = .ok (.iadd, 1) := by decide +kernel
theorem dX5_endYear_128 : decode cX5_endYear 128 = .ok (.invokestatic 73, 3) := by decide +kernel
theorem dX5_endYear_131 : decode cX5_endYear 131 = .ok (.iastore, 1) := by decide +kernel
theorem dX5_endYear_132 : decode cX5_endYear 132 = .ok (.iinc 2 1, 3) := by decide +kernel
theorem dX5_endYear_135 : decode cX5_endYear 135 = .ok (.goto (-66), 3) := by decide +kernel
theorem dX5_endYear_138 : decode cX5_endYear 138 = .ok (.return_, 1) := by decide +kernel
set_option maxRecDepth 20000 in
theorem ggX5_pass_X5_sailOn : GoodIn wsX5_pass wsX5_sailOn := goodIn_r _ [7, 8, 9, 10, 11, 12, 13, 14] (by decide +kernel) (by decide +kernel)
set_option maxRecDepth 20000 in
theorem gX5_pass_X5_sailOn : GoodIn wsX5_pass (wsV RX5 141 RX5 yX5_sailOn wsX5_sailOn) := goodIn_app (goodIn_of _ (by decide +kernel)) ggX5_pass_X5_sailOn
set_option maxRecDepth 20000 in
theorem ggX5_pass_X5_rot : GoodIn wsX5_pass wsX5_rot := goodIn_r _ [17] (by decide +kernel) (by decide +kernel)
set_option maxRecDepth 20000 in
theorem gX5_pass_X5_rot : GoodIn wsX5_pass (va_wsS RX5 145 yX5_rot wsX5_rot) := goodIn_app (goodIn_of _ (by decide +kernel)) ggX5_pass_X5_rot
set_option maxRecDepth 20000 in
theorem ggX5_pass_X5_left : GoodIn wsX5_pass wsX5_left := goodIn_r _ [20] (by decide +kernel) (by decide +kernel)
set_option maxRecDepth 20000 in
theorem gX5_pass_X5_left : GoodIn wsX5_pass (va_wsS RX5 131 yX5_left wsX5_left) := goodIn_app (goodIn_of _ (by decide +kernel)) ggX5_pass_X5_left
set_option maxRecDepth 20000 in
theorem ggX5_pass_X5_endYear : GoodIn wsX5_pass wsX5_endYear := goodIn_r _ [24, 2, 25, 8, 9, 10, 11, 12, 13, 14, 26, 27, 28, 6, 29, 30, 31, 32, 33, 34, 35, 36, 37, 38, 39, 40, 41, 42, 43, 44, 45, 46] (by decide +kernel) (by decide +kernel)
set_option maxRecDepth 20000 in
theorem gX5_pass_X5_endYear : GoodIn wsX5_pass (wsV RX5 84 RX5 yX5_endYear wsX5_endYear) := goodIn_app (goodIn_of _ (by decide +kernel)) ggX5_pass_X5_endYear
theorem dX5_pass_0 : decode cX5_pass 0 = .ok (.iconst 0, 1) := by decide +kernel
theorem dX5_pass_1 : decode cX5_pass 1 = .ok (.istore 5, 2) := by decide +kernel
theorem dX5_pass_3 : decode cX5_pass 3 = .ok (.iconst 0, 1) := by decide +kernel
theorem dX5_pass_4 : decode cX5_pass 4 = .ok (.istore 6, 2) := by decide +kernel
theorem dX5_pass_6 : decode cX5_pass 6 = .ok (.iload 6, 2) := by decide +kernel
theorem dX5_pass_8 : decode cX5_pass 8 = .ok (.aload_n 0, 1) := by decide +kernel
theorem dX5_pass_9 : decode cX5_pass 9 = .ok (.getfield 48, 3) := by decide +kernel
theorem dX5_pass_12 : decode cX5_pass 12 = .ok (.if_icmp .ge 18, 3) := by decide +kernel
theorem dX5_pass_15 : decode cX5_pass 15 = .ok (.aload_n 0, 1) := by decide +kernel
theorem dX5_pass_16 : decode cX5_pass 16 = .ok (.aload_n 2, 1) := by decide +kernel
theorem dX5_pass_17 : decode cX5_pass 17 = .ok (.iconst 5, 1) := by decide +kernel
theorem dX5_pass_18 : decode cX5_pass 18 = .ok (.iload 6, 2) := by decide +kernel
theorem dX5_pass_20 : decode cX5_pass 20 = .ok (.imul, 1) := by decide +kernel
theorem dX5_pass_21 : decode cX5_pass 21 = .ok (.invokevirtual 141, 3) := by decide +kernel
theorem dX5_pass_24 : decode cX5_pass 24 = .ok (.iinc 6 1, 3) := by decide +kernel
theorem dX5_pass_27 : decode cX5_pass 27 = .ok (.goto (-21), 3) := by decide +kernel
theorem dX5_pass_30 : decode cX5_pass 30 = .ok (.iconst 0, 1) := by decide +kernel
theorem dX5_pass_31 : decode cX5_pass 31 = .ok (.istore 6, 2) := by decide +kernel
theorem dX5_pass_33 : decode cX5_pass 33 = .ok (.iload 6, 2) := by decide +kernel
theorem dX5_pass_35 : decode cX5_pass 35 = .ok (.aload_n 0, 1) := by decide +kernel
theorem dX5_pass_36 : decode cX5_pass 36 = .ok (.getfield 41, 3) := by decide +kernel
theorem dX5_pass_39 : decode cX5_pass 39 = .ok (.if_icmp .ge 39, 3) := by decide +kernel
theorem dX5_pass_42 : decode cX5_pass 42 = .ok (.iload 5, 2) := by decide +kernel
theorem dX5_pass_44 : decode cX5_pass 44 = .ok (.aload_n 1, 1) := by decide +kernel
theorem dX5_pass_45 : decode cX5_pass 45 = .ok (.bipush 8, 2) := by decide +kernel
theorem dX5_pass_47 : decode cX5_pass 47 = .ok (.iload 6, 2) := by decide +kernel
theorem dX5_pass_49 : decode cX5_pass 49 = .ok (.imul, 1) := by decide +kernel
theorem dX5_pass_50 : decode cX5_pass 50 = .ok (.iconst 4, 1) := by decide +kernel
theorem dX5_pass_51 : decode cX5_pass 51 = .ok (.iadd, 1) := by decide +kernel
theorem dX5_pass_52 : decode cX5_pass 52 = .ok (.invokestatic 145, 3) := by decide +kernel
theorem dX5_pass_55 : decode cX5_pass 55 = .ok (.aload_n 1, 1) := by decide +kernel
theorem dX5_pass_56 : decode cX5_pass 56 = .ok (.bipush 8, 2) := by decide +kernel
theorem dX5_pass_58 : decode cX5_pass 58 = .ok (.iload 6, 2) := by decide +kernel
theorem dX5_pass_60 : decode cX5_pass 60 = .ok (.imul, 1) := by decide +kernel
theorem dX5_pass_61 : decode cX5_pass 61 = .ok (.iconst 4, 1) := by decide +kernel
theorem dX5_pass_62 : decode cX5_pass 62 = .ok (.iadd, 1) := by decide +kernel
theorem dX5_pass_63 : decode cX5_pass 63 = .ok (.iconst 1, 1) := by decide +kernel
theorem dX5_pass_64 : decode cX5_pass 64 = .ok (.iadd, 1) := by decide +kernel
theorem dX5_pass_65 : decode cX5_pass 65 = .ok (.invokestatic 145, 3) := by decide +kernel
theorem dX5_pass_68 : decode cX5_pass 68 = .ok (.iadd, 1) := by decide +kernel
theorem dX5_pass_69 : decode cX5_pass 69 = .ok (.iadd, 1) := by decide +kernel
theorem dX5_pass_70 : decode cX5_pass 70 = .ok (.istore 5, 2) := by decide +kernel
theorem dX5_pass_72 : decode cX5_pass 72 = .ok (.iinc 6 1, 3) := by decide +kernel
theorem dX5_pass_75 : decode cX5_pass 75 = .ok (.goto (-42), 3) := by decide +kernel
theorem dX5_pass_78 : decode cX5_pass 78 = .ok (.iconst 0, 1) := by decide +kernel
theorem dX5_pass_79 : decode cX5_pass 79 = .ok (.istore 6, 2) := by decide +kernel
theorem dX5_pass_81 : decode cX5_pass 81 = .ok (.iload 6, 2) := by decide +kernel
theorem dX5_pass_83 : decode cX5_pass 83 = .ok (.iconst 3, 1) := by decide +kernel
theorem dX5_pass_84 : decode cX5_pass 84 = .ok (.if_icmp .ge 20, 3) := by decide +kernel
theorem dX5_pass_87 : decode cX5_pass 87 = .ok (.aload_n 3, 1) := by decide +kernel
theorem dX5_pass_88 : decode cX5_pass 88 = .ok (.iload 6, 2) := by decide +kernel
theorem dX5_pass_90 : decode cX5_pass 90 = .ok (.aload_n 3, 1) := by decide +kernel
theorem dX5_pass_91 : decode cX5_pass 91 = .ok (.iload 6, 2) := by decide +kernel
theorem dX5_pass_93 : decode cX5_pass 93 = .ok (.iaload, 1) := by decide +kernel
theorem dX5_pass_94 : decode cX5_pass 94 = .ok (.invokestatic 131, 3) := by decide +kernel
theorem dX5_pass_97 : decode cX5_pass 97 = .ok (.iastore, 1) := by decide +kernel
theorem dX5_pass_98 : decode cX5_pass 98 = .ok (.iinc 6 1, 3) := by decide +kernel
theorem dX5_pass_101 : decode cX5_pass 101 = .ok (.goto (-20), 3) := by decide +kernel
theorem dX5_pass_104 : decode cX5_pass 104 = .ok (.iload 4, 2) := by decide +kernel
theorem dX5_pass_106 : decode cX5_pass 106 = .ok (.bipush 100, 2) := by decide +kernel
theorem dX5_pass_108 : decode cX5_pass 108 = .ok (.irem, 1) := by decide +kernel
theorem dX5_pass_109 : decode cX5_pass 109 = .ok (.bipush 99, 2) := by decide +kernel
theorem dX5_pass_111 : decode cX5_pass 111 = .ok (.if_icmp .ne 8, 3) := by decide +kernel
theorem dX5_pass_114 : decode cX5_pass 114 = .ok (.aload_n 0, 1) := by decide +kernel
theorem dX5_pass_115 : decode cX5_pass 115 = .ok (.aload_n 1, 1) := by decide +kernel
theorem dX5_pass_116 : decode cX5_pass 116 = .ok (.invokevirtual 84, 3) := by decide +kernel
theorem dX5_pass_119 : decode cX5_pass 119 = .ok (.iload 5, 2) := by decide +kernel
theorem dX5_pass_121 : decode cX5_pass 121 = .ok (.ireturn, 1) := by decide +kernel
set_option maxRecDepth 20000 in
theorem ggX5_pass__X5_isIn : GoodIn wsX5_pass_ wsX5_isIn := goodIn_r _ [10] (by decide +kernel) (by decide +kernel)
set_option maxRecDepth 20000 in
theorem gX5_pass__X5_isIn : GoodIn wsX5_pass_ (va_wsS RX5 44 yX5_isIn wsX5_isIn) := goodIn_app (goodIn_of _ (by decide +kernel)) ggX5_pass__X5_isIn
set_option maxRecDepth 20000 in
theorem ggX5_pass__X5_no : GoodIn wsX5_pass_ wsX5_no := goodIn_r _ [14, 1, 50, 51, 52, 53, 54, 55, 56, 57, 58, 59, 60, 61, 62, 63] (by decide +kernel) (by decide +kernel)
set_option maxRecDepth 20000 in
theorem gX5_pass__X5_no : GoodIn wsX5_pass_ (wsV RX5 58 RX5 yX5_no wsX5_no) := goodIn_app (goodIn_of _ (by decide +kernel)) ggX5_pass__X5_no
set_option maxRecDepth 20000 in
theorem ggX5_pass__X5_pass : GoodIn wsX5_pass_ wsX5_pass := goodIn_r _ [18, 19, 20, 21, 22, 23, 9, 24, 25, 26, 27, 28, 29, 30, 31, 32, 33, 34, 35, 36, 37, 38, 39, 40, 41, 42, 43, 44, 45, 46, 47, 48, 49, 50, 51, 52, 53, 54, 55, 56, 57, 58, 59, 60, 61, 62, 63] (by decide +kernel) (by decide +kernel)
set_option maxRecDepth 20000 in
theorem gX5_pass__X5_pass : GoodIn wsX5_pass_ (wsV RX5 151 RX5 yX5_pass wsX5_pass) := goodIn_app (goodIn_of _ (by decide +kernel)) ggX5_pass__X5_pass
theorem dX5_pass__0 : decode cX5_pass_ 0 = .ok (.aload_n 0, 1) := by decide +kernel
theorem dX5_pass__1 : decode cX5_pass_ 1 = .ok (.iconst 0, 1) := by decide +kernel
theorem dX5_pass__2 : decode cX5_pass_ 2 = .ok (.putfield 38, 3) := by decide +kernel
theorem dX5_pass__5 : decode cX5_pass_ 5 = .ok (.iload_n 1, 1) := by decide +kernel
theorem dX5_pass__6 : decode cX5_pass_ 6 = .ok (.iconst 1, 1) := by decide +kernel
theorem dX5_pass__7 : decode cX5_pass_ 7 = .ok (.sipush 200, 3) := by decide +kernel
theorem dX5_pass__10 : decode cX5_pass_ 10 = .ok (.invokestatic 44, 3) := by decide +kernel
theorem dX5_pass__13 : decode cX5_pass_ 13 = .ok (.ifCond .ne 9, 3) := by decide +kernel
theorem dX5_pass__16 : decode cX5_pass_ 16 = .ok (.aload_n 0, 1) := by decide +kernel
theorem dX5_pass__17 : decode cX5_pass_ 17 = .ok (.iconst 1, 1) := by decide +kernel
theorem dX5_pass__18 : decode cX5_pass_ 18 = .ok (.invokevirtual 58, 3) := by decide +kernel
theorem dX5_pass__21 : decode cX5_pass_ 21 = .ok (.ireturn, 1) := by decide +kernel
theorem dX5_pass__22 : decode cX5_pass_ 22 = .ok (.iconst 0, 1) := by decide +kernel
theorem dX5_pass__23 : decode cX5_pass_ 23 = .ok (.istore_n 2, 1) := by decide +kernel
theorem dX5_pass__24 : decode cX5_pass_ 24 = .ok (.iconst 0, 1) := by decide +kernel
theorem dX5_pass__25 : decode cX5_pass_ 25 = .ok (.istore_n 3, 1) := by decide +kernel
theorem dX5_pass__26 : decode cX5_pass_ 26 = .ok (.iload_n 3, 1) := by decide +kernel
theorem dX5_pass__27 : decode cX5_pass_ 27 = .ok (.iload_n 1, 1) := by decide +kernel
theorem dX5_pass__28 : decode cX5_pass_ 28 = .ok (.if_icmp .ge 42, 3) := by decide +kernel
theorem dX5_pass__31 : decode cX5_pass_ 31 = .ok (.iload_n 2, 1) := by decide +kernel
theorem dX5_pass__32 : decode cX5_pass_ 32 = .ok (.aload_n 0, 1) := by decide +kernel
theorem dX5_pass__33 : decode cX5_pass_ 33 = .ok (.aload_n 0, 1) := by decide +kernel
theorem dX5_pass__34 : decode cX5_pass_ 34 = .ok (.getfield 16, 3) := by decide +kernel
theorem dX5_pass__37 : decode cX5_pass_ 37 = .ok (.aload_n 0, 1) := by decide +kernel
theorem dX5_pass__38 : decode cX5_pass_ 38 = .ok (.getfield 20, 3) := by decide +kernel
theorem dX5_pass__41 : decode cX5_pass_ 41 = .ok (.aload_n 0, 1) := by decide +kernel
theorem dX5_pass__42 : decode cX5_pass_ 42 = .ok (.getfield 23, 3) := by decide +kernel
theorem dX5_pass__45 : decode cX5_pass_ 45 = .ok (.aload_n 0, 1) := by decide +kernel
theorem dX5_pass__46 : decode cX5_pass_ 46 = .ok (.getfield 148, 3) := by decide +kernel
theorem dX5_pass__49 : decode cX5_pass_ 49 = .ok (.invokevirtual 151, 3) := by decide +kernel
theorem dX5_pass__52 : decode cX5_pass_ 52 = .ok (.iadd, 1) := by decide +kernel
theorem dX5_pass__53 : decode cX5_pass_ 53 = .ok (.istore_n 2, 1) := by decide +kernel
theorem dX5_pass__54 : decode cX5_pass_ 54 = .ok (.aload_n 0, 1) := by decide +kernel
theorem dX5_pass__55 : decode cX5_pass_ 55 = .ok (.dup, 1) := by decide +kernel
theorem dX5_pass__56 : decode cX5_pass_ 56 = .ok (.getfield 148, 3) := by decide +kernel
theorem dX5_pass__59 : decode cX5_pass_ 59 = .ok (.iconst 1, 1) := by decide +kernel
theorem dX5_pass__60 : decode cX5_pass_ 60 = .ok (.iadd, 1) := by decide +kernel
theorem dX5_pass__61 : decode cX5_pass_ 61 = .ok (.putfield 148, 3) := by decide +kernel
theorem dX5_pass__64 : decode cX5_pass_ 64 = .ok (.iinc 3 1, 3) := by decide +kernel
theorem dX5_pass__67 : decode cX5_pass_ 67 = .ok (.goto (-41), 3) := by decide +kernel
theorem dX5_pass__70 : decode cX5_pass_ 70 = .ok (.aload_n 0, 1) := by decide +kernel
theorem dX5_pass__71 : decode cX5_pass_ 71 = .ok (.dup, 1) := by decide +kernel
theorem dX5_pass__72 : decode cX5_pass_ 72 = .ok (.getfield 155, 3) := by decide +kernel
theorem dX5_pass__75 : decode cX5_pass_ 75 = .ok (.iload_n 2, 1) := by decide +kernel
theorem dX5_pass__76 : decode cX5_pass_ 76 = .ok (.iadd, 1) := by decide +kernel
theorem dX5_pass__77 : decode cX5_pass_ 77 = .ok (.putfield 155, 3) := by decide +kernel
theorem dX5_pass__80 : decode cX5_pass_ 80 = .ok (.iload_n 2, 1) := by decide +kernel
theorem dX5_pass__81 : decode cX5_pass_ 81 = .ok (.ireturn, 1) := by decide +kernel
theorem dX5_lookAhead_0 : decode cX5_lookAhead 0 = .ok (.aload_n 0, 1) := by decide +kernel
theorem dX5_lookAhead_1 : decode cX5_lookAhead 1 = .ok (.getfield 16, 3) := by decide +kernel
theorem dX5_lookAhead_4 : decode cX5_lookAhead 4 = .ok (.iconst 0, 1) := by decide +kernel
theorem dX5_lookAhead_5 : decode cX5_lookAhead 5 = .ok (.aload_n 0, 1) := by decide +kernel
theorem dX5_lookAhead_6 : decode cX5_lookAhead 6 = .ok (.getfield 26, 3) := by decide +kernel
theorem dX5_lookAhead_9 : decode cX5_lookAhead 9 = .ok (.iconst 0, 1) := by decide +kernel
theorem dX5_lookAhead_10 : decode cX5_lookAhead 10 = .ok (.aload_n 0, 1) := by decide +kernel
theorem dX5_lookAhead_11 : decode cX5_lookAhead 11 = .ok (.getfield 16, 3) := by decide +kernel
theorem dX5_lookAhead_14 : decode cX5_lookAhead 14 = .ok (.arraylength, 1) := by decide +kernel
theorem dX5_lookAhead_15 : decode cX5_lookAhead 15 = .ok (.invokestatic 158, 3) := by decide +kernel
theorem dX5_lookAhead_18 : decode cX5_lookAhead 18 = .ok (.aload_n 0, 1) := by decide +kernel
theorem dX5_lookAhead_19 : decode cX5_lookAhead 19 = .ok (.getfield 20, 3) := by decide +kernel
theorem dX5_lookAhead_22 : decode cX5_lookAhead 22 = .ok (.iconst 0, 1) := by decide +kernel
theorem dX5_lookAhead_23 : decode cX5_lookAhead 23 = .ok (.aload_n 0, 1) := by decide +kernel
theorem dX5_lookAhead_24 : decode cX5_lookAhead 24 = .ok (.getfield 29, 3) := by decide +kernel
theorem dX5_lookAhead_27 : decode cX5_lookAhead 27 = .ok (.iconst 0, 1) := by decide +kernel
theorem dX5_lookAhead_28 : decode cX5_lookAhead 28 = .ok (.aload_n 0, 1) := by decide +kernel
theorem dX5_lookAhead_29 : decode cX5_lookAhead 29 = .ok (.getfield 20, 3) := by decide +kernel
theorem dX5_lookAhead_32 : decode cX5_lookAhead 32 = .ok (.arraylength, 1) := by decide +kernel
theorem dX5_lookAhead_33 : decode cX5_lookAhead 33 = .ok (.invokestatic 158, 3) := by decide +kernel
theorem dX5_lookAhead_36 : decode cX5_lookAhead 36 = .ok (.aload_n 0, 1) := by decide +kernel
theorem dX5_lookAhead_37 : decode cX5_lookAhead 37 = .ok (.getfield 23, 3) := by decide +kernel
theorem dX5_lookAhead_40 : decode cX5_lookAhead 40 = .ok (.iconst 0, 1) := by decide +kernel
theorem dX5_lookAhead_41 : decode cX5_lookAhead 41 = .ok (.aload_n 0, 1) := by decide +kernel
theorem dX5_lookAhead_42 : decode cX5_lookAhead 42 = .ok (.getfield 32, 3) := by decide +kernel
theorem dX5_lookAhead_45 : decode cX5_lookAhead 45 = .ok (.iconst 0, 1) := by decide +kernel
theorem dX5_lookAhead_46 : decode cX5_lookAhead 46 = .ok (.aload_n 0, 1) := by decide +kernel
theorem dX5_lookAhead_47 : decode cX5_lookAhead 47 = .ok (.getfield 23, 3) := by decide +kernel
theorem dX5_lookAhead_50 : decode cX5_lookAhead 50 = .ok (.arraylength, 1) := by decide +kernel
theorem dX5_lookAhead_51 : decode cX5_lookAhead 51 = .ok (.invokestatic 158, 3) := by decide +kernel
theorem dX5_lookAhead_54 : decode cX5_lookAhead 54 = .ok (.return_, 1) := by decide +kernel
theorem dX5_sum_0 : decode cX5_sum 0 = .ok (.iconst 0, 1) := by decide +kernel
theorem dX5_sum_1 : decode cX5_sum 1 = .ok (.istore_n 3, 1) := by decide +kernel
theorem dX5_sum_2 : decode cX5_sum 2 = .ok (.iconst 0, 1) := by decide +kernel
theorem dX5_sum_3 : decode cX5_sum 3 = .ok (.istore 4, 2) := by decide +kernel
theorem dX5_sum_5 : decode cX5_sum 5 = .ok (.iload 4, 2) := by decide +kernel
theorem dX5_sum_7 : decode cX5_sum 7 = .ok (.aload_n 0, 1) := by decide +kernel
theorem dX5_sum_8 : decode cX5_sum 8 = .ok (.getfield 41, 3) := by decide +kernel
theorem dX5_sum_11 : decode cX5_sum 11 = .ok (.if_icmp .ge 21, 3) := by decide +kernel
theorem dX5_sum_14 : decode cX5_sum 14 = .ok (.iload_n 3, 1) := by decide +kernel
theorem dX5_sum_15 : decode cX5_sum 15 = .ok (.aload_n 1, 1) := by decide +kernel
theorem dX5_sum_16 : decode cX5_sum 16 = .ok (.bipush 8, 2) := by decide +kernel
theorem dX5_sum_18 : decode cX5_sum 18 = .ok (.iload 4, 2) := by decide +kernel
theorem dX5_sum_20 : decode cX5_sum 20 = .ok (.imul, 1) := by decide +kernel
theorem dX5_sum_21 : decode cX5_sum 21 = .ok (.iload_n 2, 1) := by decide +kernel
theorem dX5_sum_22 : decode cX5_sum 22 = .ok (.iadd, 1) := by decide +kernel
theorem dX5_sum_23 : decode cX5_sum 23 = .ok (.iaload, 1) := by decide +kernel
theorem dX5_sum_24 : decode cX5_sum 24 = .ok (.iadd, 1) := by decide +kernel
theorem dX5_sum_25 : decode cX5_sum 25 = .ok (.istore_n 3, 1) := by decide +kernel
theorem dX5_sum_26 : decode cX5_sum 26 = .ok (.iinc 4 1, 3) := by decide +kernel
theorem dX5_sum_29 : decode cX5_sum 29 = .ok (.goto (-24), 3) := by decide +kernel
theorem dX5_sum_32 : decode cX5_sum 32 = .ok (.iload_n 3, 1) := by decide +kernel
theorem dX5_sum_33 : decode cX5_sum 33 = .ok (.ireturn, 1) := by decide +kernel
set_option maxRecDepth 20000 in
theorem ggX5_giveAll_X5_gives : GoodIn wsX5_giveAll wsX5_gives := goodIn_r _ [5, 6] (by decide +kernel) (by decide +kernel)
set_option maxRecDepth 20000 in
theorem gX5_giveAll_X5_gives : GoodIn wsX5_giveAll (va_wsS RX5 54 yX5_gives wsX5_gives) := goodIn_app (goodIn_of _ (by decide +kernel)) ggX5_giveAll_X5_gives
theorem dX5_giveAll_0 : decode cX5_giveAll 0 = .ok (.iconst 0, 1) := by decide +kernel
theorem dX5_giveAll_1 : decode cX5_giveAll 1 = .ok (.istore_n 2, 1) := by decide +kernel
theorem dX5_giveAll_2 : decode cX5_giveAll 2 = .ok (.iconst 0, 1) := by decide +kernel
theorem dX5_giveAll_3 : decode cX5_giveAll 3 = .ok (.istore_n 3, 1) := by decide +kernel
theorem dX5_giveAll_4 : decode cX5_giveAll 4 = .ok (.iload_n 3, 1) := by decide +kernel
theorem dX5_giveAll_5 : decode cX5_giveAll 5 = .ok (.aload_n 0, 1) := by decide +kernel
theorem dX5_giveAll_6 : decode cX5_giveAll 6 = .ok (.getfield 41, 3) := by decide +kernel
theorem dX5_giveAll_9 : decode cX5_giveAll 9 = .ok (.if_icmp .ge 20, 3) := by decide +kernel
theorem dX5_giveAll_12 : decode cX5_giveAll 12 = .ok (.iload_n 2, 1) := by decide +kernel
theorem dX5_giveAll_13 : decode cX5_giveAll 13 = .ok (.aload_n 1, 1) := by decide +kernel
theorem dX5_giveAll_14 : decode cX5_giveAll 14 = .ok (.bipush 8, 2) := by decide +kernel
theorem dX5_giveAll_16 : decode cX5_giveAll 16 = .ok (.iload_n 3, 1) := by decide +kernel
theorem dX5_giveAll_17 : decode cX5_giveAll 17 = .ok (.imul, 1) := by decide +kernel
theorem dX5_giveAll_18 : decode cX5_giveAll 18 = .ok (.invokestatic 54, 3) := by decide +kernel
theorem dX5_giveAll_21 : decode cX5_giveAll 21 = .ok (.iadd, 1) := by decide +kernel
theorem dX5_giveAll_22 : decode cX5_giveAll 22 = .ok (.istore_n 2, 1) := by decide +kernel
theorem dX5_giveAll_23 : decode cX5_giveAll 23 = .ok (.iinc 3 1, 3) := by decide +kernel
theorem dX5_giveAll_26 : decode cX5_giveAll 26 = .ok (.goto (-22), 3) := by decide +kernel
theorem dX5_giveAll_29 : decode cX5_giveAll 29 = .ok (.iload_n 2, 1) := by decide +kernel
theorem dX5_giveAll_30 : decode cX5_giveAll 30 = .ok (.ireturn, 1) := by decide +kernel
set_option maxRecDepth 20000 in
theorem ggX5_aboardAll_X5_aboard : GoodIn wsX5_aboardAll wsX5_aboard := goodIn_r _ [6, 7, 8, 9, 10, 11, 12, 13, 14, 15, 16, 17, 18, 19, 20, 21] (by decide +kernel) (by decide +kernel)
set_option maxRecDepth 20000 in
theorem gX5_aboardAll_X5_aboard : GoodIn wsX5_aboardAll (wsV RX5 101 RX5 yX5_aboard wsX5_aboard) := goodIn_app (goodIn_of _ (by decide +kernel)) ggX5_aboardAll_X5_aboard
theorem dX5_aboardAll_0 : decode cX5_aboardAll 0 = .ok (.iconst 0, 1) := by decide +kernel
theorem dX5_aboardAll_1 : decode cX5_aboardAll 1 = .ok (.istore_n 1, 1) := by decide +kernel
theorem dX5_aboardAll_2 : decode cX5_aboardAll 2 = .ok (.iconst 0, 1) := by decide +kernel
theorem dX5_aboardAll_3 : decode cX5_aboardAll 3 = .ok (.istore_n 2, 1) := by decide +kernel
theorem dX5_aboardAll_4 : decode cX5_aboardAll 4 = .ok (.iload_n 2, 1) := by decide +kernel
theorem dX5_aboardAll_5 : decode cX5_aboardAll 5 = .ok (.aload_n 0, 1) := by decide +kernel
theorem dX5_aboardAll_6 : decode cX5_aboardAll 6 = .ok (.getfield 48, 3) := by decide +kernel
theorem dX5_aboardAll_9 : decode cX5_aboardAll 9 = .ok (.if_icmp .ge 19, 3) := by decide +kernel
theorem dX5_aboardAll_12 : decode cX5_aboardAll 12 = .ok (.iload_n 1, 1) := by decide +kernel
theorem dX5_aboardAll_13 : decode cX5_aboardAll 13 = .ok (.aload_n 0, 1) := by decide +kernel
theorem dX5_aboardAll_14 : decode cX5_aboardAll 14 = .ok (.iconst 5, 1) := by decide +kernel
theorem dX5_aboardAll_15 : decode cX5_aboardAll 15 = .ok (.iload_n 2, 1) := by decide +kernel
theorem dX5_aboardAll_16 : decode cX5_aboardAll 16 = .ok (.imul, 1) := by decide +kernel
theorem dX5_aboardAll_17 : decode cX5_aboardAll 17 = .ok (.invokevirtual 101, 3) := by decide +kernel
theorem dX5_aboardAll_20 : decode cX5_aboardAll 20 = .ok (.iadd, 1) := by decide +kernel
theorem dX5_aboardAll_21 : decode cX5_aboardAll 21 = .ok (.istore_n 1, 1) := by decide +kernel
theorem dX5_aboardAll_22 : decode cX5_aboardAll 22 = .ok (.iinc 2 1, 3) := by decide +kernel
theorem dX5_aboardAll_25 : decode cX5_aboardAll 25 = .ok (.goto (-21), 3) := by decide +kernel
theorem dX5_aboardAll_28 : decode cX5_aboardAll 28 = .ok (.iload_n 1, 1) := by decide +kernel
theorem dX5_aboardAll_29 : decode cX5_aboardAll 29 = .ok (.ireturn, 1) := by decide +kernel
set_option maxRecDepth 20000 in
theorem ggX5_summed_X5_giveAll : GoodIn wsX5_summed wsX5_giveAll := goodIn_r _ [5, 6, 7, 8, 4, 9, 10, 15, 16, 17, 18, 19, 20, 21, 22, 23, 24, 25, 26, 27, 28] (by decide +kernel) (by decide +kernel)
set_option maxRecDepth 20000 in
theorem gX5_summed_X5_giveAll : GoodIn wsX5_summed (wsV RX5 164 RX5 yX5_giveAll wsX5_giveAll) := goodIn_app (goodIn_of _ (by decide +kernel)) ggX5_summed_X5_giveAll
set_option maxRecDepth 20000 in
theorem ggX5_summed_X5_sum : GoodIn wsX5_summed wsX5_sum := goodIn_r _ [14, 6, 15, 16, 17, 18, 19, 20, 21, 22, 23, 24, 25, 26, 27, 28] (by decide +kernel) (by decide +kernel)
set_option maxRecDepth 20000 in
theorem gX5_summed_X5_sum : GoodIn wsX5_summed (wsV RX5 168 RX5 yX5_sum wsX5_sum) := goodIn_app (goodIn_of _ (by decide +kernel)) ggX5_summed_X5_sum
theorem dX5_summed_0 : decode cX5_summed 0 = .ok (.iload 4, 2) := by decide +kernel
theorem dX5_summed_2 : decode cX5_summed 2 = .ok (.lookupswitch 66 #[(4, 34), (5, 40), (9, 54)], 34) := by decide +kernel
theorem dX5_summed_36 : decode cX5_summed 36 = .ok (.aload_n 0, 1) := by decide +kernel
theorem dX5_summed_37 : decode cX5_summed 37 = .ok (.aload_n 1, 1) := by decide +kernel
theorem dX5_summed_38 : decode cX5_summed 38 = .ok (.invokevirtual 164, 3) := by decide +kernel
theorem dX5_summed_41 : decode cX5_summed 41 = .ok (.ireturn, 1) := by decide +kernel
theorem dX5_summed_42 : decode cX5_summed 42 = .ok (.aload_n 0, 1) := by decide +kernel
theorem dX5_summed_43 : decode cX5_summed 43 = .ok (.aload_n 1, 1) := by decide +kernel
theorem dX5_summed_44 : decode cX5_summed 44 = .ok (.iconst 4, 1) := by decide +kernel
theorem dX5_summed_45 : decode cX5_summed 45 = .ok (.invokevirtual 168, 3) := by decide +kernel
theorem dX5_summed_48 : decode cX5_summed 48 = .ok (.aload_n 0, 1) := by decide +kernel
theorem dX5_summed_49 : decode cX5_summed 49 = .ok (.aload_n 1, 1) := by decide +kernel
theorem dX5_summed_50 : decode cX5_summed 50 = .ok (.iconst 5, 1) := by decide +kernel
theorem dX5_summed_51 : decode cX5_summed 51 = .ok (.invokevirtual 168, 3) := by decide +kernel
theorem dX5_summed_54 : decode cX5_summed 54 = .ok (.iadd, 1) := by decide +kernel
theorem dX5_summed_55 : decode cX5_summed 55 = .ok (.ireturn, 1) := by decide +kernel
theorem dX5_summed_56 : decode cX5_summed 56 = .ok (.aload_n 2, 1) := by decide +kernel
theorem dX5_summed_57 : decode cX5_summed 57 = .ok (.iconst 0, 1) := by decide +kernel
theorem dX5_summed_58 : decode cX5_summed 58 = .ok (.iaload, 1) := by decide +kernel
theorem dX5_summed_59 : decode cX5_summed 59 = .ok (.aload_n 2, 1) := by decide +kernel
theorem dX5_summed_60 : decode cX5_summed 60 = .ok (.iconst 1, 1) := by decide +kernel
theorem dX5_summed_61 : decode cX5_summed 61 = .ok (.iaload, 1) := by decide +kernel
theorem dX5_summed_62 : decode cX5_summed 62 = .ok (.iadd, 1) := by decide +kernel
theorem dX5_summed_63 : decode cX5_summed 63 = .ok (.aload_n 2, 1) := by decide +kernel
theorem dX5_summed_64 : decode cX5_summed 64 = .ok (.iconst 2, 1) := by decide +kernel
theorem dX5_summed_65 : decode cX5_summed 65 = .ok (.iaload, 1) := by decide +kernel
theorem dX5_summed_66 : decode cX5_summed 66 = .ok (.iadd, 1) := by decide +kernel
theorem dX5_summed_67 : decode cX5_summed 67 = .ok (.ireturn, 1) := by decide +kernel
theorem dX5_summed_68 : decode cX5_summed 68 = .ok (.iload_n 3, 1) := by decide +kernel
theorem dX5_summed_69 : decode cX5_summed 69 = .ok (.ireturn, 1) := by decide +kernel
set_option maxRecDepth 20000 in
theorem ggX5_counted_X5_sum : GoodIn wsX5_counted wsX5_sum := goodIn_r _ [13, 4, 35, 36, 37, 38, 39, 40, 41, 42, 43, 44, 45, 46, 47, 48] (by decide +kernel) (by decide +kernel)
set_option maxRecDepth 20000 in
theorem gX5_counted_X5_sum : GoodIn wsX5_counted (wsV RX5 168 RX5 yX5_sum wsX5_sum) := goodIn_app (goodIn_of _ (by decide +kernel)) ggX5_counted_X5_sum
set_option maxRecDepth 20000 in
theorem ggX5_counted_X5_aboardAll : GoodIn wsX5_counted wsX5_aboardAll := goodIn_r _ [17, 6, 18, 19, 20, 12, 21, 22, 35, 36, 37, 38, 39, 40, 41, 42, 43, 44, 45, 46, 47, 48] (by decide +kernel) (by decide +kernel)
set_option maxRecDepth 20000 in
theorem gX5_counted_X5_aboardAll : GoodIn wsX5_counted (wsV RX5 171 RX5 yX5_aboardAll wsX5_aboardAll) := goodIn_app (goodIn_of _ (by decide +kernel)) ggX5_counted_X5_aboardAll
set_option maxRecDepth 20000 in
theorem ggX5_counted_X5_summed : GoodIn wsX5_counted wsX5_summed := goodIn_r _ [26, 27, 28, 29, 12, 30, 4, 31, 32, 33, 34, 9, 10, 11, 13, 35, 36, 37, 38, 39, 40, 41, 42, 43, 44, 45, 46, 47, 48] (by decide +kernel) (by decide +kernel)
set_option maxRecDepth 20000 in
theorem gX5_counted_X5_summed : GoodIn wsX5_counted (wsV RX5 175 RX5 yX5_summed wsX5_summed) := goodIn_app (goodIn_of _ (by decide +kernel)) ggX5_counted_X5_summed
theorem dX5_counted_0 : decode cX5_counted 0 = .ok (.iload_n 1, 1) := by decide +kernel
theorem dX5_counted_1 : decode cX5_counted 1 = .ok (.tableswitch 103 0 8 #[51, 56, 61, 66, 103, 103, 71, 93, 98], 51) := by decide +kernel
theorem dX5_counted_52 : decode cX5_counted 52 = .ok (.aload_n 0, 1) := by decide +kernel
theorem dX5_counted_53 : decode cX5_counted 53 = .ok (.getfield 148, 3) := by decide +kernel
theorem dX5_counted_56 : decode cX5_counted 56 = .ok (.ireturn, 1) := by decide +kernel
theorem dX5_counted_57 : decode cX5_counted 57 = .ok (.aload_n 0, 1) := by decide +kernel
theorem dX5_counted_58 : decode cX5_counted 58 = .ok (.getfield 7, 3) := by decide +kernel
theorem dX5_counted_61 : decode cX5_counted 61 = .ok (.ireturn, 1) := by decide +kernel
theorem dX5_counted_62 : decode cX5_counted 62 = .ok (.aload_n 0, 1) := by decide +kernel
theorem dX5_counted_63 : decode cX5_counted 63 = .ok (.getfield 13, 3) := by decide +kernel
theorem dX5_counted_66 : decode cX5_counted 66 = .ok (.ireturn, 1) := by decide +kernel
theorem dX5_counted_67 : decode cX5_counted 67 = .ok (.aload_n 0, 1) := by decide +kernel
theorem dX5_counted_68 : decode cX5_counted 68 = .ok (.getfield 41, 3) := by decide +kernel
theorem dX5_counted_71 : decode cX5_counted 71 = .ok (.ireturn, 1) := by decide +kernel
theorem dX5_counted_72 : decode cX5_counted 72 = .ok (.aload_n 0, 1) := by decide +kernel
theorem dX5_counted_73 : decode cX5_counted 73 = .ok (.aload_n 0, 1) := by decide +kernel
theorem dX5_counted_74 : decode cX5_counted 74 = .ok (.getfield 16, 3) := by decide +kernel
theorem dX5_counted_77 : decode cX5_counted 77 = .ok (.bipush 6, 2) := by decide +kernel
theorem dX5_counted_79 : decode cX5_counted 79 = .ok (.invokevirtual 168, 3) := by decide +kernel
theorem dX5_counted_82 : decode cX5_counted 82 = .ok (.aload_n 0, 1) := by decide +kernel
theorem dX5_counted_83 : decode cX5_counted 83 = .ok (.aload_n 0, 1) := by decide +kernel
theorem dX5_counted_84 : decode cX5_counted 84 = .ok (.getfield 16, 3) := by decide +kernel
theorem dX5_counted_87 : decode cX5_counted 87 = .ok (.bipush 7, 2) := by decide +kernel
theorem dX5_counted_89 : decode cX5_counted 89 = .ok (.invokevirtual 168, 3) := by decide +kernel
theorem dX5_counted_92 : decode cX5_counted 92 = .ok (.iadd, 1) := by decide +kernel
theorem dX5_counted_93 : decode cX5_counted 93 = .ok (.ireturn, 1) := by decide +kernel
theorem dX5_counted_94 : decode cX5_counted 94 = .ok (.aload_n 0, 1) := by decide +kernel
theorem dX5_counted_95 : decode cX5_counted 95 = .ok (.getfield 48, 3) := by decide +kernel
theorem dX5_counted_98 : decode cX5_counted 98 = .ok (.ireturn, 1) := by decide +kernel
theorem dX5_counted_99 : decode cX5_counted 99 = .ok (.aload_n 0, 1) := by decide +kernel
theorem dX5_counted_100 : decode cX5_counted 100 = .ok (.invokevirtual 171, 3) := by decide +kernel
theorem dX5_counted_103 : decode cX5_counted 103 = .ok (.ireturn, 1) := by decide +kernel
theorem dX5_counted_104 : decode cX5_counted 104 = .ok (.aload_n 0, 1) := by decide +kernel
theorem dX5_counted_105 : decode cX5_counted 105 = .ok (.aload_n 0, 1) := by decide +kernel
theorem dX5_counted_106 : decode cX5_counted 106 = .ok (.getfield 16, 3) := by decide +kernel
theorem dX5_counted_109 : decode cX5_counted 109 = .ok (.aload_n 0, 1) := by decide +kernel
theorem dX5_counted_110 : decode cX5_counted 110 = .ok (.getfield 23, 3) := by decide +kernel
theorem dX5_counted_113 : decode cX5_counted 113 = .ok (.aload_n 0, 1) := by decide +kernel
theorem dX5_counted_114 : decode cX5_counted 114 = .ok (.getfield 155, 3) := by decide +kernel
theorem dX5_counted_117 : decode cX5_counted 117 = .ok (.iload_n 1, 1) := by decide +kernel
theorem dX5_counted_118 : decode cX5_counted 118 = .ok (.invokevirtual 175, 3) := by decide +kernel
theorem dX5_counted_121 : decode cX5_counted 121 = .ok (.ireturn, 1) := by decide +kernel
set_option maxRecDepth 20000 in
theorem ggX5_count_X5_isIn : GoodIn wsX5_count wsX5_isIn := goodIn_r _ [5] (by decide +kernel) (by decide +kernel)
set_option maxRecDepth 20000 in
theorem gX5_count_X5_isIn : GoodIn wsX5_count (va_wsS RX5 44 yX5_isIn wsX5_isIn) := goodIn_app (goodIn_of _ (by decide +kernel)) ggX5_count_X5_isIn
set_option maxRecDepth 20000 in
theorem ggX5_count_X5_counted : GoodIn wsX5_count wsX5_counted := goodIn_r _ [9, 10, 11, 12, 13, 14, 15, 16, 17, 18, 19, 20, 4, 21, 22, 23, 24, 25, 26, 27, 28, 29, 30, 31, 32, 33, 34, 35, 36, 37, 38, 39, 40, 41, 42, 47, 48, 49, 50, 51, 52, 53, 54, 55, 56, 57, 58, 59, 60] (by decide +kernel) (by decide +kernel)
set_option maxRecDepth 20000 in
theorem gX5_count_X5_counted : GoodIn wsX5_count (wsV RX5 179 RX5 yX5_counted wsX5_counted) := goodIn_app (goodIn_of _ (by decide +kernel)) ggX5_count_X5_counted
set_option maxRecDepth 20000 in
theorem ggX5_count_X5_no : GoodIn wsX5_count wsX5_no := goodIn_r _ [46, 1, 47, 48, 49, 50, 51, 52, 53, 54, 55, 56, 57, 58, 59, 60] (by decide +kernel) (by decide +kernel)
set_option maxRecDepth 20000 in
theorem gX5_count_X5_no : GoodIn wsX5_count (wsV RX5 58 RX5 yX5_no wsX5_no) := goodIn_app (goodIn_of _ (by decide +kernel)) ggX5_count_X5_no
theorem dX5_count_0 : decode cX5_count 0 = .ok (.aload_n 0, 1) := by decide +kernel
theorem dX5_count_1 : decode cX5_count 1 = .ok (.iconst 0, 1) := by decide +kernel
theorem dX5_count_2 : decode cX5_count 2 = .ok (.putfield 38, 3) := by decide +kernel
theorem dX5_count_5 : decode cX5_count 5 = .ok (.iload_n 1, 1) := by decide +kernel
theorem dX5_count_6 : decode cX5_count 6 = .ok (.iconst 0, 1) := by decide +kernel
theorem dX5_count_7 : decode cX5_count 7 = .ok (.bipush 10, 2) := by decide +kernel
theorem dX5_count_9 : decode cX5_count 9 = .ok (.invokestatic 44, 3) := by decide +kernel
theorem dX5_count_12 : decode cX5_count 12 = .ok (.ifCond .eq 11, 3) := by decide +kernel
theorem dX5_count_15 : decode cX5_count 15 = .ok (.aload_n 0, 1) := by decide +kernel
theorem dX5_count_16 : decode cX5_count 16 = .ok (.iload_n 1, 1) := by decide +kernel
theorem dX5_count_17 : decode cX5_count 17 = .ok (.invokevirtual 179, 3) := by decide +kernel
theorem dX5_count_20 : decode cX5_count 20 = .ok (.goto 8, 3) := by decide +kernel
theorem dX5_count_23 : decode cX5_count 23 = .ok (.aload_n 0, 1) := by decide +kernel
theorem dX5_count_24 : decode cX5_count 24 = .ok (.iconst 1, 1) := by decide +kernel
theorem dX5_count_25 : decode cX5_count 25 = .ok (.invokevirtual 58, 3) := by decide +kernel
theorem dX5_count_28 : decode cX5_count 28 = .ok (.ireturn, 1) := by decide +kernel
set_option maxRecDepth 20000 in
theorem ggX5_foresee_X5_isIn : GoodIn wsX5_foresee wsX5_isIn := goodIn_r _ [10] (by decide +kernel) (by decide +kernel)
set_option maxRecDepth 20000 in
theorem gX5_foresee_X5_isIn : GoodIn wsX5_foresee (va_wsS RX5 44 yX5_isIn wsX5_isIn) := goodIn_app (goodIn_of _ (by decide +kernel)) ggX5_foresee_X5_isIn
set_option maxRecDepth 20000 in
theorem ggX5_foresee_X5_no : GoodIn wsX5_foresee wsX5_no := goodIn_r _ [14, 1, 77, 78, 79, 80, 81, 82, 83, 84, 85, 86, 87, 88, 89, 90] (by decide +kernel) (by decide +kernel)
set_option maxRecDepth 20000 in
theorem gX5_foresee_X5_no : GoodIn wsX5_foresee (wsV RX5 58 RX5 yX5_no wsX5_no) := goodIn_app (goodIn_of _ (by decide +kernel)) ggX5_foresee_X5_no
set_option maxRecDepth 20000 in
theorem ggX5_foresee_X5_lookAhead : GoodIn wsX5_foresee wsX5_lookAhead := goodIn_r _ [18, 19, 3, 20, 21, 22, 23, 24, 4, 25, 5, 77, 78, 79, 80, 81, 82, 83, 84, 85, 86, 87, 88, 89, 90] (by decide +kernel) (by decide +kernel)
set_option maxRecDepth 20000 in
theorem gX5_foresee_X5_lookAhead : GoodIn wsX5_foresee (wsV RX5 81 RX5 yX5_lookAhead wsX5_lookAhead) := goodIn_app (goodIn_of _ (by decide +kernel)) ggX5_foresee_X5_lookAhead
set_option maxRecDepth 20000 in
theorem ggX5_foresee_X5_pass : GoodIn wsX5_foresee wsX5_pass := goodIn_r _ [29, 30, 31, 32, 33, 34, 9, 35, 36, 37, 38, 39, 40, 41, 42, 43, 44, 45, 46, 47, 48, 49, 50, 51, 52, 53, 54, 55, 56, 57, 58, 59, 60, 77, 78, 79, 80, 81, 82, 83, 84, 85, 86, 87, 88, 89, 90] (by decide +kernel) (by decide +kernel)
set_option maxRecDepth 20000 in
theorem gX5_foresee_X5_pass : GoodIn wsX5_foresee (wsV RX5 151 RX5 yX5_pass wsX5_pass) := goodIn_app (goodIn_of _ (by decide +kernel)) ggX5_foresee_X5_pass
set_option maxRecDepth 20000 in
theorem ggX5_foresee_X5_summed : GoodIn wsX5_foresee wsX5_summed := goodIn_r _ [64, 65, 66, 67, 9, 68, 31, 69, 70, 71, 72, 73, 74, 75, 76, 77, 78, 79, 80, 81, 82, 83, 84, 85, 86, 87, 88, 89, 90] (by decide +kernel) (by decide +kernel)
set_option maxRecDepth 20000 in
theorem gX5_foresee_X5_summed : GoodIn wsX5_foresee (wsV RX5 175 RX5 yX5_summed wsX5_summed) := goodIn_app (goodIn_of _ (by decide +kernel)) ggX5_foresee_X5_summed
theorem dX5_foresee_0 : decode cX5_foresee 0 = .ok (.aload_n 0, 1) := by decide +kernel
theorem dX5_foresee_1 : decode cX5_foresee 1 = .ok (.iconst 0, 1) := by decide +kernel
theorem dX5_foresee_2 : decode cX5_foresee 2 = .ok (.putfield 38, 3) := by decide +kernel
theorem dX5_foresee_5 : decode cX5_foresee 5 = .ok (.iload_n 1, 1) := by decide +kernel
theorem dX5_foresee_6 : decode cX5_foresee 6 = .ok (.iconst 1, 1) := by decide +kernel
theorem dX5_foresee_7 : decode cX5_foresee 7 = .ok (.sipush 200, 3) := by decide +kernel
theorem dX5_foresee_10 : decode cX5_foresee 10 = .ok (.invokestatic 44, 3) := by decide +kernel
theorem dX5_foresee_13 : decode cX5_foresee 13 = .ok (.ifCond .ne 9, 3) := by decide +kernel
theorem dX5_foresee_16 : decode cX5_foresee 16 = .ok (.aload_n 0, 1) := by decide +kernel
theorem dX5_foresee_17 : decode cX5_foresee 17 = .ok (.iconst 1, 1) := by decide +kernel
theorem dX5_foresee_18 : decode cX5_foresee 18 = .ok (.invokevirtual 58, 3) := by decide +kernel
theorem dX5_foresee_21 : decode cX5_foresee 21 = .ok (.ireturn, 1) := by decide +kernel
theorem dX5_foresee_22 : decode cX5_foresee 22 = .ok (.iload_n 2, 1) := by decide +kernel
theorem dX5_foresee_23 : decode cX5_foresee 23 = .ok (.iconst 4, 1) := by decide +kernel
theorem dX5_foresee_24 : decode cX5_foresee 24 = .ok (.if_icmp .eq 26, 3) := by decide +kernel
theorem dX5_foresee_27 : decode cX5_foresee 27 = .ok (.iload_n 2, 1) := by decide +kernel
theorem dX5_foresee_28 : decode cX5_foresee 28 = .ok (.iconst 5, 1) := by decide +kernel
theorem dX5_foresee_29 : decode cX5_foresee 29 = .ok (.if_icmp .eq 21, 3) := by decide +kernel
theorem dX5_foresee_32 : decode cX5_foresee 32 = .ok (.iload_n 2, 1) := by decide +kernel
theorem dX5_foresee_33 : decode cX5_foresee 33 = .ok (.bipush 9, 2) := by decide +kernel
theorem dX5_foresee_35 : decode cX5_foresee 35 = .ok (.if_icmp .eq 15, 3) := by decide +kernel
theorem dX5_foresee_38 : decode cX5_foresee 38 = .ok (.iload_n 2, 1) := by decide +kernel
theorem dX5_foresee_39 : decode cX5_foresee 39 = .ok (.bipush 10, 2) := by decide +kernel
theorem dX5_foresee_41 : decode cX5_foresee 41 = .ok (.if_icmp .eq 9, 3) := by decide +kernel
theorem dX5_foresee_44 : decode cX5_foresee 44 = .ok (.aload_n 0, 1) := by decide +kernel
theorem dX5_foresee_45 : decode cX5_foresee 45 = .ok (.iconst 2, 1) := by decide +kernel
theorem dX5_foresee_46 : decode cX5_foresee 46 = .ok (.invokevirtual 58, 3) := by decide +kernel
theorem dX5_foresee_49 : decode cX5_foresee 49 = .ok (.ireturn, 1) := by decide +kernel
theorem dX5_foresee_50 : decode cX5_foresee 50 = .ok (.aload_n 0, 1) := by decide +kernel
theorem dX5_foresee_51 : decode cX5_foresee 51 = .ok (.invokevirtual 81, 3) := by decide +kernel
theorem dX5_foresee_54 : decode cX5_foresee 54 = .ok (.aload_n 0, 1) := by decide +kernel
theorem dX5_foresee_55 : decode cX5_foresee 55 = .ok (.getfield 155, 3) := by decide +kernel
theorem dX5_foresee_58 : decode cX5_foresee 58 = .ok (.istore_n 3, 1) := by decide +kernel
theorem dX5_foresee_59 : decode cX5_foresee 59 = .ok (.iconst 0, 1) := by decide +kernel
theorem dX5_foresee_60 : decode cX5_foresee 60 = .ok (.istore 4, 2) := by decide +kernel
theorem dX5_foresee_62 : decode cX5_foresee 62 = .ok (.iload 4, 2) := by decide +kernel
theorem dX5_foresee_64 : decode cX5_foresee 64 = .ok (.iload_n 1, 1) := by decide +kernel
theorem dX5_foresee_65 : decode cX5_foresee 65 = .ok (.if_icmp .ge 35, 3) := by decide +kernel
theorem dX5_foresee_68 : decode cX5_foresee 68 = .ok (.iload_n 3, 1) := by decide +kernel
theorem dX5_foresee_69 : decode cX5_foresee 69 = .ok (.aload_n 0, 1) := by decide +kernel
theorem dX5_foresee_70 : decode cX5_foresee 70 = .ok (.aload_n 0, 1) := by decide +kernel
theorem dX5_foresee_71 : decode cX5_foresee 71 = .ok (.getfield 26, 3) := by decide +kernel
theorem dX5_foresee_74 : decode cX5_foresee 74 = .ok (.aload_n 0, 1) := by decide +kernel
theorem dX5_foresee_75 : decode cX5_foresee 75 = .ok (.getfield 29, 3) := by decide +kernel
theorem dX5_foresee_78 : decode cX5_foresee 78 = .ok (.aload_n 0, 1) := by decide +kernel
theorem dX5_foresee_79 : decode cX5_foresee 79 = .ok (.getfield 32, 3) := by decide +kernel
theorem dX5_foresee_82 : decode cX5_foresee 82 = .ok (.aload_n 0, 1) := by decide +kernel
theorem dX5_foresee_83 : decode cX5_foresee 83 = .ok (.getfield 148, 3) := by decide +kernel
theorem dX5_foresee_86 : decode cX5_foresee 86 = .ok (.iload 4, 2) := by decide +kernel
theorem dX5_foresee_88 : decode cX5_foresee 88 = .ok (.iadd, 1) := by decide +kernel
theorem dX5_foresee_89 : decode cX5_foresee 89 = .ok (.invokevirtual 151, 3) := by decide +kernel
theorem dX5_foresee_92 : decode cX5_foresee 92 = .ok (.iadd, 1) := by decide +kernel
theorem dX5_foresee_93 : decode cX5_foresee 93 = .ok (.istore_n 3, 1) := by decide +kernel
theorem dX5_foresee_94 : decode cX5_foresee 94 = .ok (.iinc 4 1, 3) := by decide +kernel
theorem dX5_foresee_97 : decode cX5_foresee 97 = .ok (.goto (-35), 3) := by decide +kernel
theorem dX5_foresee_100 : decode cX5_foresee 100 = .ok (.aload_n 0, 1) := by decide +kernel
theorem dX5_foresee_101 : decode cX5_foresee 101 = .ok (.aload_n 0, 1) := by decide +kernel
theorem dX5_foresee_102 : decode cX5_foresee 102 = .ok (.getfield 26, 3) := by decide +kernel
theorem dX5_foresee_105 : decode cX5_foresee 105 = .ok (.aload_n 0, 1) := by decide +kernel
theorem dX5_foresee_106 : decode cX5_foresee 106 = .ok (.getfield 32, 3) := by decide +kernel
theorem dX5_foresee_109 : decode cX5_foresee 109 = .ok (.iload_n 3, 1) := by decide +kernel
theorem dX5_foresee_110 : decode cX5_foresee 110 = .ok (.iload_n 2, 1) := by decide +kernel
theorem dX5_foresee_111 : decode cX5_foresee 111 = .ok (.invokevirtual 175, 3) := by decide +kernel
theorem dX5_foresee_114 : decode cX5_foresee 114 = .ok (.ireturn, 1) := by decide +kernel
set_option maxRecDepth 20000 in
theorem ggX5_mean_X5_sum : GoodIn wsX5_mean wsX5_sum := goodIn_r _ [8, 2, 9, 10, 11, 12, 13, 14, 15, 16, 17, 18, 19, 20, 21, 22] (by decide +kernel) (by decide +kernel)
set_option maxRecDepth 20000 in
theorem gX5_mean_X5_sum : GoodIn wsX5_mean (wsV RX5 168 RX5 yX5_sum wsX5_sum) := goodIn_app (goodIn_of _ (by decide +kernel)) ggX5_mean_X5_sum
theorem dX5_mean_0 : decode cX5_mean 0 = .ok (.aload_n 0, 1) := by decide +kernel
theorem dX5_mean_1 : decode cX5_mean 1 = .ok (.iconst 0, 1) := by decide +kernel
theorem dX5_mean_2 : decode cX5_mean 2 = .ok (.putfield 38, 3) := by decide +kernel
theorem dX5_mean_5 : decode cX5_mean 5 = .ok (.aload_n 0, 1) := by decide +kernel
theorem dX5_mean_6 : decode cX5_mean 6 = .ok (.getfield 41, 3) := by decide +kernel
theorem dX5_mean_9 : decode cX5_mean 9 = .ok (.ifCond .ne 7, 3) := by decide +kernel
theorem dX5_mean_12 : decode cX5_mean 12 = .ok (.dconst 0, 1) := by decide +kernel
theorem dX5_mean_13 : decode cX5_mean 13 = .ok (.goto 19, 3) := by decide +kernel
theorem dX5_mean_16 : decode cX5_mean 16 = .ok (.aload_n 0, 1) := by decide +kernel
theorem dX5_mean_17 : decode cX5_mean 17 = .ok (.aload_n 0, 1) := by decide +kernel
theorem dX5_mean_18 : decode cX5_mean 18 = .ok (.getfield 16, 3) := by decide +kernel
theorem dX5_mean_21 : decode cX5_mean 21 = .ok (.iconst 3, 1) := by decide +kernel
theorem dX5_mean_22 : decode cX5_mean 22 = .ok (.invokevirtual 168, 3) := by decide +kernel
theorem dX5_mean_25 : decode cX5_mean 25 = .ok (.i2d, 1) := by decide +kernel
theorem dX5_mean_26 : decode cX5_mean 26 = .ok (.aload_n 0, 1) := by decide +kernel
theorem dX5_mean_27 : decode cX5_mean 27 = .ok (.getfield 41, 3) := by decide +kernel
theorem dX5_mean_30 : decode cX5_mean 30 = .ok (.i2d, 1) := by decide +kernel
theorem dX5_mean_31 : decode cX5_mean 31 = .ok (.ddiv, 1) := by decide +kernel
theorem dX5_mean_32 : decode cX5_mean 32 = .ok (.dreturn, 1) := by decide +kernel
set_option maxRecDepth 20000 in
theorem ggX5_digest_X5_counted : GoodIn wsX5_digest wsX5_counted := goodIn_r _ [10, 11, 12, 13, 4, 14, 5, 15, 16, 17, 18, 19, 9, 20, 21, 22, 23, 24, 25, 26, 27, 28, 29, 30, 31, 32, 33, 34, 35, 36, 37, 38, 39, 40, 41, 72, 73, 74, 75, 76, 77, 78, 79, 80, 81, 82, 83, 84, 85] (by decide +kernel) (by decide +kernel)
set_option maxRecDepth 20000 in
theorem gX5_digest_X5_counted : GoodIn wsX5_digest (wsV RX5 179 RX5 yX5_counted wsX5_counted) := goodIn_app (goodIn_of _ (by decide +kernel)) ggX5_digest_X5_counted
set_option maxRecDepth 20000 in
theorem ggX5_digest_X5_bedTold : GoodIn wsX5_digest wsX5_bedTold := goodIn_r _ [45, 14, 38, 39, 9, 40, 41, 46, 47, 48, 72, 73, 74, 75, 76, 77, 78, 79, 80, 81, 82, 83, 84, 85] (by decide +kernel) (by decide +kernel)
set_option maxRecDepth 20000 in
theorem gX5_digest_X5_bedTold : GoodIn wsX5_digest (wsV RX5 78 RX5 yX5_bedTold wsX5_bedTold) := goodIn_app (goodIn_of _ (by decide +kernel)) ggX5_digest_X5_bedTold
set_option maxRecDepth 20000 in
theorem ggX5_digest_X5_bargeTold : GoodIn wsX5_digest wsX5_bargeTold := goodIn_r _ [52, 29, 53, 54, 9, 55, 56, 72, 73, 74, 75, 76, 77, 78, 79, 80, 81, 82, 83, 84, 85] (by decide +kernel) (by decide +kernel)
set_option maxRecDepth 20000 in
theorem gX5_digest_X5_bargeTold : GoodIn wsX5_digest (wsV RX5 125 RX5 yX5_bargeTold wsX5_bargeTold) := goodIn_app (goodIn_of _ (by decide +kernel)) ggX5_digest_X5_bargeTold
set_option maxRecDepth 20000 in
theorem ggX5_digest_X5_landingTold : GoodIn wsX5_digest wsX5_landingTold := goodIn_r _ [60, 56, 15, 61, 62, 9, 63, 64, 65, 66, 67, 68, 69, 70, 71, 72, 73, 74, 75, 76, 77, 78, 79, 80, 81, 82, 83, 84, 85] (by decide +kernel) (by decide +kernel)
set_option maxRecDepth 20000 in
theorem gX5_digest_X5_landingTold : GoodIn wsX5_digest (wsV RX5 128 RX5 yX5_landingTold wsX5_landingTold) := goodIn_app (goodIn_of _ (by decide +kernel)) ggX5_digest_X5_landingTold
theorem dX5_digest_0 : decode cX5_digest 0 = .ok (.aload_n 0, 1) := by decide +kernel
theorem dX5_digest_1 : decode cX5_digest 1 = .ok (.iconst 0, 1) := by decide +kernel
theorem dX5_digest_2 : decode cX5_digest 2 = .ok (.putfield 38, 3) := by decide +kernel
theorem dX5_digest_5 : decode cX5_digest 5 = .ok (.ldc2_w 182, 3) := by decide +kernel
theorem dX5_digest_8 : decode cX5_digest 8 = .ok (.lstore_n 1, 1) := by decide +kernel
theorem dX5_digest_9 : decode cX5_digest 9 = .ok (.iconst 0, 1) := by decide +kernel
theorem dX5_digest_10 : decode cX5_digest 10 = .ok (.istore_n 3, 1) := by decide +kernel
theorem dX5_digest_11 : decode cX5_digest 11 = .ok (.iload_n 3, 1) := by decide +kernel
theorem dX5_digest_12 : decode cX5_digest 12 = .ok (.bipush 11, 2) := by decide +kernel
theorem dX5_digest_14 : decode cX5_digest 14 = .ok (.if_icmp .ge 22, 3) := by decide +kernel
theorem dX5_digest_17 : decode cX5_digest 17 = .ok (.lload_n 1, 1) := by decide +kernel
theorem dX5_digest_18 : decode cX5_digest 18 = .ok (.ldc2_w 184, 3) := by decide +kernel
theorem dX5_digest_21 : decode cX5_digest 21 = .ok (.lmul, 1) := by decide +kernel
theorem dX5_digest_22 : decode cX5_digest 22 = .ok (.aload_n 0, 1) := by decide +kernel
theorem dX5_digest_23 : decode cX5_digest 23 = .ok (.iload_n 3, 1) := by decide +kernel
theorem dX5_digest_24 : decode cX5_digest 24 = .ok (.invokevirtual 179, 3) := by decide +kernel
theorem dX5_digest_27 : decode cX5_digest 27 = .ok (.i2l, 1) := by decide +kernel
theorem dX5_digest_28 : decode cX5_digest 28 = .ok (.ladd, 1) := by decide +kernel
theorem dX5_digest_29 : decode cX5_digest 29 = .ok (.lstore_n 1, 1) := by decide +kernel
theorem dX5_digest_30 : decode cX5_digest 30 = .ok (.iinc 3 1, 3) := by decide +kernel
theorem dX5_digest_33 : decode cX5_digest 33 = .ok (.goto (-22), 3) := by decide +kernel
theorem dX5_digest_36 : decode cX5_digest 36 = .ok (.iconst 0, 1) := by decide +kernel
theorem dX5_digest_37 : decode cX5_digest 37 = .ok (.istore_n 3, 1) := by decide +kernel
theorem dX5_digest_38 : decode cX5_digest 38 = .ok (.iload_n 3, 1) := by decide +kernel
theorem dX5_digest_39 : decode cX5_digest 39 = .ok (.bipush 10, 2) := by decide +kernel
theorem dX5_digest_41 : decode cX5_digest 41 = .ok (.aload_n 0, 1) := by decide +kernel
theorem dX5_digest_42 : decode cX5_digest 42 = .ok (.getfield 41, 3) := by decide +kernel
theorem dX5_digest_45 : decode cX5_digest 45 = .ok (.imul, 1) := by decide +kernel
theorem dX5_digest_46 : decode cX5_digest 46 = .ok (.if_icmp .ge 29, 3) := by decide +kernel
theorem dX5_digest_49 : decode cX5_digest 49 = .ok (.lload_n 1, 1) := by decide +kernel
theorem dX5_digest_50 : decode cX5_digest 50 = .ok (.ldc2_w 184, 3) := by decide +kernel
theorem dX5_digest_53 : decode cX5_digest 53 = .ok (.lmul, 1) := by decide +kernel
theorem dX5_digest_54 : decode cX5_digest 54 = .ok (.aload_n 0, 1) := by decide +kernel
theorem dX5_digest_55 : decode cX5_digest 55 = .ok (.iload_n 3, 1) := by decide +kernel
theorem dX5_digest_56 : decode cX5_digest 56 = .ok (.bipush 10, 2) := by decide +kernel
theorem dX5_digest_58 : decode cX5_digest 58 = .ok (.idiv, 1) := by decide +kernel
theorem dX5_digest_59 : decode cX5_digest 59 = .ok (.iload_n 3, 1) := by decide +kernel
theorem dX5_digest_60 : decode cX5_digest 60 = .ok (.bipush 10, 2) := by decide +kernel
theorem dX5_digest_62 : decode cX5_digest 62 = .ok (.irem, 1) := by decide +kernel
theorem dX5_digest_63 : decode cX5_digest 63 = .ok (.invokevirtual 78, 3) := by decide +kernel
theorem dX5_digest_66 : decode cX5_digest 66 = .ok (.i2l, 1) := by decide +kernel
theorem dX5_digest_67 : decode cX5_digest 67 = .ok (.ladd, 1) := by decide +kernel
theorem dX5_digest_68 : decode cX5_digest 68 = .ok (.lstore_n 1, 1) := by decide +kernel
theorem dX5_digest_69 : decode cX5_digest 69 = .ok (.iinc 3 1, 3) := by decide +kernel
theorem dX5_digest_72 : decode cX5_digest 72 = .ok (.goto (-34), 3) := by decide +kernel
theorem dX5_digest_75 : decode cX5_digest 75 = .ok (.iconst 0, 1) := by decide +kernel
theorem dX5_digest_76 : decode cX5_digest 76 = .ok (.istore_n 3, 1) := by decide +kernel
theorem dX5_digest_77 : decode cX5_digest 77 = .ok (.iload_n 3, 1) := by decide +kernel
theorem dX5_digest_78 : decode cX5_digest 78 = .ok (.bipush 6, 2) := by decide +kernel
theorem dX5_digest_80 : decode cX5_digest 80 = .ok (.aload_n 0, 1) := by decide +kernel
theorem dX5_digest_81 : decode cX5_digest 81 = .ok (.getfield 48, 3) := by decide +kernel
theorem dX5_digest_84 : decode cX5_digest 84 = .ok (.imul, 1) := by decide +kernel
theorem dX5_digest_85 : decode cX5_digest 85 = .ok (.if_icmp .ge 29, 3) := by decide +kernel
theorem dX5_digest_88 : decode cX5_digest 88 = .ok (.lload_n 1, 1) := by decide +kernel
theorem dX5_digest_89 : decode cX5_digest 89 = .ok (.ldc2_w 184, 3) := by decide +kernel
theorem dX5_digest_92 : decode cX5_digest 92 = .ok (.lmul, 1) := by decide +kernel
theorem dX5_digest_93 : decode cX5_digest 93 = .ok (.aload_n 0, 1) := by decide +kernel
theorem dX5_digest_94 : decode cX5_digest 94 = .ok (.iload_n 3, 1) := by decide +kernel
theorem dX5_digest_95 : decode cX5_digest 95 = .ok (.bipush 6, 2) := by decide +kernel
theorem dX5_digest_97 : decode cX5_digest 97 = .ok (.idiv, 1) := by decide +kernel
theorem dX5_digest_98 : decode cX5_digest 98 = .ok (.iload_n 3, 1) := by decide +kernel
theorem dX5_digest_99 : decode cX5_digest 99 = .ok (.bipush 6, 2) := by decide +kernel
theorem dX5_digest_101 : decode cX5_digest 101 = .ok (.irem, 1) := by decide +kernel
theorem dX5_digest_102 : decode cX5_digest 102 = .ok (.invokevirtual 125, 3) := by decide +kernel
theorem dX5_digest_105 : decode cX5_digest 105 = .ok (.i2l, 1) := by decide +kernel
theorem dX5_digest_106 : decode cX5_digest 106 = .ok (.ladd, 1) := by decide +kernel
theorem dX5_digest_107 : decode cX5_digest 107 = .ok (.lstore_n 1, 1) := by decide +kernel
theorem dX5_digest_108 : decode cX5_digest 108 = .ok (.iinc 3 1, 3) := by decide +kernel
theorem dX5_digest_111 : decode cX5_digest 111 = .ok (.goto (-34), 3) := by decide +kernel
theorem dX5_digest_114 : decode cX5_digest 114 = .ok (.iconst 0, 1) := by decide +kernel
theorem dX5_digest_115 : decode cX5_digest 115 = .ok (.istore_n 3, 1) := by decide +kernel
theorem dX5_digest_116 : decode cX5_digest 116 = .ok (.iload_n 3, 1) := by decide +kernel
theorem dX5_digest_117 : decode cX5_digest 117 = .ok (.bipush 12, 2) := by decide +kernel
theorem dX5_digest_119 : decode cX5_digest 119 = .ok (.if_icmp .ge 27, 3) := by decide +kernel
theorem dX5_digest_122 : decode cX5_digest 122 = .ok (.lload_n 1, 1) := by decide +kernel
theorem dX5_digest_123 : decode cX5_digest 123 = .ok (.ldc2_w 184, 3) := by decide +kernel
theorem dX5_digest_126 : decode cX5_digest 126 = .ok (.lmul, 1) := by decide +kernel
theorem dX5_digest_127 : decode cX5_digest 127 = .ok (.aload_n 0, 1) := by decide +kernel
theorem dX5_digest_128 : decode cX5_digest 128 = .ok (.iload_n 3, 1) := by decide +kernel
theorem dX5_digest_129 : decode cX5_digest 129 = .ok (.iconst 4, 1) := by decide +kernel
theorem dX5_digest_130 : decode cX5_digest 130 = .ok (.idiv, 1) := by decide +kernel
theorem dX5_digest_131 : decode cX5_digest 131 = .ok (.iload_n 3, 1) := by decide +kernel
theorem dX5_digest_132 : decode cX5_digest 132 = .ok (.iconst 4, 1) := by decide +kernel
theorem dX5_digest_133 : decode cX5_digest 133 = .ok (.irem, 1) := by decide +kernel
theorem dX5_digest_134 : decode cX5_digest 134 = .ok (.invokevirtual 128, 3) := by decide +kernel
theorem dX5_digest_137 : decode cX5_digest 137 = .ok (.i2l, 1) := by decide +kernel
theorem dX5_digest_138 : decode cX5_digest 138 = .ok (.ladd, 1) := by decide +kernel
theorem dX5_digest_139 : decode cX5_digest 139 = .ok (.lstore_n 1, 1) := by decide +kernel
theorem dX5_digest_140 : decode cX5_digest 140 = .ok (.iinc 3 1, 3) := by decide +kernel
theorem dX5_digest_143 : decode cX5_digest 143 = .ok (.goto (-27), 3) := by decide +kernel
theorem dX5_digest_146 : decode cX5_digest 146 = .ok (.lload_n 1, 1) := by decide +kernel
theorem dX5_digest_147 : decode cX5_digest 147 = .ok (.lreturn, 1) := by decide +kernel
theorem dJ9_abs_0f7a4_0 : decode cJ9_abs_0f7a4 0 = .ok (.iload_n 0, 1) := by decide +kernel
theorem dJ9_abs_0f7a4_1 : decode cJ9_abs_0f7a4 1 = .ok (.ifCond .ge 8, 3) := by decide +kernel
theorem dJ9_abs_0f7a4_4 : decode cJ9_abs_0f7a4 4 = .ok (.iload_n 0, 1) := by decide +kernel
theorem dJ9_abs_0f7a4_5 : decode cJ9_abs_0f7a4 5 = .ok (.ineg, 1) := by decide +kernel
theorem dJ9_abs_0f7a4_6 : decode cJ9_abs_0f7a4 6 = .ok (.goto 4, 3) := by decide +kernel
theorem dJ9_abs_0f7a4_9 : decode cJ9_abs_0f7a4 9 = .ok (.iload_n 0, 1) := by decide +kernel
theorem dJ9_abs_0f7a4_10 : decode cJ9_abs_0f7a4 10 = .ok (.ireturn, 1) := by decide +kernel
theorem dJ9_max_7cf53_0 : decode cJ9_max_7cf53 0 = .ok (.iload_n 0, 1) := by decide +kernel
theorem dJ9_max_7cf53_1 : decode cJ9_max_7cf53 1 = .ok (.iload_n 1, 1) := by decide +kernel
theorem dJ9_max_7cf53_2 : decode cJ9_max_7cf53 2 = .ok (.if_icmp .lt 7, 3) := by decide +kernel
theorem dJ9_max_7cf53_5 : decode cJ9_max_7cf53 5 = .ok (.iload_n 0, 1) := by decide +kernel
theorem dJ9_max_7cf53_6 : decode cJ9_max_7cf53 6 = .ok (.goto 4, 3) := by decide +kernel
theorem dJ9_max_7cf53_9 : decode cJ9_max_7cf53 9 = .ok (.iload_n 1, 1) := by decide +kernel
theorem dJ9_max_7cf53_10 : decode cJ9_max_7cf53 10 = .ok (.ireturn, 1) := by decide +kernel
theorem dJ9_min_7cf53_0 : decode cJ9_min_7cf53 0 = .ok (.iload_n 0, 1) := by decide +kernel
theorem dJ9_min_7cf53_1 : decode cJ9_min_7cf53 1 = .ok (.iload_n 1, 1) := by decide +kernel
theorem dJ9_min_7cf53_2 : decode cJ9_min_7cf53 2 = .ok (.if_icmp .gt 7, 3) := by decide +kernel
theorem dJ9_min_7cf53_5 : decode cJ9_min_7cf53 5 = .ok (.iload_n 0, 1) := by decide +kernel
theorem dJ9_min_7cf53_6 : decode cJ9_min_7cf53 6 = .ok (.goto 4, 3) := by decide +kernel
theorem dJ9_min_7cf53_9 : decode cJ9_min_7cf53 9 = .ok (.iload_n 1, 1) := by decide +kernel
theorem dJ9_min_7cf53_10 : decode cJ9_min_7cf53 10 = .ok (.ireturn, 1) := by decide +kernel
set_option maxRecDepth 20000 in
theorem ggL_bed_X4_bed : GoodIn wsL_bed wsX4_bed := goodIn_ca (goodIn_ca (goodIn_ca (goodIn_r _ [8, 9, 10, 11, 12, 13, 14, 15, 7, 16, 17, 18, 19, 20, 21, 22, 23, 24, 25, 26, 27, 28, 29, 30, 31, 32, 33, 34, 35, 36, 37, 38, 39, 40, 41, 42, 43, 44, 45, 46, 47, 48, 49, 50, 51] (by decide +kernel) (by decide +kernel)) (goodIn_sub (fun _ h => List.mem_cons_of_mem _ (List.mem_append_left _ (List.mem_append_left _ (List.mem_append_right _ h)))) (by decide +kernel))) (goodIn_sub (fun _ h => List.mem_cons_of_mem _ (List.mem_append_left _ (List.mem_append_right _ h))) (by decide +kernel))) (goodIn_sub (fun _ h => List.mem_cons_of_mem _ (List.mem_append_right _ h)) (by decide +kernel))
set_option maxRecDepth 20000 in
theorem gL_bed_X4_bed : GoodIn wsL_bed (wsV RL 7 RX4 yX4_bed wsX4_bed) := goodIn_app (goodIn_of _ (by decide +kernel)) ggL_bed_X4_bed
theorem dL_bed_0 : decode cL_bed 0 = .ok (.aload 4, 2) := by decide +kernel
theorem dL_bed_2 : decode cL_bed 2 = .ok (.iconst 0, 1) := by decide +kernel
theorem dL_bed_3 : decode cL_bed 3 = .ok (.aload_n 0, 1) := by decide +kernel
theorem dL_bed_4 : decode cL_bed 4 = .ok (.iload_n 1, 1) := by decide +kernel
theorem dL_bed_5 : decode cL_bed 5 = .ok (.iload_n 2, 1) := by decide +kernel
theorem dL_bed_6 : decode cL_bed 6 = .ok (.iload_n 3, 1) := by decide +kernel
theorem dL_bed_7 : decode cL_bed 7 = .ok (.invokevirtual 7, 3) := by decide +kernel
theorem dL_bed_10 : decode cL_bed 10 = .ok (.i2l, 1) := by decide +kernel
theorem dL_bed_11 : decode cL_bed 11 = .ok (.lastore, 1) := by decide +kernel
theorem dL_bed_12 : decode cL_bed 12 = .ok (.goto 15, 3) := by decide +kernel
theorem dL_bed_15 : decode cL_bed 15 = .ok (.astore 5, 2) := by decide +kernel
theorem dL_bed_17 : decode cL_bed 17 = .ok (.iconst 1, 1) := by decide +kernel
theorem dL_bed_18 : decode cL_bed 18 = .ok (.ireturn, 1) := by decide +kernel
theorem dL_bed_19 : decode cL_bed 19 = .ok (.astore 5, 2) := by decide +kernel
theorem dL_bed_21 : decode cL_bed 21 = .ok (.iconst 2, 1) := by decide +kernel
theorem dL_bed_22 : decode cL_bed 22 = .ok (.ireturn, 1) := by decide +kernel
theorem dL_bed_23 : decode cL_bed 23 = .ok (.astore 5, 2) := by decide +kernel
theorem dL_bed_25 : decode cL_bed 25 = .ok (.iconst 3, 1) := by decide +kernel
theorem dL_bed_26 : decode cL_bed 26 = .ok (.ireturn, 1) := by decide +kernel
theorem dL_bed_27 : decode cL_bed 27 = .ok (.iconst 0, 1) := by decide +kernel
theorem dL_bed_28 : decode cL_bed 28 = .ok (.ireturn, 1) := by decide +kernel
set_option maxRecDepth 20000 in
theorem ggL_cut_X4_cut : GoodIn wsL_cut wsX4_cut := goodIn_ca (goodIn_ca (goodIn_r _ [7, 8, 9, 10, 11, 12, 13, 6, 14, 15, 16, 17, 18, 19, 20, 21, 22, 23, 24, 25, 26, 27, 28, 29, 30, 31, 32, 33, 34, 35, 36, 37, 38, 39, 40, 41, 42, 43, 44, 45, 46, 47, 48, 49, 50, 51, 52, 53] (by decide +kernel) (by decide +kernel)) (goodIn_sub (fun _ h => List.mem_cons_of_mem _ (List.mem_append_left _ (List.mem_append_right _ h))) (by decide +kernel))) (goodIn_sub (fun _ h => List.mem_cons_of_mem _ (List.mem_append_right _ h)) (by decide +kernel))
set_option maxRecDepth 20000 in
theorem gL_cut_X4_cut : GoodIn wsL_cut (wsV RL 19 RX4 yX4_cut wsX4_cut) := goodIn_app (goodIn_of _ (by decide +kernel)) ggL_cut_X4_cut
theorem dL_cut_0 : decode cL_cut 0 = .ok (.aload_n 2, 1) := by decide +kernel
theorem dL_cut_1 : decode cL_cut 1 = .ok (.iconst 0, 1) := by decide +kernel
theorem dL_cut_2 : decode cL_cut 2 = .ok (.aload_n 0, 1) := by decide +kernel
theorem dL_cut_3 : decode cL_cut 3 = .ok (.iload_n 1, 1) := by decide +kernel
theorem dL_cut_4 : decode cL_cut 4 = .ok (.invokevirtual 19, 3) := by decide +kernel
theorem dL_cut_7 : decode cL_cut 7 = .ok (.i2l, 1) := by decide +kernel
theorem dL_cut_8 : decode cL_cut 8 = .ok (.lastore, 1) := by decide +kernel
theorem dL_cut_9 : decode cL_cut 9 = .ok (.goto 9, 3) := by decide +kernel
theorem dL_cut_12 : decode cL_cut 12 = .ok (.astore_n 3, 1) := by decide +kernel
theorem dL_cut_13 : decode cL_cut 13 = .ok (.iconst 1, 1) := by decide +kernel
theorem dL_cut_14 : decode cL_cut 14 = .ok (.ireturn, 1) := by decide +kernel
theorem dL_cut_15 : decode cL_cut 15 = .ok (.astore_n 3, 1) := by decide +kernel
theorem dL_cut_16 : decode cL_cut 16 = .ok (.iconst 2, 1) := by decide +kernel
theorem dL_cut_17 : decode cL_cut 17 = .ok (.ireturn, 1) := by decide +kernel
theorem dL_cut_18 : decode cL_cut 18 = .ok (.iconst 0, 1) := by decide +kernel
theorem dL_cut_19 : decode cL_cut 19 = .ok (.ireturn, 1) := by decide +kernel
set_option maxRecDepth 20000 in
theorem ggL_tie_X4_tie : GoodIn wsL_tie wsX4_tie := goodIn_ca (goodIn_r _ [6, 7, 8, 9, 10, 5, 11, 12, 13, 14, 15, 16, 17, 18, 19, 20, 21, 22, 23, 24, 25, 26, 27, 28, 29, 30, 31, 32, 33, 34, 35, 36, 37, 38, 39, 40, 41, 42, 43, 44, 45] (by decide +kernel) (by decide +kernel)) (goodIn_sub (fun _ h => List.mem_cons_of_mem _ (List.mem_append_right _ h)) (by decide +kernel))
set_option maxRecDepth 20000 in
theorem gL_tie_X4_tie : GoodIn wsL_tie (wsV RL 23 RX4 yX4_tie wsX4_tie) := goodIn_app (goodIn_of _ (by decide +kernel)) ggL_tie_X4_tie
theorem dL_tie_0 : decode cL_tie 0 = .ok (.aload_n 2, 1) := by decide +kernel
theorem dL_tie_1 : decode cL_tie 1 = .ok (.iconst 0, 1) := by decide +kernel
theorem dL_tie_2 : decode cL_tie 2 = .ok (.aload_n 0, 1) := by decide +kernel
theorem dL_tie_3 : decode cL_tie 3 = .ok (.iload_n 1, 1) := by decide +kernel
theorem dL_tie_4 : decode cL_tie 4 = .ok (.invokevirtual 23, 3) := by decide +kernel
theorem dL_tie_7 : decode cL_tie 7 = .ok (.i2l, 1) := by decide +kernel
theorem dL_tie_8 : decode cL_tie 8 = .ok (.lastore, 1) := by decide +kernel
theorem dL_tie_9 : decode cL_tie 9 = .ok (.goto 6, 3) := by decide +kernel
theorem dL_tie_12 : decode cL_tie 12 = .ok (.astore_n 3, 1) := by decide +kernel
theorem dL_tie_13 : decode cL_tie 13 = .ok (.iconst 1, 1) := by decide +kernel
theorem dL_tie_14 : decode cL_tie 14 = .ok (.ireturn, 1) := by decide +kernel
theorem dL_tie_15 : decode cL_tie 15 = .ok (.iconst 0, 1) := by decide +kernel
theorem dL_tie_16 : decode cL_tie 16 = .ok (.ireturn, 1) := by decide +kernel
set_option maxRecDepth 20000 in
theorem ggL_buy_X4_buy : GoodIn wsL_buy wsX4_buy := goodIn_ca (goodIn_ca (goodIn_r _ [7, 8, 9, 10, 11, 12, 13, 14, 6, 15, 16, 17, 18, 19, 20, 21, 22, 23, 24] (by decide +kernel) (by decide +kernel)) (goodIn_sub (fun _ h => List.mem_cons_of_mem _ (List.mem_append_left _ (List.mem_append_right _ h))) (by decide +kernel))) (goodIn_sub (fun _ h => List.mem_cons_of_mem _ (List.mem_append_right _ h)) (by decide +kernel))
set_option maxRecDepth 20000 in
theorem gL_buy_X4_buy : GoodIn wsL_buy (wsV RL 26 RX4 yX4_buy wsX4_buy) := goodIn_app (goodIn_of _ (by decide +kernel)) ggL_buy_X4_buy
theorem dL_buy_0 : decode cL_buy 0 = .ok (.aload_n 2, 1) := by decide +kernel
theorem dL_buy_1 : decode cL_buy 1 = .ok (.iconst 0, 1) := by decide +kernel
theorem dL_buy_2 : decode cL_buy 2 = .ok (.aload_n 0, 1) := by decide +kernel
theorem dL_buy_3 : decode cL_buy 3 = .ok (.iload_n 1, 1) := by decide +kernel
theorem dL_buy_4 : decode cL_buy 4 = .ok (.invokevirtual 26, 3) := by decide +kernel
theorem dL_buy_7 : decode cL_buy 7 = .ok (.i2l, 1) := by decide +kernel
theorem dL_buy_8 : decode cL_buy 8 = .ok (.lastore, 1) := by decide +kernel
theorem dL_buy_9 : decode cL_buy 9 = .ok (.goto 9, 3) := by decide +kernel
theorem dL_buy_12 : decode cL_buy 12 = .ok (.astore_n 3, 1) := by decide +kernel
theorem dL_buy_13 : decode cL_buy 13 = .ok (.iconst 1, 1) := by decide +kernel
theorem dL_buy_14 : decode cL_buy 14 = .ok (.ireturn, 1) := by decide +kernel
theorem dL_buy_15 : decode cL_buy 15 = .ok (.astore_n 3, 1) := by decide +kernel
theorem dL_buy_16 : decode cL_buy 16 = .ok (.iconst 2, 1) := by decide +kernel
theorem dL_buy_17 : decode cL_buy 17 = .ok (.ireturn, 1) := by decide +kernel
theorem dL_buy_18 : decode cL_buy 18 = .ok (.iconst 0, 1) := by decide +kernel
theorem dL_buy_19 : decode cL_buy 19 = .ok (.ireturn, 1) := by decide +kernel
set_option maxRecDepth 20000 in
theorem ggL_about_X4_about : GoodIn wsL_about wsX4_about := goodIn_ca (goodIn_r _ [6, 7, 8, 9, 10, 5, 11, 12, 13, 14, 15, 16, 17, 18, 19, 20, 21, 22, 23, 24, 25, 26, 27, 28, 29, 30, 31, 32, 33, 34, 35, 36, 37, 38, 39, 40, 41, 42, 43, 44, 45, 46, 47, 48, 49, 50, 51, 52, 53, 54, 55, 56] (by decide +kernel) (by decide +kernel)) (goodIn_sub (fun _ h => List.mem_cons_of_mem _ (List.mem_append_right _ h)) (by decide +kernel))
set_option maxRecDepth 20000 in
theorem gL_about_X4_about : GoodIn wsL_about (wsV RL 29 RX4 yX4_about wsX4_about) := goodIn_app (goodIn_of _ (by decide +kernel)) ggL_about_X4_about
theorem dL_about_0 : decode cL_about 0 = .ok (.aload_n 3, 1) := by decide +kernel
theorem dL_about_1 : decode cL_about 1 = .ok (.iconst 0, 1) := by decide +kernel
theorem dL_about_2 : decode cL_about 2 = .ok (.aload_n 0, 1) := by decide +kernel
theorem dL_about_3 : decode cL_about 3 = .ok (.iload_n 1, 1) := by decide +kernel
theorem dL_about_4 : decode cL_about 4 = .ok (.iload_n 2, 1) := by decide +kernel
theorem dL_about_5 : decode cL_about 5 = .ok (.invokevirtual 29, 3) := by decide +kernel
theorem dL_about_8 : decode cL_about 8 = .ok (.i2l, 1) := by decide +kernel
theorem dL_about_9 : decode cL_about 9 = .ok (.lastore, 1) := by decide +kernel
theorem dL_about_10 : decode cL_about 10 = .ok (.goto 7, 3) := by decide +kernel
theorem dL_about_13 : decode cL_about 13 = .ok (.astore 4, 2) := by decide +kernel
theorem dL_about_15 : decode cL_about 15 = .ok (.iconst 1, 1) := by decide +kernel
theorem dL_about_16 : decode cL_about 16 = .ok (.ireturn, 1) := by decide +kernel
theorem dL_about_17 : decode cL_about 17 = .ok (.iconst 0, 1) := by decide +kernel
theorem dL_about_18 : decode cL_about 18 = .ok (.ireturn, 1) := by decide +kernel
set_option maxRecDepth 20000 in
theorem ggL_best_X4_best : GoodIn wsL_best wsX4_best := goodIn_ca (goodIn_r _ [6, 7, 8, 9, 10, 11, 5, 12, 13, 14, 15, 16, 17, 18, 19, 20, 21, 22, 23, 24, 25, 26, 27, 28, 29, 30, 31, 32, 33, 34, 35, 36, 37, 38, 39, 40, 41, 42, 43, 44, 45, 46, 47, 48, 49, 50, 51, 52, 53, 54, 55, 56, 57, 58, 59, 60, 61, 62, 63, 64, 65, 66, 67, 68, 69, 70, 71, 72, 73, 74, 75, 76, 77] (by decide +kernel) (by decide +kernel)) (goodIn_sub (fun _ h => List.mem_cons_of_mem _ (List.mem_append_right _ h)) (by decide +kernel))
set_option maxRecDepth 20000 in
theorem gL_best_X4_best : GoodIn wsL_best (wsV RL 33 RX4 yX4_best wsX4_best) := goodIn_app (goodIn_of _ (by decide +kernel)) ggL_best_X4_best
theorem dL_best_0 : decode cL_best 0 = .ok (.aload_n 2, 1) := by decide +kernel
theorem dL_best_1 : decode cL_best 1 = .ok (.iconst 0, 1) := by decide +kernel
theorem dL_best_2 : decode cL_best 2 = .ok (.aload_n 0, 1) := by decide +kernel
theorem dL_best_3 : decode cL_best 3 = .ok (.iload_n 1, 1) := by decide +kernel
theorem dL_best_4 : decode cL_best 4 = .ok (.invokevirtual 33, 3) := by decide +kernel
theorem dL_best_7 : decode cL_best 7 = .ok (.i2l, 1) := by decide +kernel
theorem dL_best_8 : decode cL_best 8 = .ok (.lastore, 1) := by decide +kernel
theorem dL_best_9 : decode cL_best 9 = .ok (.goto 6, 3) := by decide +kernel
theorem dL_best_12 : decode cL_best 12 = .ok (.astore_n 3, 1) := by decide +kernel
theorem dL_best_13 : decode cL_best 13 = .ok (.iconst 1, 1) := by decide +kernel
theorem dL_best_14 : decode cL_best 14 = .ok (.ireturn, 1) := by decide +kernel
theorem dL_best_15 : decode cL_best 15 = .ok (.iconst 0, 1) := by decide +kernel
theorem dL_best_16 : decode cL_best 16 = .ok (.ireturn, 1) := by decide +kernel
set_option maxRecDepth 20000 in
theorem ggL_barge_X4_barge : GoodIn wsL_barge wsX4_barge := goodIn_ca (goodIn_ca (goodIn_r _ [7, 8, 9, 10, 11, 12, 6, 13, 14, 15, 16, 17, 18, 19, 20, 21, 22, 23, 24, 25, 26, 27, 28, 29, 30, 31, 32, 33, 34, 35, 36, 37, 38, 39, 40, 41, 42] (by decide +kernel) (by decide +kernel)) (goodIn_sub (fun _ h => List.mem_cons_of_mem _ (List.mem_append_left _ (List.mem_append_right _ h))) (by decide +kernel))) (goodIn_sub (fun _ h => List.mem_cons_of_mem _ (List.mem_append_right _ h)) (by decide +kernel))
set_option maxRecDepth 20000 in
theorem gL_barge_X4_barge : GoodIn wsL_barge (wsV RL 36 RX4 yX4_barge wsX4_barge) := goodIn_app (goodIn_of _ (by decide +kernel)) ggL_barge_X4_barge
theorem dL_barge_0 : decode cL_barge 0 = .ok (.aload_n 2, 1) := by decide +kernel
theorem dL_barge_1 : decode cL_barge 1 = .ok (.iconst 0, 1) := by decide +kernel
theorem dL_barge_2 : decode cL_barge 2 = .ok (.aload_n 0, 1) := by decide +kernel
theorem dL_barge_3 : decode cL_barge 3 = .ok (.iload_n 1, 1) := by decide +kernel
theorem dL_barge_4 : decode cL_barge 4 = .ok (.invokevirtual 36, 3) := by decide +kernel
theorem dL_barge_7 : decode cL_barge 7 = .ok (.i2l, 1) := by decide +kernel
theorem dL_barge_8 : decode cL_barge 8 = .ok (.lastore, 1) := by decide +kernel
theorem dL_barge_9 : decode cL_barge 9 = .ok (.goto 9, 3) := by decide +kernel
theorem dL_barge_12 : decode cL_barge 12 = .ok (.astore_n 3, 1) := by decide +kernel
theorem dL_barge_13 : decode cL_barge 13 = .ok (.iconst 1, 1) := by decide +kernel
theorem dL_barge_14 : decode cL_barge 14 = .ok (.ireturn, 1) := by decide +kernel
theorem dL_barge_15 : decode cL_barge 15 = .ok (.astore_n 3, 1) := by decide +kernel
theorem dL_barge_16 : decode cL_barge 16 = .ok (.iconst 2, 1) := by decide +kernel
theorem dL_barge_17 : decode cL_barge 17 = .ok (.ireturn, 1) := by decide +kernel
theorem dL_barge_18 : decode cL_barge 18 = .ok (.iconst 0, 1) := by decide +kernel
theorem dL_barge_19 : decode cL_barge 19 = .ok (.ireturn, 1) := by decide +kernel
set_option maxRecDepth 20000 in
theorem ggL_sail_X4_sail : GoodIn wsL_sail wsX4_sail := goodIn_ca (goodIn_r _ [6, 7, 8, 9, 10, 5, 11, 12, 13, 14, 15, 16, 17, 18, 19, 20, 21, 22, 23, 24, 25, 26, 27, 28, 29, 30, 31, 32, 33, 34, 35, 36, 37, 38, 39, 40, 41, 42] (by decide +kernel) (by decide +kernel)) (goodIn_sub (fun _ h => List.mem_cons_of_mem _ (List.mem_append_right _ h)) (by decide +kernel))
set_option maxRecDepth 20000 in
theorem gL_sail_X4_sail : GoodIn wsL_sail (wsV RL 39 RX4 yX4_sail wsX4_sail) := goodIn_app (goodIn_of _ (by decide +kernel)) ggL_sail_X4_sail
theorem dL_sail_0 : decode cL_sail 0 = .ok (.aload_n 3, 1) := by decide +kernel
theorem dL_sail_1 : decode cL_sail 1 = .ok (.iconst 0, 1) := by decide +kernel
theorem dL_sail_2 : decode cL_sail 2 = .ok (.aload_n 0, 1) := by decide +kernel
theorem dL_sail_3 : decode cL_sail 3 = .ok (.iload_n 1, 1) := by decide +kernel
theorem dL_sail_4 : decode cL_sail 4 = .ok (.iload_n 2, 1) := by decide +kernel
theorem dL_sail_5 : decode cL_sail 5 = .ok (.invokevirtual 39, 3) := by decide +kernel
theorem dL_sail_8 : decode cL_sail 8 = .ok (.i2l, 1) := by decide +kernel
theorem dL_sail_9 : decode cL_sail 9 = .ok (.lastore, 1) := by decide +kernel
theorem dL_sail_10 : decode cL_sail 10 = .ok (.goto 7, 3) := by decide +kernel
theorem dL_sail_13 : decode cL_sail 13 = .ok (.astore 4, 2) := by decide +kernel
theorem dL_sail_15 : decode cL_sail 15 = .ok (.iconst 1, 1) := by decide +kernel
theorem dL_sail_16 : decode cL_sail 16 = .ok (.ireturn, 1) := by decide +kernel
theorem dL_sail_17 : decode cL_sail 17 = .ok (.iconst 0, 1) := by decide +kernel
theorem dL_sail_18 : decode cL_sail 18 = .ok (.ireturn, 1) := by decide +kernel
set_option maxRecDepth 20000 in
theorem ggL_load_X4_load : GoodIn wsL_load wsX4_load := goodIn_ca (goodIn_ca (goodIn_r _ [7, 8, 9, 10, 11, 12, 13, 6, 14, 15, 16, 17, 18, 19, 20, 21, 22, 23, 24, 25, 26, 27, 28, 29, 30, 31, 32, 33, 34, 35, 36, 37, 38, 39, 40, 41, 42, 43, 44, 45, 46, 47, 48, 49, 50, 51, 52, 53, 54, 55, 56, 57, 58, 59, 60, 61, 62, 63] (by decide +kernel) (by decide +kernel)) (goodIn_sub (fun _ h => List.mem_cons_of_mem _ (List.mem_append_left _ (List.mem_append_right _ h))) (by decide +kernel))) (goodIn_sub (fun _ h => List.mem_cons_of_mem _ (List.mem_append_right _ h)) (by decide +kernel))
set_option maxRecDepth 20000 in
theorem gL_load_X4_load : GoodIn wsL_load (wsV RL 42 RX4 yX4_load wsX4_load) := goodIn_app (goodIn_of _ (by decide +kernel)) ggL_load_X4_load
theorem dL_load_0 : decode cL_load 0 = .ok (.aload_n 3, 1) := by decide +kernel
theorem dL_load_1 : decode cL_load 1 = .ok (.iconst 0, 1) := by decide +kernel
theorem dL_load_2 : decode cL_load 2 = .ok (.aload_n 0, 1) := by decide +kernel
theorem dL_load_3 : decode cL_load 3 = .ok (.iload_n 1, 1) := by decide +kernel
theorem dL_load_4 : decode cL_load 4 = .ok (.iload_n 2, 1) := by decide +kernel
theorem dL_load_5 : decode cL_load 5 = .ok (.invokevirtual 42, 3) := by decide +kernel
theorem dL_load_8 : decode cL_load 8 = .ok (.i2l, 1) := by decide +kernel
theorem dL_load_9 : decode cL_load 9 = .ok (.lastore, 1) := by decide +kernel
theorem dL_load_10 : decode cL_load 10 = .ok (.goto 11, 3) := by decide +kernel
theorem dL_load_13 : decode cL_load 13 = .ok (.astore 4, 2) := by decide +kernel
theorem dL_load_15 : decode cL_load 15 = .ok (.iconst 1, 1) := by decide +kernel
theorem dL_load_16 : decode cL_load 16 = .ok (.ireturn, 1) := by decide +kernel
theorem dL_load_17 : decode cL_load 17 = .ok (.astore 4, 2) := by decide +kernel
theorem dL_load_19 : decode cL_load 19 = .ok (.iconst 2, 1) := by decide +kernel
theorem dL_load_20 : decode cL_load 20 = .ok (.ireturn, 1) := by decide +kernel
theorem dL_load_21 : decode cL_load 21 = .ok (.iconst 0, 1) := by decide +kernel
theorem dL_load_22 : decode cL_load 22 = .ok (.ireturn, 1) := by decide +kernel
set_option maxRecDepth 20000 in
theorem ggL_sell_X4_sell : GoodIn wsL_sell wsX4_sell := goodIn_ca (goodIn_ca (goodIn_r _ [7, 8, 9, 10, 11, 12, 13, 6, 14, 15, 16, 17, 18, 19, 20, 21, 22, 23, 24, 25, 26, 27, 28, 29, 30, 31, 32, 33, 34, 35, 36, 37, 38, 39, 40, 41, 42, 43, 44, 45, 46, 47, 48, 49, 50, 51, 52, 53, 54, 55, 56, 57, 58, 59, 60, 61, 62, 63, 64, 65, 66] (by decide +kernel) (by decide +kernel)) (goodIn_sub (fun _ h => List.mem_cons_of_mem _ (List.mem_append_left _ (List.mem_append_right _ h))) (by decide +kernel))) (goodIn_sub (fun _ h => List.mem_cons_of_mem _ (List.mem_append_right _ h)) (by decide +kernel))
set_option maxRecDepth 20000 in
theorem gL_sell_X4_sell : GoodIn wsL_sell (wsV RL 45 RX4 yX4_sell wsX4_sell) := goodIn_app (goodIn_of _ (by decide +kernel)) ggL_sell_X4_sell
theorem dL_sell_0 : decode cL_sell 0 = .ok (.aload_n 2, 1) := by decide +kernel
theorem dL_sell_1 : decode cL_sell 1 = .ok (.iconst 0, 1) := by decide +kernel
theorem dL_sell_2 : decode cL_sell 2 = .ok (.aload_n 0, 1) := by decide +kernel
theorem dL_sell_3 : decode cL_sell 3 = .ok (.iload_n 1, 1) := by decide +kernel
theorem dL_sell_4 : decode cL_sell 4 = .ok (.invokevirtual 45, 3) := by decide +kernel
theorem dL_sell_7 : decode cL_sell 7 = .ok (.i2l, 1) := by decide +kernel
theorem dL_sell_8 : decode cL_sell 8 = .ok (.lastore, 1) := by decide +kernel
theorem dL_sell_9 : decode cL_sell 9 = .ok (.goto 9, 3) := by decide +kernel
theorem dL_sell_12 : decode cL_sell 12 = .ok (.astore_n 3, 1) := by decide +kernel
theorem dL_sell_13 : decode cL_sell 13 = .ok (.iconst 1, 1) := by decide +kernel
theorem dL_sell_14 : decode cL_sell 14 = .ok (.ireturn, 1) := by decide +kernel
theorem dL_sell_15 : decode cL_sell 15 = .ok (.astore_n 3, 1) := by decide +kernel
theorem dL_sell_16 : decode cL_sell 16 = .ok (.iconst 2, 1) := by decide +kernel
theorem dL_sell_17 : decode cL_sell 17 = .ok (.ireturn, 1) := by decide +kernel
theorem dL_sell_18 : decode cL_sell 18 = .ok (.iconst 0, 1) := by decide +kernel
theorem dL_sell_19 : decode cL_sell 19 = .ok (.ireturn, 1) := by decide +kernel
set_option maxRecDepth 20000 in
theorem ggL_told_X4_told : GoodIn wsL_told wsX4_told := goodIn_ca (goodIn_r _ [6, 7, 8, 9, 10, 5, 11, 12, 13, 14, 15, 16, 17, 18, 19, 20, 21, 22, 23, 24, 25, 26, 27, 28, 29, 30, 31, 32, 33, 34, 35, 36, 37, 38, 39, 40, 41, 42, 43, 44] (by decide +kernel) (by decide +kernel)) (goodIn_sub (fun _ h => List.mem_cons_of_mem _ (List.mem_append_right _ h)) (by decide +kernel))
set_option maxRecDepth 20000 in
theorem gL_told_X4_told : GoodIn wsL_told (wsV RL 48 RX4 yX4_told wsX4_told) := goodIn_app (goodIn_of _ (by decide +kernel)) ggL_told_X4_told
theorem dL_told_0 : decode cL_told 0 = .ok (.aload_n 3, 1) := by decide +kernel
theorem dL_told_1 : decode cL_told 1 = .ok (.iconst 0, 1) := by decide +kernel
theorem dL_told_2 : decode cL_told 2 = .ok (.aload_n 0, 1) := by decide +kernel
theorem dL_told_3 : decode cL_told 3 = .ok (.iload_n 1, 1) := by decide +kernel
theorem dL_told_4 : decode cL_told 4 = .ok (.iload_n 2, 1) := by decide +kernel
theorem dL_told_5 : decode cL_told 5 = .ok (.invokevirtual 48, 3) := by decide +kernel
theorem dL_told_8 : decode cL_told 8 = .ok (.i2l, 1) := by decide +kernel
theorem dL_told_9 : decode cL_told 9 = .ok (.lastore, 1) := by decide +kernel
theorem dL_told_10 : decode cL_told 10 = .ok (.goto 7, 3) := by decide +kernel
theorem dL_told_13 : decode cL_told 13 = .ok (.astore 4, 2) := by decide +kernel
theorem dL_told_15 : decode cL_told 15 = .ok (.iconst 1, 1) := by decide +kernel
theorem dL_told_16 : decode cL_told 16 = .ok (.ireturn, 1) := by decide +kernel
theorem dL_told_17 : decode cL_told 17 = .ok (.iconst 0, 1) := by decide +kernel
theorem dL_told_18 : decode cL_told 18 = .ok (.ireturn, 1) := by decide +kernel
set_option maxRecDepth 20000 in
theorem ggL_landing_X4_landing : GoodIn wsL_landing wsX4_landing := goodIn_ca (goodIn_r _ [6, 7, 8, 9, 5, 10, 11, 12, 13, 14, 15, 16, 17, 18, 19, 20, 21, 22, 23, 24, 25, 26, 27, 28, 29, 30, 31, 32, 33, 34, 35, 36, 37, 38, 39, 40, 41, 42, 43] (by decide +kernel) (by decide +kernel)) (goodIn_sub (fun _ h => List.mem_cons_of_mem _ (List.mem_append_right _ h)) (by decide +kernel))
set_option maxRecDepth 20000 in
theorem gL_landing_X4_landing : GoodIn wsL_landing (wsV RL 51 RX4 yX4_landing wsX4_landing) := goodIn_app (goodIn_of _ (by decide +kernel)) ggL_landing_X4_landing
theorem dL_landing_0 : decode cL_landing 0 = .ok (.aload_n 3, 1) := by decide +kernel
theorem dL_landing_1 : decode cL_landing 1 = .ok (.iconst 0, 1) := by decide +kernel
theorem dL_landing_2 : decode cL_landing 2 = .ok (.aload_n 0, 1) := by decide +kernel
theorem dL_landing_3 : decode cL_landing 3 = .ok (.iload_n 1, 1) := by decide +kernel
theorem dL_landing_4 : decode cL_landing 4 = .ok (.iload_n 2, 1) := by decide +kernel
theorem dL_landing_5 : decode cL_landing 5 = .ok (.invokevirtual 51, 3) := by decide +kernel
theorem dL_landing_8 : decode cL_landing 8 = .ok (.i2l, 1) := by decide +kernel
theorem dL_landing_9 : decode cL_landing 9 = .ok (.lastore, 1) := by decide +kernel
theorem dL_landing_10 : decode cL_landing 10 = .ok (.goto 7, 3) := by decide +kernel
theorem dL_landing_13 : decode cL_landing 13 = .ok (.astore 4, 2) := by decide +kernel
theorem dL_landing_15 : decode cL_landing 15 = .ok (.iconst 1, 1) := by decide +kernel
theorem dL_landing_16 : decode cL_landing 16 = .ok (.ireturn, 1) := by decide +kernel
theorem dL_landing_17 : decode cL_landing 17 = .ok (.iconst 0, 1) := by decide +kernel
theorem dL_landing_18 : decode cL_landing 18 = .ok (.ireturn, 1) := by decide +kernel
set_option maxRecDepth 20000 in
theorem ggL_would_X4_would : GoodIn wsL_would wsX4_would := goodIn_ca (goodIn_r _ [6, 7, 8, 9, 10, 11, 12, 5, 13, 14, 15, 16, 17, 18, 19, 20, 21, 22, 23, 24, 25, 26, 27, 28, 29, 30, 31, 32, 33, 34, 35, 36, 37, 38, 39, 40, 41, 42, 43, 44, 45, 46, 47, 48, 49, 50, 51, 52, 53, 54, 55, 56, 57, 58, 59, 60, 61, 62, 63, 64, 65, 66, 67, 68, 69, 70, 71, 72, 73, 74, 75, 76, 77, 78, 79, 80, 81, 82, 83, 84, 85, 86, 87, 88, 89, 90, 91, 92, 93, 94, 95, 96, 97, 98, 99, 100, 101, 102, 103, 104, 105, 106, 107, 108, 109, 110, 111, 112, 113, 114, 115, 116, 117, 118, 119, 120, 121, 122, 123, 124, 125, 126, 127, 128, 129, 130, 131, 132, 133, 134, 135, 136, 137, 138, 139, 140, 141, 142, 143, 144, 145, 146, 147, 148, 149, 150, 151, 152, 153, 154, 155, 156, 157, 158] (by decide +kernel) (by decide +kernel)) (goodIn_sub (fun _ h => List.mem_cons_of_mem _ (List.mem_append_right _ h)) (by decide +kernel))
set_option maxRecDepth 20000 in
theorem gL_would_X4_would : GoodIn wsL_would (wsV RL 54 RX4 yX4_would wsX4_would) := goodIn_app (goodIn_of _ (by decide +kernel)) ggL_would_X4_would
theorem dL_would_0 : decode cL_would 0 = .ok (.aload_n 3, 1) := by decide +kernel
theorem dL_would_1 : decode cL_would 1 = .ok (.iconst 0, 1) := by decide +kernel
theorem dL_would_2 : decode cL_would 2 = .ok (.aload_n 0, 1) := by decide +kernel
theorem dL_would_3 : decode cL_would 3 = .ok (.iload_n 1, 1) := by decide +kernel
theorem dL_would_4 : decode cL_would 4 = .ok (.iload_n 2, 1) := by decide +kernel
theorem dL_would_5 : decode cL_would 5 = .ok (.invokevirtual 54, 3) := by decide +kernel
theorem dL_would_8 : decode cL_would 8 = .ok (.i2l, 1) := by decide +kernel
theorem dL_would_9 : decode cL_would 9 = .ok (.lastore, 1) := by decide +kernel
theorem dL_would_10 : decode cL_would 10 = .ok (.goto 7, 3) := by decide +kernel
theorem dL_would_13 : decode cL_would 13 = .ok (.astore 4, 2) := by decide +kernel
theorem dL_would_15 : decode cL_would 15 = .ok (.iconst 1, 1) := by decide +kernel
theorem dL_would_16 : decode cL_would 16 = .ok (.ireturn, 1) := by decide +kernel
theorem dL_would_17 : decode cL_would 17 = .ok (.iconst 0, 1) := by decide +kernel
theorem dL_would_18 : decode cL_would 18 = .ok (.ireturn, 1) := by decide +kernel
set_option maxRecDepth 20000 in
theorem ggL_advise_X4_advise : GoodIn wsL_advise wsX4_advise := goodIn_ca (goodIn_r _ [6, 7, 8, 9, 5, 10, 11, 12, 13, 14, 15, 16, 17, 18, 19, 20, 21, 22, 23, 24, 25, 26, 27, 28, 29, 30, 31, 32, 33, 34, 35, 36, 37, 38, 39, 40, 41, 42, 43, 44, 45, 46, 47, 48, 49, 50, 51, 52, 53, 54, 55, 56, 57, 58, 59, 60, 61, 62, 63, 64, 65, 66, 67, 68, 69, 70, 71, 72, 73, 74, 75, 76, 77, 78, 79, 80, 81, 82, 83, 84, 85, 86, 87, 88, 89, 90, 91, 92, 93, 94, 95, 96, 97, 98, 99, 100, 101, 102, 103, 104, 105, 106, 107, 108, 109, 110, 111, 112, 113, 114, 115, 116, 117, 118, 119, 120, 121, 122, 123, 124, 125, 126, 127, 128, 129, 130, 131, 132, 133, 134, 135, 136, 137, 138, 139, 140, 141, 142, 143, 144, 145, 146, 147, 148, 149, 150, 151, 152, 153, 154, 155, 156, 157, 158, 159, 160, 161, 162] (by decide +kernel) (by decide +kernel)) (goodIn_sub (fun _ h => List.mem_cons_of_mem _ (List.mem_append_right _ h)) (by decide +kernel))
set_option maxRecDepth 20000 in
theorem gL_advise_X4_advise : GoodIn wsL_advise (wsV RL 57 RX4 yX4_advise wsX4_advise) := goodIn_app (goodIn_of _ (by decide +kernel)) ggL_advise_X4_advise
theorem dL_advise_0 : decode cL_advise 0 = .ok (.aload_n 2, 1) := by decide +kernel
theorem dL_advise_1 : decode cL_advise 1 = .ok (.iconst 0, 1) := by decide +kernel
theorem dL_advise_2 : decode cL_advise 2 = .ok (.aload_n 0, 1) := by decide +kernel
theorem dL_advise_3 : decode cL_advise 3 = .ok (.iload_n 1, 1) := by decide +kernel
theorem dL_advise_4 : decode cL_advise 4 = .ok (.invokevirtual 57, 3) := by decide +kernel
theorem dL_advise_7 : decode cL_advise 7 = .ok (.i2l, 1) := by decide +kernel
theorem dL_advise_8 : decode cL_advise 8 = .ok (.lastore, 1) := by decide +kernel
theorem dL_advise_9 : decode cL_advise 9 = .ok (.goto 6, 3) := by decide +kernel
theorem dL_advise_12 : decode cL_advise 12 = .ok (.astore_n 3, 1) := by decide +kernel
theorem dL_advise_13 : decode cL_advise 13 = .ok (.iconst 1, 1) := by decide +kernel
theorem dL_advise_14 : decode cL_advise 14 = .ok (.ireturn, 1) := by decide +kernel
theorem dL_advise_15 : decode cL_advise 15 = .ok (.iconst 0, 1) := by decide +kernel
theorem dL_advise_16 : decode cL_advise 16 = .ok (.ireturn, 1) := by decide +kernel
set_option maxRecDepth 20000 in
theorem ggL_count_X4_count : GoodIn wsL_count wsX4_count := goodIn_ca (goodIn_r _ [6, 7, 8, 9, 5, 10, 11, 12, 13, 14, 15, 16, 17, 18, 19, 20, 21, 22, 23, 24, 25, 26, 27, 28, 29, 30, 31, 32, 33, 34, 35, 36, 37, 38, 39, 40, 41, 42, 43, 44, 45, 46, 47, 48, 49, 50, 51, 52, 53, 54, 55, 56, 57, 58, 59, 60, 61, 62, 63, 64, 65, 66, 67, 68, 69, 70, 71, 72, 73, 74, 75, 76, 77, 78, 79, 80, 81, 82, 83, 84, 85, 86, 87, 88, 89, 90, 91, 92] (by decide +kernel) (by decide +kernel)) (goodIn_sub (fun _ h => List.mem_cons_of_mem _ (List.mem_append_right _ h)) (by decide +kernel))
set_option maxRecDepth 20000 in
theorem gL_count_X4_count : GoodIn wsL_count (wsV RL 60 RX4 yX4_count wsX4_count) := goodIn_app (goodIn_of _ (by decide +kernel)) ggL_count_X4_count
theorem dL_count_0 : decode cL_count 0 = .ok (.aload_n 2, 1) := by decide +kernel
theorem dL_count_1 : decode cL_count 1 = .ok (.iconst 0, 1) := by decide +kernel
theorem dL_count_2 : decode cL_count 2 = .ok (.aload_n 0, 1) := by decide +kernel
theorem dL_count_3 : decode cL_count 3 = .ok (.iload_n 1, 1) := by decide +kernel
theorem dL_count_4 : decode cL_count 4 = .ok (.invokevirtual 60, 3) := by decide +kernel
theorem dL_count_7 : decode cL_count 7 = .ok (.i2l, 1) := by decide +kernel
theorem dL_count_8 : decode cL_count 8 = .ok (.lastore, 1) := by decide +kernel
theorem dL_count_9 : decode cL_count 9 = .ok (.goto 6, 3) := by decide +kernel
theorem dL_count_12 : decode cL_count 12 = .ok (.astore_n 3, 1) := by decide +kernel
theorem dL_count_13 : decode cL_count 13 = .ok (.iconst 1, 1) := by decide +kernel
theorem dL_count_14 : decode cL_count 14 = .ok (.ireturn, 1) := by decide +kernel
theorem dL_count_15 : decode cL_count 15 = .ok (.iconst 0, 1) := by decide +kernel
theorem dL_count_16 : decode cL_count 16 = .ok (.ireturn, 1) := by decide +kernel
set_option maxRecDepth 20000 in
theorem ggL_pass_X4_pass : GoodIn wsL_pass wsX4_pass := goodIn_ca (goodIn_r _ [6, 7, 8, 9, 5, 10, 11, 12, 13, 14, 15, 16, 17, 18, 19, 20, 21, 22, 23, 24, 25, 26, 27, 28, 29, 30, 31, 32, 33, 34, 35, 36, 37, 38, 39, 40, 41, 42, 43, 44, 45, 46, 47, 48, 49, 50, 51, 52, 53, 54, 55, 56, 57, 58, 59, 60, 61, 62, 63, 64, 65, 66, 67, 68, 69, 70, 71, 72, 73, 74, 75, 76, 77, 78, 79, 80, 81, 82, 83, 84, 85, 86, 87, 88, 89, 90, 91, 92, 93, 94, 95, 96, 97, 98, 99, 100, 101, 102, 103, 104, 105] (by decide +kernel) (by decide +kernel)) (goodIn_sub (fun _ h => List.mem_cons_of_mem _ (List.mem_append_right _ h)) (by decide +kernel))
set_option maxRecDepth 20000 in
theorem gL_pass_X4_pass : GoodIn wsL_pass (wsV RL 63 RX4 yX4_pass wsX4_pass) := goodIn_app (goodIn_of _ (by decide +kernel)) ggL_pass_X4_pass
theorem dL_pass_0 : decode cL_pass 0 = .ok (.aload_n 2, 1) := by decide +kernel
theorem dL_pass_1 : decode cL_pass 1 = .ok (.iconst 0, 1) := by decide +kernel
theorem dL_pass_2 : decode cL_pass 2 = .ok (.aload_n 0, 1) := by decide +kernel
theorem dL_pass_3 : decode cL_pass 3 = .ok (.iload_n 1, 1) := by decide +kernel
theorem dL_pass_4 : decode cL_pass 4 = .ok (.invokevirtual 63, 3) := by decide +kernel
theorem dL_pass_7 : decode cL_pass 7 = .ok (.i2l, 1) := by decide +kernel
theorem dL_pass_8 : decode cL_pass 8 = .ok (.lastore, 1) := by decide +kernel
theorem dL_pass_9 : decode cL_pass 9 = .ok (.goto 6, 3) := by decide +kernel
theorem dL_pass_12 : decode cL_pass 12 = .ok (.astore_n 3, 1) := by decide +kernel
theorem dL_pass_13 : decode cL_pass 13 = .ok (.iconst 1, 1) := by decide +kernel
theorem dL_pass_14 : decode cL_pass 14 = .ok (.ireturn, 1) := by decide +kernel
theorem dL_pass_15 : decode cL_pass 15 = .ok (.iconst 0, 1) := by decide +kernel
theorem dL_pass_16 : decode cL_pass 16 = .ok (.ireturn, 1) := by decide +kernel
set_option maxRecDepth 20000 in
theorem ggL_foresee_X4_foresee : GoodIn wsL_foresee wsX4_foresee := goodIn_ca (goodIn_ca (goodIn_r _ [7, 8, 9, 10, 11, 12, 13, 6, 14, 15, 16, 17, 18, 19, 20, 21, 22, 23, 24, 25, 26, 27, 28, 29, 30, 31, 32, 33, 34, 35, 36, 37, 38, 39, 40, 41, 42, 43, 44, 45, 46, 47, 48, 49, 50, 51, 52, 53, 54, 55, 56, 57, 58, 59, 60, 61, 62, 63, 64, 65, 66, 67, 68, 69, 70, 71, 72, 73, 74, 75, 76, 77, 78, 79, 80, 81, 82, 83, 84, 85, 86, 87, 88, 89, 90, 91, 92, 93, 94, 95, 96, 97, 98, 99, 100, 101, 102, 103, 104, 105, 106, 107, 108, 109, 110, 111, 112, 113, 114, 115, 116, 117, 118, 119, 120, 121, 122, 123, 124, 125, 126, 127, 128, 129, 130, 131, 132, 133, 134, 135, 136, 137, 138, 139, 140, 141, 142, 143, 144, 145, 146, 147, 148, 149, 150, 151, 152, 153, 154, 155, 156, 157, 158, 159, 160, 161, 162, 163, 164, 165] (by decide +kernel) (by decide +kernel)) (goodIn_sub (fun _ h => List.mem_cons_of_mem _ (List.mem_append_left _ (List.mem_append_right _ h))) (by decide +kernel))) (goodIn_sub (fun _ h => List.mem_cons_of_mem _ (List.mem_append_right _ h)) (by decide +kernel))
set_option maxRecDepth 20000 in
theorem gL_foresee_X4_foresee : GoodIn wsL_foresee (wsV RL 66 RX4 yX4_foresee wsX4_foresee) := goodIn_app (goodIn_of _ (by decide +kernel)) ggL_foresee_X4_foresee
theorem dL_foresee_0 : decode cL_foresee 0 = .ok (.aload_n 3, 1) := by decide +kernel
theorem dL_foresee_1 : decode cL_foresee 1 = .ok (.iconst 0, 1) := by decide +kernel
theorem dL_foresee_2 : decode cL_foresee 2 = .ok (.aload_n 0, 1) := by decide +kernel
theorem dL_foresee_3 : decode cL_foresee 3 = .ok (.iload_n 1, 1) := by decide +kernel
theorem dL_foresee_4 : decode cL_foresee 4 = .ok (.iload_n 2, 1) := by decide +kernel
theorem dL_foresee_5 : decode cL_foresee 5 = .ok (.invokevirtual 66, 3) := by decide +kernel
theorem dL_foresee_8 : decode cL_foresee 8 = .ok (.i2l, 1) := by decide +kernel
theorem dL_foresee_9 : decode cL_foresee 9 = .ok (.lastore, 1) := by decide +kernel
theorem dL_foresee_10 : decode cL_foresee 10 = .ok (.goto 11, 3) := by decide +kernel
theorem dL_foresee_13 : decode cL_foresee 13 = .ok (.astore 4, 2) := by decide +kernel
theorem dL_foresee_15 : decode cL_foresee 15 = .ok (.iconst 1, 1) := by decide +kernel
theorem dL_foresee_16 : decode cL_foresee 16 = .ok (.ireturn, 1) := by decide +kernel
theorem dL_foresee_17 : decode cL_foresee 17 = .ok (.astore 4, 2) := by decide +kernel
theorem dL_foresee_19 : decode cL_foresee 19 = .ok (.iconst 2, 1) := by decide +kernel
theorem dL_foresee_20 : decode cL_foresee 20 = .ok (.ireturn, 1) := by decide +kernel
theorem dL_foresee_21 : decode cL_foresee 21 = .ok (.iconst 0, 1) := by decide +kernel
theorem dL_foresee_22 : decode cL_foresee 22 = .ok (.ireturn, 1) := by decide +kernel
set_option maxRecDepth 20000 in
theorem ggL_law_X4_init : GoodIn wsL_law wsX4_init := goodIn_r _ [9, 10, 11, 12, 13, 14, 15, 16, 17, 18, 19, 20, 21, 22, 23, 24, 25, 26, 27, 28, 29, 30, 31, 32, 33, 34, 35, 36, 37, 38, 39, 40, 41, 42, 43, 44, 45, 46, 47, 48, 49, 50, 51, 52, 53, 54, 55, 56, 57, 58, 59, 634, 635, 636, 637, 638, 639, 640, 618, 619, 641, 642, 643, 644, 645, 646, 647, 648, 649, 650, 651, 652, 653, 654, 655, 656, 657] (by decide +kernel) (by decide +kernel)
set_option maxRecDepth 20000 in
theorem gL_law_X4_init : GoodIn wsL_law (wsX4_init) := ggL_law_X4_init
set_option maxRecDepth 20000 in
theorem ggL_law_X5_init : GoodIn wsL_law wsX5_init := goodIn_r _ [62, 63, 11, 12, 64, 65, 38, 66, 67, 68, 69, 70, 71, 72, 620, 621, 622, 623, 624, 625, 626, 627, 628, 629, 630, 631, 632, 633] (by decide +kernel) (by decide +kernel)
set_option maxRecDepth 20000 in
theorem gL_law_X5_init : GoodIn wsL_law (wsX5_init) := ggL_law_X5_init
set_option maxRecDepth 20000 in
theorem ggL_law_L_bed : GoodIn wsL_law wsL_bed := goodIn_ca (goodIn_ca (goodIn_ca (goodIn_r _ [76, 77, 78, 79, 80, 81, 82, 2, 83, 84, 85, 86, 87, 16, 88, 89, 90, 91, 92, 93, 94, 95, 25, 96, 97, 98, 99, 100, 101, 39, 40, 41, 42, 618, 619, 634, 635, 636, 637, 638, 639, 640, 641, 642, 643, 644, 645, 646, 647, 648, 649, 650] (by decide +kernel) (by decide +kernel)) (goodIn_sub (fun _ h => List.mem_append_left _ (List.mem_append_left _ (List.mem_append_right _ h))) (by decide +kernel))) (goodIn_sub (fun _ h => List.mem_append_left _ (List.mem_append_right _ h)) (by decide +kernel))) (goodIn_sub (fun _ h => List.mem_append_right _ h) (by decide +kernel))
set_option maxRecDepth 20000 in
theorem gL_law_L_bed : GoodIn wsL_law (va_wsS RL 73 yL_bed wsL_bed) := goodIn_app (goodIn_of _ (by decide +kernel)) ggL_law_L_bed
set_option maxRecDepth 20000 in
theorem ggL_law_X5_bed : GoodIn wsL_law wsX5_bed := goodIn_r _ [105, 106, 107, 66, 108, 109, 5, 110, 111, 112, 113, 114, 620, 621, 622, 623, 624, 625, 626, 627, 628, 629, 630, 631, 632, 633] (by decide +kernel) (by decide +kernel)
set_option maxRecDepth 20000 in
theorem gL_law_X5_bed : GoodIn wsL_law (wsV RL 78 RX5 yX5_bed wsX5_bed) := goodIn_app (goodIn_of _ (by decide +kernel)) ggL_law_X5_bed
set_option maxRecDepth 20000 in
theorem ggL_law_X5_thrown : GoodIn wsL_law wsX5_thrown := goodIn_r _ [118, 106, 620, 621, 622, 623, 624, 625, 626, 627, 628, 629, 630, 631, 632, 633] (by decide +kernel) (by decide +kernel)
set_option maxRecDepth 20000 in
theorem gL_law_X5_thrown : GoodIn wsL_law (wsV RL 79 RX5 yX5_thrown wsX5_thrown) := goodIn_app (goodIn_of _ (by decide +kernel)) ggL_law_X5_thrown
set_option maxRecDepth 20000 in
theorem ggL_law_L_cut : GoodIn wsL_law wsL_cut := goodIn_ca (goodIn_ca (goodIn_r _ [121, 77, 79, 122, 123, 124, 2, 125, 86, 87, 16, 126, 127, 128, 129, 91, 92, 130, 131, 132, 25, 133, 43, 44, 41, 134, 135, 136, 137, 40, 138, 139, 140, 141, 42, 618, 619, 634, 635, 636, 637, 638, 639, 640, 641, 642, 643, 644, 645, 646, 647, 648, 649, 650] (by decide +kernel) (by decide +kernel)) (goodIn_sub (fun _ h => List.mem_append_left _ (List.mem_append_right _ h)) (by decide +kernel))) (goodIn_sub (fun _ h => List.mem_append_right _ h) (by decide +kernel))
set_option maxRecDepth 20000 in
theorem gL_law_L_cut : GoodIn wsL_law (va_wsS RL 83 yL_cut wsL_cut) := goodIn_app (goodIn_of _ (by decide +kernel)) ggL_law_L_cut
set_option maxRecDepth 20000 in
theorem ggL_law_X5_cut : GoodIn wsL_law wsX5_cut := goodIn_r _ [145, 106, 66, 146, 147, 148, 5, 149, 107, 108, 109, 110, 111, 112, 113, 114, 150, 151, 152, 153, 154, 155, 156, 620, 621, 622, 623, 624, 625, 626, 627, 628, 629, 630, 631, 632, 633] (by decide +kernel) (by decide +kernel)
set_option maxRecDepth 20000 in
theorem gL_law_X5_cut : GoodIn wsL_law (wsV RL 86 RX5 yX5_cut wsX5_cut) := goodIn_app (goodIn_of _ (by decide +kernel)) ggL_law_X5_cut
set_option maxRecDepth 20000 in
theorem ggL_law_L_tie : GoodIn wsL_law wsL_tie := goodIn_ca (goodIn_r _ [159, 77, 160, 161, 162, 2, 163, 16, 126, 127, 128, 129, 91, 92, 164, 165, 166, 25, 167, 43, 168, 169, 170, 171, 44, 45, 46, 618, 619, 634, 635, 636, 637, 638, 639, 640, 641, 642, 643, 644, 645, 646, 647, 648, 649, 650] (by decide +kernel) (by decide +kernel)) (goodIn_sub (fun _ h => List.mem_append_right _ h) (by decide +kernel))
set_option maxRecDepth 20000 in
theorem gL_law_L_tie : GoodIn wsL_law (va_wsS RL 87 yL_tie wsL_tie) := goodIn_app (goodIn_of _ (by decide +kernel)) ggL_law_L_tie
set_option maxRecDepth 20000 in
theorem ggL_law_X5_tie : GoodIn wsL_law wsX5_tie := goodIn_r _ [175, 106, 146, 147, 148, 5, 149, 107, 108, 109, 110, 176, 177, 178, 179, 65, 66, 180, 169, 170, 171, 111, 112, 113, 114, 620, 621, 622, 623, 624, 625, 626, 627, 628, 629, 630, 631, 632, 633] (by decide +kernel) (by decide +kernel)
set_option maxRecDepth 20000 in
theorem gL_law_X5_tie : GoodIn wsL_law (wsV RL 89 RX5 yX5_tie wsX5_tie) := goodIn_app (goodIn_of _ (by decide +kernel)) ggL_law_X5_tie
set_option maxRecDepth 20000 in
theorem ggL_law_L_buy : GoodIn wsL_law wsL_buy := goodIn_ca (goodIn_ca (goodIn_r _ [183, 78, 79, 184, 185, 186, 2, 187, 84, 85, 86, 87, 16, 188, 189, 190, 618, 619, 634, 635, 636, 637, 638, 639, 640] (by decide +kernel) (by decide +kernel)) (goodIn_sub (fun _ h => List.mem_append_left _ (List.mem_append_left _ (List.mem_append_right _ h))) (by decide +kernel))) (goodIn_sub (fun _ h => List.mem_append_left _ (List.mem_append_right _ h)) (by decide +kernel))
set_option maxRecDepth 20000 in
theorem gL_law_L_buy : GoodIn wsL_law (va_wsS RL 90 yL_buy wsL_buy) := goodIn_app (goodIn_of _ (by decide +kernel)) ggL_law_L_buy
set_option maxRecDepth 20000 in
theorem ggL_law_X5_buy : GoodIn wsL_law wsX5_buy := goodIn_r _ [194, 106, 64, 65, 108, 109, 5, 110, 111, 112, 113, 114, 620, 621, 622, 623, 624, 625, 626, 627, 628, 629, 630, 631, 632, 633] (by decide +kernel) (by decide +kernel)
set_option maxRecDepth 20000 in
theorem gL_law_X5_buy : GoodIn wsL_law (wsV RL 92 RX5 yX5_buy wsX5_buy) := goodIn_app (goodIn_of _ (by decide +kernel)) ggL_law_X5_buy
set_option maxRecDepth 20000 in
theorem ggL_law_L_about : GoodIn wsL_law wsL_about := goodIn_ca (goodIn_r _ [197, 77, 198, 199, 200, 2, 201, 16, 126, 127, 128, 129, 91, 92, 202, 203, 204, 205, 206, 207, 25, 208, 39, 40, 41, 42, 43, 44, 45, 46, 134, 135, 136, 137, 138, 139, 140, 141, 618, 619, 634, 635, 636, 637, 638, 639, 640, 641, 642, 643, 644, 645, 646, 647, 648, 649, 650] (by decide +kernel) (by decide +kernel)) (goodIn_sub (fun _ h => List.mem_append_right _ h) (by decide +kernel))
set_option maxRecDepth 20000 in
theorem gL_law_L_about : GoodIn wsL_law (va_wsS RL 93 yL_about wsL_about) := goodIn_app (goodIn_of _ (by decide +kernel)) ggL_law_L_about
set_option maxRecDepth 20000 in
theorem ggL_law_X5_about : GoodIn wsL_law wsX5_about := goodIn_r _ [212, 106, 146, 147, 148, 5, 149, 107, 108, 109, 110, 213, 214, 215, 216, 66, 150, 151, 152, 153, 154, 155, 156, 111, 112, 113, 114, 620, 621, 622, 623, 624, 625, 626, 627, 628, 629, 630, 631, 632, 633] (by decide +kernel) (by decide +kernel)
set_option maxRecDepth 20000 in
theorem gL_law_X5_about : GoodIn wsL_law (wsV RL 96 RX5 yX5_about wsX5_about) := goodIn_app (goodIn_of _ (by decide +kernel)) ggL_law_X5_about
set_option maxRecDepth 20000 in
theorem ggL_law_L_best : GoodIn wsL_law wsL_best := goodIn_ca (goodIn_r _ [219, 77, 220, 221, 222, 2, 223, 17, 16, 126, 127, 128, 129, 91, 92, 224, 225, 226, 25, 227, 97, 39, 40, 41, 42, 43, 44, 45, 46, 228, 139, 140, 141, 134, 135, 136, 137, 229, 230, 231, 232, 47, 168, 169, 170, 171, 233, 234, 235, 236, 237, 238, 239, 240, 241, 242, 243, 244, 245, 618, 619, 634, 635, 636, 637, 638, 639, 640, 641, 642, 643, 644, 645, 646, 647, 648, 649, 650] (by decide +kernel) (by decide +kernel)) (goodIn_sub (fun _ h => List.mem_append_right _ h) (by decide +kernel))
set_option maxRecDepth 20000 in
theorem gL_law_L_best : GoodIn wsL_law (va_wsS RL 97 yL_best wsL_best) := goodIn_app (goodIn_of _ (by decide +kernel)) ggL_law_L_best
set_option maxRecDepth 20000 in
theorem ggL_law_X5_best : GoodIn wsL_law wsX5_best := goodIn_r _ [249, 106, 69, 146, 147, 148, 5, 149, 107, 108, 109, 110, 111, 112, 113, 114, 250, 251, 252, 253, 66, 254, 255, 256, 257, 67, 70, 68, 71, 154, 155, 156, 150, 151, 152, 153, 258, 259, 260, 261, 72, 180, 169, 170, 171, 262, 234, 235, 263, 264, 265, 266, 267, 244, 245, 620, 621, 622, 623, 624, 625, 626, 627, 628, 629, 630, 631, 632, 633] (by decide +kernel) (by decide +kernel)
set_option maxRecDepth 20000 in
theorem gL_law_X5_best : GoodIn wsL_law (wsV RL 99 RX5 yX5_best wsX5_best) := goodIn_app (goodIn_of _ (by decide +kernel)) ggL_law_X5_best
set_option maxRecDepth 20000 in
theorem ggL_law_L_barge : GoodIn wsL_law wsL_barge := goodIn_ca (goodIn_ca (goodIn_r _ [270, 77, 79, 271, 272, 273, 2, 274, 86, 87, 16, 88, 89, 90, 91, 92, 275, 276, 277, 29, 278, 279, 280, 281, 282, 283, 51, 52, 618, 619, 634, 635, 636, 637, 638, 639, 640, 651, 652, 653, 654, 655, 656] (by decide +kernel) (by decide +kernel)) (goodIn_sub (fun _ h => List.mem_append_left _ (List.mem_append_right _ h)) (by decide +kernel))) (goodIn_sub (fun _ h => List.mem_append_right _ h) (by decide +kernel))
set_option maxRecDepth 20000 in
theorem gL_law_L_barge : GoodIn wsL_law (va_wsS RL 100 yL_barge wsL_barge) := goodIn_app (goodIn_of _ (by decide +kernel)) ggL_law_L_barge
set_option maxRecDepth 20000 in
theorem ggL_law_X5_barge : GoodIn wsL_law wsX5_barge := goodIn_r _ [287, 106, 288, 67, 108, 109, 5, 110, 111, 112, 113, 114, 620, 621, 622, 623, 624, 625, 626, 627, 628, 629, 630, 631, 632, 633] (by decide +kernel) (by decide +kernel)
set_option maxRecDepth 20000 in
theorem gL_law_X5_barge : GoodIn wsL_law (wsV RL 102 RX5 yX5_barge wsX5_barge) := goodIn_app (goodIn_of _ (by decide +kernel)) ggL_law_X5_barge
set_option maxRecDepth 20000 in
theorem ggL_law_L_sail : GoodIn wsL_law wsL_sail := goodIn_ca (goodIn_r _ [291, 77, 292, 293, 294, 2, 295, 16, 296, 297, 298, 299, 91, 92, 88, 89, 90, 300, 301, 302, 29, 303, 51, 304, 244, 170, 245, 52, 618, 619, 634, 635, 636, 637, 638, 639, 640, 651, 652, 653, 654, 655, 656] (by decide +kernel) (by decide +kernel)) (goodIn_sub (fun _ h => List.mem_append_right _ h) (by decide +kernel))
set_option maxRecDepth 20000 in
theorem gL_law_L_sail : GoodIn wsL_law (va_wsS RL 103 yL_sail wsL_sail) := goodIn_app (goodIn_of _ (by decide +kernel)) ggL_law_L_sail
set_option maxRecDepth 20000 in
theorem ggL_law_X5_sail : GoodIn wsL_law wsX5_sail := goodIn_r _ [308, 106, 67, 309, 310, 311, 5, 312, 288, 108, 109, 110, 111, 112, 113, 114, 313, 314, 315, 267, 244, 170, 245, 620, 621, 622, 623, 624, 625, 626, 627, 628, 629, 630, 631, 632, 633] (by decide +kernel) (by decide +kernel)
set_option maxRecDepth 20000 in
theorem gL_law_X5_sail : GoodIn wsL_law (wsV RL 105 RX5 yX5_sail wsX5_sail) := goodIn_app (goodIn_of _ (by decide +kernel)) ggL_law_X5_sail
set_option maxRecDepth 20000 in
theorem ggL_law_L_load : GoodIn wsL_law wsL_load := goodIn_ca (goodIn_ca (goodIn_r _ [318, 77, 79, 319, 320, 321, 2, 322, 86, 87, 16, 296, 297, 298, 299, 91, 92, 126, 127, 128, 129, 323, 324, 325, 15, 326, 30, 26, 327, 169, 170, 171, 328, 329, 330, 29, 331, 53, 54, 618, 619, 634, 635, 636, 637, 638, 639, 640, 651, 652, 653, 654, 655, 656, 641, 642, 643, 644, 645, 646, 647, 648, 649, 650] (by decide +kernel) (by decide +kernel)) (goodIn_sub (fun _ h => List.mem_append_left _ (List.mem_append_right _ h)) (by decide +kernel))) (goodIn_sub (fun _ h => List.mem_append_right _ h) (by decide +kernel))
set_option maxRecDepth 20000 in
theorem gL_law_L_load : GoodIn wsL_law (va_wsS RL 106 yL_load wsL_load) := goodIn_app (goodIn_of _ (by decide +kernel)) ggL_law_L_load
set_option maxRecDepth 20000 in
theorem ggL_law_X5_load : GoodIn wsL_law wsX5_load := goodIn_r _ [335, 106, 67, 66, 309, 310, 311, 5, 312, 288, 108, 109, 110, 146, 147, 148, 149, 107, 111, 112, 113, 114, 336, 337, 338, 339, 180, 169, 170, 171, 340, 341, 342, 343, 620, 621, 622, 623, 624, 625, 626, 627, 628, 629, 630, 631, 632, 633] (by decide +kernel) (by decide +kernel)
set_option maxRecDepth 20000 in
theorem gL_law_X5_load : GoodIn wsL_law (wsV RL 108 RX5 yX5_load wsX5_load) := goodIn_app (goodIn_of _ (by decide +kernel)) ggL_law_X5_load
set_option maxRecDepth 20000 in
theorem ggL_law_L_sell : GoodIn wsL_law wsL_sell := goodIn_ca (goodIn_ca (goodIn_r _ [346, 77, 79, 347, 348, 349, 2, 350, 86, 87, 16, 296, 297, 298, 299, 91, 92, 351, 352, 353, 354, 355, 356, 357, 15, 358, 30, 34, 21, 328, 329, 330, 29, 331, 53, 54, 359, 360, 361, 33, 362, 59, 363, 234, 170, 235, 364, 365, 366, 367, 368, 618, 619, 634, 635, 636, 637, 638, 639, 640, 651, 652, 653, 654, 655, 656, 657] (by decide +kernel) (by decide +kernel)) (goodIn_sub (fun _ h => List.mem_append_left _ (List.mem_append_right _ h)) (by decide +kernel))) (goodIn_sub (fun _ h => List.mem_append_right _ h) (by decide +kernel))
set_option maxRecDepth 20000 in
theorem gL_law_L_sell : GoodIn wsL_law (va_wsS RL 109 yL_sell wsL_sell) := goodIn_app (goodIn_of _ (by decide +kernel)) ggL_law_L_sell
set_option maxRecDepth 20000 in
theorem ggL_law_X5_sell : GoodIn wsL_law wsX5_sell := goodIn_r _ [372, 106, 67, 68, 64, 309, 310, 311, 5, 312, 288, 108, 109, 110, 111, 112, 113, 114, 373, 374, 375, 376, 377, 378, 379, 380, 381, 382, 383, 384, 262, 234, 170, 235, 385, 386, 387, 340, 341, 342, 343, 620, 621, 622, 623, 624, 625, 626, 627, 628, 629, 630, 631, 632, 633] (by decide +kernel) (by decide +kernel)
set_option maxRecDepth 20000 in
theorem gL_law_X5_sell : GoodIn wsL_law (wsV RL 111 RX5 yX5_sell wsX5_sell) := goodIn_app (goodIn_of _ (by decide +kernel)) ggL_law_X5_sell
set_option maxRecDepth 20000 in
theorem ggL_law_L_told : GoodIn wsL_law wsL_told := goodIn_ca (goodIn_r _ [390, 77, 391, 392, 393, 2, 394, 16, 296, 297, 298, 299, 91, 92, 202, 203, 204, 395, 396, 397, 29, 398, 51, 52, 53, 54, 55, 352, 353, 354, 618, 619, 634, 635, 636, 637, 638, 639, 640, 651, 652, 653, 654, 655, 656] (by decide +kernel) (by decide +kernel)) (goodIn_sub (fun _ h => List.mem_append_right _ h) (by decide +kernel))
set_option maxRecDepth 20000 in
theorem gL_law_L_told : GoodIn wsL_law (va_wsS RL 112 yL_told wsL_told) := goodIn_app (goodIn_of _ (by decide +kernel)) ggL_law_L_told
set_option maxRecDepth 20000 in
theorem ggL_law_X5_told : GoodIn wsL_law wsX5_told := goodIn_r _ [402, 106, 309, 310, 311, 5, 312, 288, 108, 109, 110, 403, 404, 405, 406, 67, 373, 374, 375, 376, 111, 112, 113, 114, 620, 621, 622, 623, 624, 625, 626, 627, 628, 629, 630, 631, 632, 633] (by decide +kernel) (by decide +kernel)
set_option maxRecDepth 20000 in
theorem gL_law_X5_told : GoodIn wsL_law (wsV RL 114 RX5 yX5_told wsX5_told) := goodIn_app (goodIn_of _ (by decide +kernel)) ggL_law_X5_told
set_option maxRecDepth 20000 in
theorem ggL_law_L_landing : GoodIn wsL_law wsL_landing := goodIn_ca (goodIn_r _ [409, 77, 410, 411, 412, 2, 413, 16, 414, 415, 416, 91, 92, 202, 203, 204, 417, 418, 419, 33, 420, 59, 368, 360, 361, 362, 363, 234, 170, 235, 421, 365, 366, 367, 618, 619, 634, 635, 636, 637, 638, 639, 640, 657] (by decide +kernel) (by decide +kernel)) (goodIn_sub (fun _ h => List.mem_append_right _ h) (by decide +kernel))
set_option maxRecDepth 20000 in
theorem gL_law_L_landing : GoodIn wsL_law (va_wsS RL 115 yL_landing wsL_landing) := goodIn_app (goodIn_of _ (by decide +kernel)) ggL_law_L_landing
set_option maxRecDepth 20000 in
theorem ggL_law_X5_landing : GoodIn wsL_law wsX5_landing := goodIn_r _ [425, 106, 108, 109, 5, 110, 426, 427, 428, 429, 376, 68, 381, 382, 383, 384, 262, 234, 170, 235, 385, 386, 387, 111, 112, 113, 114, 620, 621, 622, 623, 624, 625, 626, 627, 628, 629, 630, 631, 632, 633] (by decide +kernel) (by decide +kernel)
set_option maxRecDepth 20000 in
theorem gL_law_X5_landing : GoodIn wsL_law (wsV RL 117 RX5 yX5_landing wsX5_landing) := goodIn_app (goodIn_of _ (by decide +kernel)) ggL_law_X5_landing
set_option maxRecDepth 20000 in
theorem ggL_law_L_would : GoodIn wsL_law wsL_would := goodIn_ca (goodIn_r _ [432, 77, 433, 434, 435, 2, 436, 17, 16, 354, 296, 297, 298, 299, 91, 92, 414, 415, 416, 437, 438, 439, 15, 440, 441, 21, 22, 442, 26, 30, 34, 443, 225, 226, 25, 227, 97, 39, 40, 41, 42, 43, 44, 45, 46, 444, 445, 446, 29, 447, 279, 51, 52, 53, 54, 55, 448, 449, 450, 33, 451, 59, 300, 301, 302, 303, 304, 244, 170, 245, 452, 453, 454, 455, 456, 457, 458, 459, 460, 461, 462, 463, 464, 169, 171, 465, 234, 235, 466, 467, 468, 469, 189, 190, 470, 471, 472, 473, 474, 475, 476, 230, 231, 232, 47, 168, 233, 236, 237, 238, 239, 240, 241, 242, 243, 355, 356, 357, 358, 328, 329, 330, 331, 359, 360, 361, 362, 363, 364, 365, 366, 367, 368, 618, 619, 634, 635, 636, 637, 638, 639, 640, 651, 652, 653, 654, 655, 656, 641, 642, 643, 644, 645, 646, 647, 648, 649, 650, 657] (by decide +kernel) (by decide +kernel)) (goodIn_sub (fun _ h => List.mem_append_right _ h) (by decide +kernel))
set_option maxRecDepth 20000 in
theorem gL_law_L_would : GoodIn wsL_law (va_wsS RL 118 yL_would wsL_would) := goodIn_app (goodIn_of _ (by decide +kernel)) ggL_law_L_would
set_option maxRecDepth 20000 in
theorem ggL_law_X5_would : GoodIn wsL_law wsX5_would := goodIn_r _ [480, 106, 309, 310, 311, 5, 312, 288, 108, 109, 110, 481, 482, 483, 484, 68, 67, 376, 313, 314, 315, 267, 244, 170, 245, 485, 486, 487, 377, 378, 379, 380, 381, 382, 383, 384, 262, 234, 235, 385, 386, 387, 111, 112, 113, 114, 620, 621, 622, 623, 624, 625, 626, 627, 628, 629, 630, 631, 632, 633] (by decide +kernel) (by decide +kernel)
set_option maxRecDepth 20000 in
theorem gL_law_X5_would : GoodIn wsL_law (wsV RL 120 RX5 yX5_would wsX5_would) := goodIn_app (goodIn_of _ (by decide +kernel)) ggL_law_X5_would
set_option maxRecDepth 20000 in
theorem ggL_law_L_advise : GoodIn wsL_law wsL_advise := goodIn_ca (goodIn_r _ [490, 77, 491, 492, 493, 2, 494, 296, 297, 298, 299, 91, 92, 16, 495, 434, 435, 436, 17, 354, 414, 415, 416, 437, 438, 439, 15, 440, 441, 21, 22, 442, 26, 30, 34, 443, 225, 226, 25, 227, 97, 39, 40, 41, 42, 43, 44, 45, 46, 444, 445, 446, 29, 447, 279, 51, 52, 53, 54, 55, 448, 449, 450, 33, 451, 59, 300, 301, 302, 303, 304, 244, 170, 245, 452, 453, 454, 455, 456, 457, 458, 459, 460, 461, 462, 463, 464, 169, 171, 465, 234, 235, 466, 467, 468, 469, 189, 190, 470, 471, 472, 473, 474, 475, 476, 230, 231, 232, 47, 168, 233, 236, 237, 238, 239, 240, 241, 242, 243, 355, 356, 357, 358, 328, 329, 330, 331, 359, 360, 361, 362, 363, 364, 365, 366, 367, 368, 618, 619, 634, 635, 636, 637, 638, 639, 640, 651, 652, 653, 654, 655, 656, 641, 642, 643, 644, 645, 646, 647, 648, 649, 650, 657] (by decide +kernel) (by decide +kernel)) (goodIn_sub (fun _ h => List.mem_append_right _ h) (by decide +kernel))
set_option maxRecDepth 20000 in
theorem gL_law_L_advise : GoodIn wsL_law (va_wsS RL 121 yL_advise wsL_advise) := goodIn_app (goodIn_of _ (by decide +kernel)) ggL_law_L_advise
set_option maxRecDepth 20000 in
theorem ggL_law_X5_advise : GoodIn wsL_law wsX5_advise := goodIn_r _ [499, 106, 309, 310, 311, 5, 312, 288, 108, 109, 110, 111, 112, 113, 114, 481, 482, 483, 484, 68, 67, 376, 313, 314, 315, 267, 244, 170, 245, 485, 486, 487, 377, 378, 379, 380, 381, 382, 383, 384, 262, 234, 235, 385, 386, 387, 620, 621, 622, 623, 624, 625, 626, 627, 628, 629, 630, 631, 632, 633] (by decide +kernel) (by decide +kernel)
set_option maxRecDepth 20000 in
theorem gL_law_X5_advise : GoodIn wsL_law (wsV RL 123 RX5 yX5_advise wsX5_advise) := goodIn_app (goodIn_of _ (by decide +kernel)) ggL_law_X5_advise
set_option maxRecDepth 20000 in
theorem ggL_law_L_count : GoodIn wsL_law wsL_count := goodIn_ca (goodIn_r _ [502, 77, 503, 504, 505, 2, 506, 16, 202, 203, 204, 91, 92, 507, 508, 509, 15, 510, 441, 21, 22, 26, 30, 34, 442, 511, 512, 513, 25, 514, 97, 134, 135, 136, 137, 41, 40, 515, 516, 517, 518, 43, 44, 519, 520, 521, 522, 45, 46, 523, 524, 525, 29, 526, 279, 527, 329, 330, 331, 53, 54, 528, 529, 530, 33, 531, 59, 618, 619, 634, 635, 636, 637, 638, 639, 640, 641, 642, 643, 644, 645, 646, 647, 648, 649, 650, 651, 652, 653, 654, 655, 656, 657] (by decide +kernel) (by decide +kernel)) (goodIn_sub (fun _ h => List.mem_append_right _ h) (by decide +kernel))
set_option maxRecDepth 20000 in
theorem gL_law_L_count : GoodIn wsL_law (va_wsS RL 124 yL_count wsL_count) := goodIn_app (goodIn_of _ (by decide +kernel)) ggL_law_L_count
set_option maxRecDepth 20000 in
theorem ggL_law_X5_count : GoodIn wsL_law wsX5_count := goodIn_r _ [535, 106, 108, 109, 5, 110, 536, 537, 538, 539, 540, 64, 65, 107, 66, 288, 68, 541, 542, 543, 544, 545, 546, 547, 548, 549, 340, 341, 342, 343, 67, 550, 551, 552, 553, 554, 555, 556, 557, 150, 151, 152, 153, 111, 112, 113, 114, 620, 621, 622, 623, 624, 625, 626, 627, 628, 629, 630, 631, 632, 633] (by decide +kernel) (by decide +kernel)
set_option maxRecDepth 20000 in
theorem gL_law_X5_count : GoodIn wsL_law (wsV RL 126 RX5 yX5_count wsX5_count) := goodIn_app (goodIn_of _ (by decide +kernel)) ggL_law_X5_count
set_option maxRecDepth 20000 in
theorem ggL_law_L_pass : GoodIn wsL_law wsL_pass := goodIn_ca (goodIn_r _ [560, 78, 561, 562, 563, 2, 564, 16, 565, 566, 567, 84, 85, 452, 453, 454, 15, 455, 442, 456, 457, 458, 459, 30, 26, 34, 441, 460, 461, 462, 29, 463, 279, 52, 51, 464, 169, 170, 171, 465, 234, 235, 466, 467, 468, 25, 469, 97, 43, 44, 189, 190, 470, 471, 472, 33, 473, 59, 474, 475, 476, 230, 231, 232, 47, 41, 42, 168, 233, 236, 237, 238, 239, 240, 241, 242, 39, 243, 244, 245, 618, 619, 634, 635, 636, 637, 638, 639, 640, 651, 652, 653, 654, 655, 656, 641, 642, 643, 644, 645, 646, 647, 648, 649, 650, 657] (by decide +kernel) (by decide +kernel)) (goodIn_sub (fun _ h => List.mem_append_left _ (List.mem_append_left _ (List.mem_append_right _ h))) (by decide +kernel))
set_option maxRecDepth 20000 in
theorem gL_law_L_pass : GoodIn wsL_law (va_wsS RL 127 yL_pass wsL_pass) := goodIn_app (goodIn_of _ (by decide +kernel)) ggL_law_L_pass
set_option maxRecDepth 20000 in
theorem ggL_law_X5_pass_ : GoodIn wsL_law wsX5_pass_ := goodIn_r _ [571, 106, 66, 67, 68, 540, 541, 108, 109, 5, 110, 111, 112, 113, 114, 572, 573, 574, 575, 288, 107, 576, 577, 578, 579, 180, 169, 170, 171, 262, 234, 235, 580, 581, 582, 485, 486, 487, 258, 259, 260, 261, 72, 263, 264, 265, 266, 267, 244, 245, 620, 621, 622, 623, 624, 625, 626, 627, 628, 629, 630, 631, 632, 633] (by decide +kernel) (by decide +kernel)
set_option maxRecDepth 20000 in
theorem gL_law_X5_pass_ : GoodIn wsL_law (wsV RL 129 RX5 yX5_pass_ wsX5_pass_) := goodIn_app (goodIn_of _ (by decide +kernel)) ggL_law_X5_pass_
set_option maxRecDepth 20000 in
theorem ggL_law_L_foresee : GoodIn wsL_law wsL_foresee := goodIn_ca (goodIn_ca (goodIn_r _ [585, 78, 77, 586, 587, 588, 2, 589, 91, 92, 17, 16, 565, 566, 567, 84, 85, 437, 438, 439, 15, 440, 441, 21, 22, 442, 26, 30, 34, 443, 225, 226, 25, 227, 97, 39, 40, 41, 42, 43, 44, 45, 46, 444, 445, 446, 29, 447, 279, 51, 52, 53, 54, 55, 448, 449, 450, 33, 451, 59, 452, 453, 454, 455, 456, 457, 458, 459, 460, 461, 462, 463, 464, 169, 170, 171, 465, 234, 235, 466, 467, 468, 469, 189, 190, 470, 471, 472, 473, 474, 475, 476, 230, 231, 232, 47, 168, 233, 236, 237, 238, 239, 240, 241, 242, 243, 244, 245, 507, 508, 509, 510, 511, 512, 513, 514, 134, 135, 136, 137, 515, 516, 517, 518, 519, 520, 521, 522, 523, 524, 525, 526, 527, 329, 330, 331, 528, 529, 530, 531, 618, 619, 634, 635, 636, 637, 638, 639, 640, 641, 642, 643, 644, 645, 646, 647, 648, 649, 650, 651, 652, 653, 654, 655, 656, 657] (by decide +kernel) (by decide +kernel)) (goodIn_sub (fun _ h => List.mem_append_right _ h) (by decide +kernel))) (goodIn_sub (fun _ h => List.mem_append_left _ (List.mem_append_left _ (List.mem_append_right _ h))) (by decide +kernel))
set_option maxRecDepth 20000 in
theorem gL_law_L_foresee : GoodIn wsL_law (va_wsS RL 130 yL_foresee wsL_foresee) := goodIn_app (goodIn_of _ (by decide +kernel)) ggL_law_L_foresee
set_option maxRecDepth 20000 in
theorem ggL_law_X5_foresee : GoodIn wsL_law wsX5_foresee := goodIn_r _ [593, 106, 541, 69, 70, 71, 540, 108, 109, 5, 110, 111, 112, 113, 114, 250, 251, 252, 253, 66, 254, 255, 256, 257, 67, 68, 572, 573, 574, 575, 288, 107, 576, 577, 578, 579, 180, 169, 170, 171, 262, 234, 235, 580, 581, 582, 485, 486, 487, 258, 259, 260, 261, 72, 263, 264, 265, 266, 267, 244, 245, 550, 551, 552, 553, 554, 555, 556, 557, 150, 151, 152, 153, 542, 543, 544, 545, 620, 621, 622, 623, 624, 625, 626, 627, 628, 629, 630, 631, 632, 633] (by decide +kernel) (by decide +kernel)
set_option maxRecDepth 20000 in
theorem gL_law_X5_foresee : GoodIn wsL_law (wsV RL 132 RX5 yX5_foresee wsX5_foresee) := goodIn_app (goodIn_of _ (by decide +kernel)) ggL_law_X5_foresee
set_option maxRecDepth 20000 in
theorem ggL_law_X4_mean : GoodIn wsL_law wsX4_mean := goodIn_r _ [597, 16, 598, 599, 600, 25, 601, 97, 42, 618, 619, 634, 635, 636, 637, 638, 639, 640, 641, 642, 643, 644, 645, 646, 647, 648, 649, 650] (by decide +kernel) (by decide +kernel)
set_option maxRecDepth 20000 in
theorem gL_law_X4_mean : GoodIn wsL_law (wsV RL 133 RX4 yX4_mean wsX4_mean) := goodIn_app (goodIn_of _ (by decide +kernel)) ggL_law_X4_mean
set_option maxRecDepth 20000 in
theorem ggL_law_X5_mean : GoodIn wsL_law wsX5_mean := goodIn_r _ [605, 106, 107, 66, 542, 543, 544, 5, 545, 620, 621, 622, 623, 624, 625, 626, 627, 628, 629, 630, 631, 632, 633] (by decide +kernel) (by decide +kernel)
set_option maxRecDepth 20000 in
theorem gL_law_X5_mean : GoodIn wsL_law (wsV RL 137 RX5 yX5_mean wsX5_mean) := goodIn_app (goodIn_of _ (by decide +kernel)) ggL_law_X5_mean
set_option maxRecDepth 20000 in
theorem ggL_law_X4_digest : GoodIn wsL_law wsX4_digest := goodIn_r _ [609, 610, 611, 16, 507, 508, 509, 15, 510, 441, 21, 22, 26, 30, 34, 442, 511, 512, 513, 25, 514, 97, 134, 135, 136, 137, 41, 40, 515, 516, 517, 518, 43, 44, 519, 520, 521, 522, 45, 46, 523, 524, 525, 29, 526, 279, 527, 329, 330, 331, 53, 54, 528, 529, 530, 33, 531, 59, 205, 206, 207, 208, 39, 42, 138, 139, 140, 141, 395, 396, 397, 398, 51, 52, 55, 352, 2, 353, 354, 417, 418, 419, 420, 368, 360, 361, 362, 363, 234, 170, 235, 421, 365, 366, 367, 618, 619, 634, 635, 636, 637, 638, 639, 640, 641, 642, 643, 644, 645, 646, 647, 648, 649, 650, 651, 652, 653, 654, 655, 656, 657] (by decide +kernel) (by decide +kernel)
set_option maxRecDepth 20000 in
theorem gL_law_X4_digest : GoodIn wsL_law (wsV RL 138 RX4 yX4_digest wsX4_digest) := goodIn_app (goodIn_of _ (by decide +kernel)) ggL_law_X4_digest
set_option maxRecDepth 20000 in
theorem ggL_law_X5_digest : GoodIn wsL_law wsX5_digest := goodIn_r _ [615, 106, 616, 617, 107, 288, 536, 537, 538, 5, 539, 540, 64, 65, 66, 68, 541, 542, 543, 544, 545, 546, 547, 548, 549, 340, 341, 342, 343, 67, 550, 551, 552, 553, 554, 555, 556, 557, 150, 151, 152, 153, 213, 214, 215, 216, 154, 155, 156, 403, 404, 405, 406, 373, 374, 375, 376, 426, 427, 428, 429, 381, 382, 383, 384, 262, 234, 170, 235, 385, 386, 387, 620, 621, 622, 623, 624, 625, 626, 627, 628, 629, 630, 631, 632, 633] (by decide +kernel) (by decide +kernel)
set_option maxRecDepth 20000 in
theorem gL_law_X5_digest : GoodIn wsL_law (wsV RL 142 RX5 yX5_digest wsX5_digest) := goodIn_app (goodIn_of _ (by decide +kernel)) ggL_law_X5_digest
theorem dL_law_0 : decode cL_law 0 = .ok (.new 8, 3) := by decide +kernel
theorem dL_law_3 : decode cL_law 3 = .ok (.dup, 1) := by decide +kernel
theorem dL_law_4 : decode cL_law 4 = .ok (.invokespecial 69, 3) := by decide +kernel
theorem dL_law_7 : decode cL_law 7 = .ok (.astore_n 1, 1) := by decide +kernel
theorem dL_law_8 : decode cL_law 8 = .ok (.new 70, 3) := by decide +kernel
theorem dL_law_11 : decode cL_law 11 = .ok (.dup, 1) := by decide +kernel
theorem dL_law_12 : decode cL_law 12 = .ok (.invokespecial 72, 3) := by decide +kernel
theorem dL_law_15 : decode cL_law 15 = .ok (.astore_n 2, 1) := by decide +kernel
theorem dL_law_16 : decode cL_law 16 = .ok (.iconst 1, 1) := by decide +kernel
theorem dL_law_17 : decode cL_law 17 = .ok (.newarray .long, 2) := by decide +kernel
theorem dL_law_19 : decode cL_law 19 = .ok (.astore_n 3, 1) := by decide +kernel
theorem dL_law_20 : decode cL_law 20 = .ok (.iconst 0, 1) := by decide +kernel
theorem dL_law_21 : decode cL_law 21 = .ok (.istore 4, 2) := by decide +kernel
theorem dL_law_23 : decode cL_law 23 = .ok (.iload 4, 2) := by decide +kernel
theorem dL_law_25 : decode cL_law 25 = .ok (.aload_n 0, 1) := by decide +kernel
theorem dL_law_26 : decode cL_law 26 = .ok (.arraylength, 1) := by decide +kernel
theorem dL_law_27 : decode cL_law 27 = .ok (.iconst 4, 1) := by decide +kernel
theorem dL_law_28 : decode cL_law 28 = .ok (.isub, 1) := by decide +kernel
theorem dL_law_29 : decode cL_law 29 = .ok (.if_icmp .gt 1220, 3) := by decide +kernel
theorem dL_law_32 : decode cL_law 32 = .ok (.aload_n 0, 1) := by decide +kernel
theorem dL_law_33 : decode cL_law 33 = .ok (.iload 4, 2) := by decide +kernel
theorem dL_law_35 : decode cL_law 35 = .ok (.iaload, 1) := by decide +kernel
theorem dL_law_36 : decode cL_law 36 = .ok (.bipush 31, 2) := by decide +kernel
theorem dL_law_38 : decode cL_law 38 = .ok (.iand, 1) := by decide +kernel
theorem dL_law_39 : decode cL_law 39 = .ok (.tableswitch 1204 0 18 #[89, 169, 225, 281, 337, 405, 461, 517, 585, 653, 709, 777, 845, 913, 969, 1025, 1081, 1149, 1190], 89) := by decide +kernel
theorem dL_law_128 : decode cL_law 128 = .ok (.aload_n 1, 1) := by decide +kernel
theorem dL_law_129 : decode cL_law 129 = .ok (.aload_n 0, 1) := by decide +kernel
theorem dL_law_130 : decode cL_law 130 = .ok (.iload 4, 2) := by decide +kernel
theorem dL_law_132 : decode cL_law 132 = .ok (.iconst 1, 1) := by decide +kernel
theorem dL_law_133 : decode cL_law 133 = .ok (.iadd, 1) := by decide +kernel
theorem dL_law_134 : decode cL_law 134 = .ok (.iaload, 1) := by decide +kernel
theorem dL_law_135 : decode cL_law 135 = .ok (.aload_n 0, 1) := by decide +kernel
theorem dL_law_136 : decode cL_law 136 = .ok (.iload 4, 2) := by decide +kernel
theorem dL_law_138 : decode cL_law 138 = .ok (.iconst 2, 1) := by decide +kernel
theorem dL_law_139 : decode cL_law 139 = .ok (.iadd, 1) := by decide +kernel
theorem dL_law_140 : decode cL_law 140 = .ok (.iaload, 1) := by decide +kernel
theorem dL_law_141 : decode cL_law 141 = .ok (.aload_n 0, 1) := by decide +kernel
theorem dL_law_142 : decode cL_law 142 = .ok (.iload 4, 2) := by decide +kernel
theorem dL_law_144 : decode cL_law 144 = .ok (.iconst 3, 1) := by decide +kernel
theorem dL_law_145 : decode cL_law 145 = .ok (.iadd, 1) := by decide +kernel
theorem dL_law_146 : decode cL_law 146 = .ok (.iaload, 1) := by decide +kernel
theorem dL_law_147 : decode cL_law 147 = .ok (.aload_n 3, 1) := by decide +kernel
theorem dL_law_148 : decode cL_law 148 = .ok (.invokestatic 73, 3) := by decide +kernel
theorem dL_law_151 : decode cL_law 151 = .ok (.istore 5, 2) := by decide +kernel
theorem dL_law_153 : decode cL_law 153 = .ok (.aload_n 2, 1) := by decide +kernel
theorem dL_law_154 : decode cL_law 154 = .ok (.aload_n 0, 1) := by decide +kernel
theorem dL_law_155 : decode cL_law 155 = .ok (.iload 4, 2) := by decide +kernel
theorem dL_law_157 : decode cL_law 157 = .ok (.iconst 1, 1) := by decide +kernel
theorem dL_law_158 : decode cL_law 158 = .ok (.iadd, 1) := by decide +kernel
theorem dL_law_159 : decode cL_law 159 = .ok (.iaload, 1) := by decide +kernel
theorem dL_law_160 : decode cL_law 160 = .ok (.aload_n 0, 1) := by decide +kernel
theorem dL_law_161 : decode cL_law 161 = .ok (.iload 4, 2) := by decide +kernel
theorem dL_law_163 : decode cL_law 163 = .ok (.iconst 2, 1) := by decide +kernel
theorem dL_law_164 : decode cL_law 164 = .ok (.iadd, 1) := by decide +kernel
theorem dL_law_165 : decode cL_law 165 = .ok (.iaload, 1) := by decide +kernel
theorem dL_law_166 : decode cL_law 166 = .ok (.aload_n 0, 1) := by decide +kernel
theorem dL_law_167 : decode cL_law 167 = .ok (.iload 4, 2) := by decide +kernel
theorem dL_law_169 : decode cL_law 169 = .ok (.iconst 3, 1) := by decide +kernel
theorem dL_law_170 : decode cL_law 170 = .ok (.iadd, 1) := by decide +kernel
theorem dL_law_171 : decode cL_law 171 = .ok (.iaload, 1) := by decide +kernel
theorem dL_law_172 : decode cL_law 172 = .ok (.invokevirtual 78, 3) := by decide +kernel
theorem dL_law_175 : decode cL_law 175 = .ok (.istore 6, 2) := by decide +kernel
theorem dL_law_177 : decode cL_law 177 = .ok (.aload_n 2, 1) := by decide +kernel
theorem dL_law_178 : decode cL_law 178 = .ok (.invokevirtual 79, 3) := by decide +kernel
theorem dL_law_181 : decode cL_law 181 = .ok (.iload 5, 2) := by decide +kernel
theorem dL_law_183 : decode cL_law 183 = .ok (.if_icmp .eq 5, 3) := by decide +kernel
theorem dL_law_186 : decode cL_law 186 = .ok (.iconst 0, 1) := by decide +kernel
theorem dL_law_187 : decode cL_law 187 = .ok (.ireturn, 1) := by decide +kernel
theorem dL_law_188 : decode cL_law 188 = .ok (.iload 5, 2) := by decide +kernel
theorem dL_law_190 : decode cL_law 190 = .ok (.ifCond .ne 15, 3) := by decide +kernel
theorem dL_law_193 : decode cL_law 193 = .ok (.aload_n 3, 1) := by decide +kernel
theorem dL_law_194 : decode cL_law 194 = .ok (.iconst 0, 1) := by decide +kernel
theorem dL_law_195 : decode cL_law 195 = .ok (.laload, 1) := by decide +kernel
theorem dL_law_196 : decode cL_law 196 = .ok (.iload 6, 2) := by decide +kernel
theorem dL_law_198 : decode cL_law 198 = .ok (.i2l, 1) := by decide +kernel
theorem dL_law_199 : decode cL_law 199 = .ok (.lcmp, 1) := by decide +kernel
theorem dL_law_200 : decode cL_law 200 = .ok (.ifCond .eq 5, 3) := by decide +kernel
theorem dL_law_203 : decode cL_law 203 = .ok (.iconst 0, 1) := by decide +kernel
theorem dL_law_204 : decode cL_law 204 = .ok (.ireturn, 1) := by decide +kernel
theorem dL_law_205 : decode cL_law 205 = .ok (.goto 1038, 3) := by decide +kernel
theorem dL_law_208 : decode cL_law 208 = .ok (.aload_n 1, 1) := by decide +kernel
theorem dL_law_209 : decode cL_law 209 = .ok (.aload_n 0, 1) := by decide +kernel
theorem dL_law_210 : decode cL_law 210 = .ok (.iload 4, 2) := by decide +kernel
theorem dL_law_212 : decode cL_law 212 = .ok (.iconst 1, 1) := by decide +kernel
theorem dL_law_213 : decode cL_law 213 = .ok (.iadd, 1) := by decide +kernel
theorem dL_law_214 : decode cL_law 214 = .ok (.iaload, 1) := by decide +kernel
theorem dL_law_215 : decode cL_law 215 = .ok (.aload_n 3, 1) := by decide +kernel
theorem dL_law_216 : decode cL_law 216 = .ok (.invokestatic 83, 3) := by decide +kernel
theorem dL_law_219 : decode cL_law 219 = .ok (.istore 5, 2) := by decide +kernel
theorem dL_law_221 : decode cL_law 221 = .ok (.aload_n 2, 1) := by decide +kernel
theorem dL_law_222 : decode cL_law 222 = .ok (.aload_n 0, 1) := by decide +kernel
theorem dL_law_223 : decode cL_law 223 = .ok (.iload 4, 2) := by decide +kernel
theorem dL_law_225 : decode cL_law 225 = .ok (.iconst 1, 1) := by decide +kernel
theorem dL_law_226 : decode cL_law 226 = .ok (.iadd, 1) := by decide +kernel
theorem dL_law_227 : decode cL_law 227 = .ok (.iaload, 1) := by decide +kernel
theorem dL_law_228 : decode cL_law 228 = .ok (.invokevirtual 86, 3) := by decide +kernel
theorem dL_law_231 : decode cL_law 231 = .ok (.istore 6, 2) := by decide +kernel
theorem dL_law_233 : decode cL_law 233 = .ok (.aload_n 2, 1) := by decide +kernel
theorem dL_law_234 : decode cL_law 234 = .ok (.invokevirtual 79, 3) := by decide +kernel
theorem dL_law_237 : decode cL_law 237 = .ok (.iload 5, 2) := by decide +kernel
theorem dL_law_239 : decode cL_law 239 = .ok (.if_icmp .eq 5, 3) := by decide +kernel
theorem dL_law_242 : decode cL_law 242 = .ok (.iconst 0, 1) := by decide +kernel
theorem dL_law_243 : decode cL_law 243 = .ok (.ireturn, 1) := by decide +kernel
theorem dL_law_244 : decode cL_law 244 = .ok (.iload 5, 2) := by decide +kernel
theorem dL_law_246 : decode cL_law 246 = .ok (.ifCond .ne 15, 3) := by decide +kernel
theorem dL_law_249 : decode cL_law 249 = .ok (.aload_n 3, 1) := by decide +kernel
theorem dL_law_250 : decode cL_law 250 = .ok (.iconst 0, 1) := by decide +kernel
theorem dL_law_251 : decode cL_law 251 = .ok (.laload, 1) := by decide +kernel
theorem dL_law_252 : decode cL_law 252 = .ok (.iload 6, 2) := by decide +kernel
theorem dL_law_254 : decode cL_law 254 = .ok (.i2l, 1) := by decide +kernel
theorem dL_law_255 : decode cL_law 255 = .ok (.lcmp, 1) := by decide +kernel
theorem dL_law_256 : decode cL_law 256 = .ok (.ifCond .eq 5, 3) := by decide +kernel
theorem dL_law_259 : decode cL_law 259 = .ok (.iconst 0, 1) := by decide +kernel
theorem dL_law_260 : decode cL_law 260 = .ok (.ireturn, 1) := by decide +kernel
theorem dL_law_261 : decode cL_law 261 = .ok (.goto 982, 3) := by decide +kernel
theorem dL_law_264 : decode cL_law 264 = .ok (.aload_n 1, 1) := by decide +kernel
theorem dL_law_265 : decode cL_law 265 = .ok (.aload_n 0, 1) := by decide +kernel
theorem dL_law_266 : decode cL_law 266 = .ok (.iload 4, 2) := by decide +kernel
theorem dL_law_268 : decode cL_law 268 = .ok (.iconst 1, 1) := by decide +kernel
theorem dL_law_269 : decode cL_law 269 = .ok (.iadd, 1) := by decide +kernel
theorem dL_law_270 : decode cL_law 270 = .ok (.iaload, 1) := by decide +kernel
theorem dL_law_271 : decode cL_law 271 = .ok (.aload_n 3, 1) := by decide +kernel
theorem dL_law_272 : decode cL_law 272 = .ok (.invokestatic 87, 3) := by decide +kernel
theorem dL_law_275 : decode cL_law 275 = .ok (.istore 5, 2) := by decide +kernel
theorem dL_law_277 : decode cL_law 277 = .ok (.aload_n 2, 1) := by decide +kernel
theorem dL_law_278 : decode cL_law 278 = .ok (.aload_n 0, 1) := by decide +kernel
theorem dL_law_279 : decode cL_law 279 = .ok (.iload 4, 2) := by decide +kernel
theorem dL_law_281 : decode cL_law 281 = .ok (.iconst 1, 1) := by decide +kernel
theorem dL_law_282 : decode cL_law 282 = .ok (.iadd, 1) := by decide +kernel
theorem dL_law_283 : decode cL_law 283 = .ok (.iaload, 1) := by decide +kernel
theorem dL_law_284 : decode cL_law 284 = .ok (.invokevirtual 89, 3) := by decide +kernel
theorem dL_law_287 : decode cL_law 287 = .ok (.istore 6, 2) := by decide +kernel
theorem dL_law_289 : decode cL_law 289 = .ok (.aload_n 2, 1) := by decide +kernel
theorem dL_law_290 : decode cL_law 290 = .ok (.invokevirtual 79, 3) := by decide +kernel
theorem dL_law_293 : decode cL_law 293 = .ok (.iload 5, 2) := by decide +kernel
theorem dL_law_295 : decode cL_law 295 = .ok (.if_icmp .eq 5, 3) := by decide +kernel
theorem dL_law_298 : decode cL_law 298 = .ok (.iconst 0, 1) := by decide +kernel
theorem dL_law_299 : decode cL_law 299 = .ok (.ireturn, 1) := by decide +kernel
theorem dL_law_300 : decode cL_law 300 = .ok (.iload 5, 2) := by decide +kernel
theorem dL_law_302 : decode cL_law 302 = .ok (.ifCond .ne 15, 3) := by decide +kernel
theorem dL_law_305 : decode cL_law 305 = .ok (.aload_n 3, 1) := by decide +kernel
theorem dL_law_306 : decode cL_law 306 = .ok (.iconst 0, 1) := by decide +kernel
theorem dL_law_307 : decode cL_law 307 = .ok (.laload, 1) := by decide +kernel
theorem dL_law_308 : decode cL_law 308 = .ok (.iload 6, 2) := by decide +kernel
theorem dL_law_310 : decode cL_law 310 = .ok (.i2l, 1) := by decide +kernel
theorem dL_law_311 : decode cL_law 311 = .ok (.lcmp, 1) := by decide +kernel
theorem dL_law_312 : decode cL_law 312 = .ok (.ifCond .eq 5, 3) := by decide +kernel
theorem dL_law_315 : decode cL_law 315 = .ok (.iconst 0, 1) := by decide +kernel
theorem dL_law_316 : decode cL_law 316 = .ok (.ireturn, 1) := by decide +kernel
theorem dL_law_317 : decode cL_law 317 = .ok (.goto 926, 3) := by decide +kernel
theorem dL_law_320 : decode cL_law 320 = .ok (.aload_n 1, 1) := by decide +kernel
theorem dL_law_321 : decode cL_law 321 = .ok (.aload_n 0, 1) := by decide +kernel
theorem dL_law_322 : decode cL_law 322 = .ok (.iload 4, 2) := by decide +kernel
theorem dL_law_324 : decode cL_law 324 = .ok (.iconst 1, 1) := by decide +kernel
theorem dL_law_325 : decode cL_law 325 = .ok (.iadd, 1) := by decide +kernel
theorem dL_law_326 : decode cL_law 326 = .ok (.iaload, 1) := by decide +kernel
theorem dL_law_327 : decode cL_law 327 = .ok (.aload_n 3, 1) := by decide +kernel
theorem dL_law_328 : decode cL_law 328 = .ok (.invokestatic 90, 3) := by decide +kernel
theorem dL_law_331 : decode cL_law 331 = .ok (.istore 5, 2) := by decide +kernel
theorem dL_law_333 : decode cL_law 333 = .ok (.aload_n 2, 1) := by decide +kernel
theorem dL_law_334 : decode cL_law 334 = .ok (.aload_n 0, 1) := by decide +kernel
theorem dL_law_335 : decode cL_law 335 = .ok (.iload 4, 2) := by decide +kernel
theorem dL_law_337 : decode cL_law 337 = .ok (.iconst 1, 1) := by decide +kernel
theorem dL_law_338 : decode cL_law 338 = .ok (.iadd, 1) := by decide +kernel
theorem dL_law_339 : decode cL_law 339 = .ok (.iaload, 1) := by decide +kernel
theorem dL_law_340 : decode cL_law 340 = .ok (.invokevirtual 92, 3) := by decide +kernel
theorem dL_law_343 : decode cL_law 343 = .ok (.istore 6, 2) := by decide +kernel
theorem dL_law_345 : decode cL_law 345 = .ok (.aload_n 2, 1) := by decide +kernel
theorem dL_law_346 : decode cL_law 346 = .ok (.invokevirtual 79, 3) := by decide +kernel
theorem dL_law_349 : decode cL_law 349 = .ok (.iload 5, 2) := by decide +kernel
theorem dL_law_351 : decode cL_law 351 = .ok (.if_icmp .eq 5, 3) := by decide +kernel
theorem dL_law_354 : decode cL_law 354 = .ok (.iconst 0, 1) := by decide +kernel
theorem dL_law_355 : decode cL_law 355 = .ok (.ireturn, 1) := by decide +kernel
theorem dL_law_356 : decode cL_law 356 = .ok (.iload 5, 2) := by decide +kernel
theorem dL_law_358 : decode cL_law 358 = .ok (.ifCond .ne 15, 3) := by decide +kernel
theorem dL_law_361 : decode cL_law 361 = .ok (.aload_n 3, 1) := by decide +kernel
theorem dL_law_362 : decode cL_law 362 = .ok (.iconst 0, 1) := by decide +kernel
theorem dL_law_363 : decode cL_law 363 = .ok (.laload, 1) := by decide +kernel
theorem dL_law_364 : decode cL_law 364 = .ok (.iload 6, 2) := by decide +kernel
theorem dL_law_366 : decode cL_law 366 = .ok (.i2l, 1) := by decide +kernel
theorem dL_law_367 : decode cL_law 367 = .ok (.lcmp, 1) := by decide +kernel
theorem dL_law_368 : decode cL_law 368 = .ok (.ifCond .eq 5, 3) := by decide +kernel
theorem dL_law_371 : decode cL_law 371 = .ok (.iconst 0, 1) := by decide +kernel
theorem dL_law_372 : decode cL_law 372 = .ok (.ireturn, 1) := by decide +kernel
theorem dL_law_373 : decode cL_law 373 = .ok (.goto 870, 3) := by decide +kernel
theorem dL_law_376 : decode cL_law 376 = .ok (.aload_n 1, 1) := by decide +kernel
theorem dL_law_377 : decode cL_law 377 = .ok (.aload_n 0, 1) := by decide +kernel
theorem dL_law_378 : decode cL_law 378 = .ok (.iload 4, 2) := by decide +kernel
theorem dL_law_380 : decode cL_law 380 = .ok (.iconst 1, 1) := by decide +kernel
theorem dL_law_381 : decode cL_law 381 = .ok (.iadd, 1) := by decide +kernel
theorem dL_law_382 : decode cL_law 382 = .ok (.iaload, 1) := by decide +kernel
theorem dL_law_383 : decode cL_law 383 = .ok (.aload_n 0, 1) := by decide +kernel
theorem dL_law_384 : decode cL_law 384 = .ok (.iload 4, 2) := by decide +kernel
theorem dL_law_386 : decode cL_law 386 = .ok (.iconst 2, 1) := by decide +kernel
theorem dL_law_387 : decode cL_law 387 = .ok (.iadd, 1) := by decide +kernel
theorem dL_law_388 : decode cL_law 388 = .ok (.iaload, 1) := by decide +kernel
theorem dL_law_389 : decode cL_law 389 = .ok (.aload_n 3, 1) := by decide +kernel
theorem dL_law_390 : decode cL_law 390 = .ok (.invokestatic 93, 3) := by decide +kernel
theorem dL_law_393 : decode cL_law 393 = .ok (.istore 5, 2) := by decide +kernel
theorem dL_law_395 : decode cL_law 395 = .ok (.aload_n 2, 1) := by decide +kernel
theorem dL_law_396 : decode cL_law 396 = .ok (.aload_n 0, 1) := by decide +kernel
theorem dL_law_397 : decode cL_law 397 = .ok (.iload 4, 2) := by decide +kernel
theorem dL_law_399 : decode cL_law 399 = .ok (.iconst 1, 1) := by decide +kernel
theorem dL_law_400 : decode cL_law 400 = .ok (.iadd, 1) := by decide +kernel
theorem dL_law_401 : decode cL_law 401 = .ok (.iaload, 1) := by decide +kernel
theorem dL_law_402 : decode cL_law 402 = .ok (.aload_n 0, 1) := by decide +kernel
theorem dL_law_403 : decode cL_law 403 = .ok (.iload 4, 2) := by decide +kernel
theorem dL_law_405 : decode cL_law 405 = .ok (.iconst 2, 1) := by decide +kernel
theorem dL_law_406 : decode cL_law 406 = .ok (.iadd, 1) := by decide +kernel
theorem dL_law_407 : decode cL_law 407 = .ok (.iaload, 1) := by decide +kernel
theorem dL_law_408 : decode cL_law 408 = .ok (.invokevirtual 96, 3) := by decide +kernel
theorem dL_law_411 : decode cL_law 411 = .ok (.istore 6, 2) := by decide +kernel
theorem dL_law_413 : decode cL_law 413 = .ok (.aload_n 2, 1) := by decide +kernel
theorem dL_law_414 : decode cL_law 414 = .ok (.invokevirtual 79, 3) := by decide +kernel
theorem dL_law_417 : decode cL_law 417 = .ok (.iload 5, 2) := by decide +kernel
theorem dL_law_419 : decode cL_law 419 = .ok (.if_icmp .eq 5, 3) := by decide +kernel
theorem dL_law_422 : decode cL_law 422 = .ok (.iconst 0, 1) := by decide +kernel
theorem dL_law_423 : decode cL_law 423 = .ok (.ireturn, 1) := by decide +kernel
theorem dL_law_424 : decode cL_law 424 = .ok (.iload 5, 2) := by decide +kernel
theorem dL_law_426 : decode cL_law 426 = .ok (.ifCond .ne 15, 3) := by decide +kernel
theorem dL_law_429 : decode cL_law 429 = .ok (.aload_n 3, 1) := by decide +kernel
theorem dL_law_430 : decode cL_law 430 = .ok (.iconst 0, 1) := by decide +kernel
theorem dL_law_431 : decode cL_law 431 = .ok (.laload, 1) := by decide +kernel
theorem dL_law_432 : decode cL_law 432 = .ok (.iload 6, 2) := by decide +kernel
theorem dL_law_434 : decode cL_law 434 = .ok (.i2l, 1) := by decide +kernel
theorem dL_law_435 : decode cL_law 435 = .ok (.lcmp, 1) := by decide +kernel
theorem dL_law_436 : decode cL_law 436 = .ok (.ifCond .eq 5, 3) := by decide +kernel
theorem dL_law_439 : decode cL_law 439 = .ok (.iconst 0, 1) := by decide +kernel
theorem dL_law_440 : decode cL_law 440 = .ok (.ireturn, 1) := by decide +kernel
theorem dL_law_441 : decode cL_law 441 = .ok (.goto 802, 3) := by decide +kernel
theorem dL_law_444 : decode cL_law 444 = .ok (.aload_n 1, 1) := by decide +kernel
theorem dL_law_445 : decode cL_law 445 = .ok (.aload_n 0, 1) := by decide +kernel
theorem dL_law_446 : decode cL_law 446 = .ok (.iload 4, 2) := by decide +kernel
theorem dL_law_448 : decode cL_law 448 = .ok (.iconst 1, 1) := by decide +kernel
theorem dL_law_449 : decode cL_law 449 = .ok (.iadd, 1) := by decide +kernel
theorem dL_law_450 : decode cL_law 450 = .ok (.iaload, 1) := by decide +kernel
theorem dL_law_451 : decode cL_law 451 = .ok (.aload_n 3, 1) := by decide +kernel
theorem dL_law_452 : decode cL_law 452 = .ok (.invokestatic 97, 3) := by decide +kernel
theorem dL_law_455 : decode cL_law 455 = .ok (.istore 5, 2) := by decide +kernel
theorem dL_law_457 : decode cL_law 457 = .ok (.aload_n 2, 1) := by decide +kernel
theorem dL_law_458 : decode cL_law 458 = .ok (.aload_n 0, 1) := by decide +kernel
theorem dL_law_459 : decode cL_law 459 = .ok (.iload 4, 2) := by decide +kernel
theorem dL_law_461 : decode cL_law 461 = .ok (.iconst 1, 1) := by decide +kernel
theorem dL_law_462 : decode cL_law 462 = .ok (.iadd, 1) := by decide +kernel
theorem dL_law_463 : decode cL_law 463 = .ok (.iaload, 1) := by decide +kernel
theorem dL_law_464 : decode cL_law 464 = .ok (.invokevirtual 99, 3) := by decide +kernel
theorem dL_law_467 : decode cL_law 467 = .ok (.istore 6, 2) := by decide +kernel
theorem dL_law_469 : decode cL_law 469 = .ok (.aload_n 2, 1) := by decide +kernel
theorem dL_law_470 : decode cL_law 470 = .ok (.invokevirtual 79, 3) := by decide +kernel
theorem dL_law_473 : decode cL_law 473 = .ok (.iload 5, 2) := by decide +kernel
theorem dL_law_475 : decode cL_law 475 = .ok (.if_icmp .eq 5, 3) := by decide +kernel
theorem dL_law_478 : decode cL_law 478 = .ok (.iconst 0, 1) := by decide +kernel
theorem dL_law_479 : decode cL_law 479 = .ok (.ireturn, 1) := by decide +kernel
theorem dL_law_480 : decode cL_law 480 = .ok (.iload 5, 2) := by decide +kernel
theorem dL_law_482 : decode cL_law 482 = .ok (.ifCond .ne 15, 3) := by decide +kernel
theorem dL_law_485 : decode cL_law 485 = .ok (.aload_n 3, 1) := by decide +kernel
theorem dL_law_486 : decode cL_law 486 = .ok (.iconst 0, 1) := by decide +kernel
theorem dL_law_487 : decode cL_law 487 = .ok (.laload, 1) := by decide +kernel
theorem dL_law_488 : decode cL_law 488 = .ok (.iload 6, 2) := by decide +kernel
theorem dL_law_490 : decode cL_law 490 = .ok (.i2l, 1) := by decide +kernel
theorem dL_law_491 : decode cL_law 491 = .ok (.lcmp, 1) := by decide +kernel
theorem dL_law_492 : decode cL_law 492 = .ok (.ifCond .eq 5, 3) := by decide +kernel
theorem dL_law_495 : decode cL_law 495 = .ok (.iconst 0, 1) := by decide +kernel
theorem dL_law_496 : decode cL_law 496 = .ok (.ireturn, 1) := by decide +kernel
theorem dL_law_497 : decode cL_law 497 = .ok (.goto 746, 3) := by decide +kernel
theorem dL_law_500 : decode cL_law 500 = .ok (.aload_n 1, 1) := by decide +kernel
theorem dL_law_501 : decode cL_law 501 = .ok (.aload_n 0, 1) := by decide +kernel
theorem dL_law_502 : decode cL_law 502 = .ok (.iload 4, 2) := by decide +kernel
theorem dL_law_504 : decode cL_law 504 = .ok (.iconst 1, 1) := by decide +kernel
theorem dL_law_505 : decode cL_law 505 = .ok (.iadd, 1) := by decide +kernel
theorem dL_law_506 : decode cL_law 506 = .ok (.iaload, 1) := by decide +kernel
theorem dL_law_507 : decode cL_law 507 = .ok (.aload_n 3, 1) := by decide +kernel
theorem dL_law_508 : decode cL_law 508 = .ok (.invokestatic 100, 3) := by decide +kernel
theorem dL_law_511 : decode cL_law 511 = .ok (.istore 5, 2) := by decide +kernel
theorem dL_law_513 : decode cL_law 513 = .ok (.aload_n 2, 1) := by decide +kernel
theorem dL_law_514 : decode cL_law 514 = .ok (.aload_n 0, 1) := by decide +kernel
theorem dL_law_515 : decode cL_law 515 = .ok (.iload 4, 2) := by decide +kernel
theorem dL_law_517 : decode cL_law 517 = .ok (.iconst 1, 1) := by decide +kernel
theorem dL_law_518 : decode cL_law 518 = .ok (.iadd, 1) := by decide +kernel
theorem dL_law_519 : decode cL_law 519 = .ok (.iaload, 1) := by decide +kernel
theorem dL_law_520 : decode cL_law 520 = .ok (.invokevirtual 102, 3) := by decide +kernel
theorem dL_law_523 : decode cL_law 523 = .ok (.istore 6, 2) := by decide +kernel
theorem dL_law_525 : decode cL_law 525 = .ok (.aload_n 2, 1) := by decide +kernel
theorem dL_law_526 : decode cL_law 526 = .ok (.invokevirtual 79, 3) := by decide +kernel
theorem dL_law_529 : decode cL_law 529 = .ok (.iload 5, 2) := by decide +kernel
theorem dL_law_531 : decode cL_law 531 = .ok (.if_icmp .eq 5, 3) := by decide +kernel
theorem dL_law_534 : decode cL_law 534 = .ok (.iconst 0, 1) := by decide +kernel
theorem dL_law_535 : decode cL_law 535 = .ok (.ireturn, 1) := by decide +kernel
theorem dL_law_536 : decode cL_law 536 = .ok (.iload 5, 2) := by decide +kernel
theorem dL_law_538 : decode cL_law 538 = .ok (.ifCond .ne 15, 3) := by decide +kernel
theorem dL_law_541 : decode cL_law 541 = .ok (.aload_n 3, 1) := by decide +kernel
theorem dL_law_542 : decode cL_law 542 = .ok (.iconst 0, 1) := by decide +kernel
theorem dL_law_543 : decode cL_law 543 = .ok (.laload, 1) := by decide +kernel
theorem dL_law_544 : decode cL_law 544 = .ok (.iload 6, 2) := by decide +kernel
theorem dL_law_546 : decode cL_law 546 = .ok (.i2l, 1) := by decide +kernel
theorem dL_law_547 : decode cL_law 547 = .ok (.lcmp, 1) := by decide +kernel
theorem dL_law_548 : decode cL_law 548 = .ok (.ifCond .eq 5, 3) := by decide +kernel
theorem dL_law_551 : decode cL_law 551 = .ok (.iconst 0, 1) := by decide +kernel
theorem dL_law_552 : decode cL_law 552 = .ok (.ireturn, 1) := by decide +kernel
theorem dL_law_553 : decode cL_law 553 = .ok (.goto 690, 3) := by decide +kernel
theorem dL_law_556 : decode cL_law 556 = .ok (.aload_n 1, 1) := by decide +kernel
theorem dL_law_557 : decode cL_law 557 = .ok (.aload_n 0, 1) := by decide +kernel
theorem dL_law_558 : decode cL_law 558 = .ok (.iload 4, 2) := by decide +kernel
theorem dL_law_560 : decode cL_law 560 = .ok (.iconst 1, 1) := by decide +kernel
theorem dL_law_561 : decode cL_law 561 = .ok (.iadd, 1) := by decide +kernel
theorem dL_law_562 : decode cL_law 562 = .ok (.iaload, 1) := by decide +kernel
theorem dL_law_563 : decode cL_law 563 = .ok (.aload_n 0, 1) := by decide +kernel
theorem dL_law_564 : decode cL_law 564 = .ok (.iload 4, 2) := by decide +kernel
theorem dL_law_566 : decode cL_law 566 = .ok (.iconst 2, 1) := by decide +kernel
theorem dL_law_567 : decode cL_law 567 = .ok (.iadd, 1) := by decide +kernel
theorem dL_law_568 : decode cL_law 568 = .ok (.iaload, 1) := by decide +kernel
theorem dL_law_569 : decode cL_law 569 = .ok (.aload_n 3, 1) := by decide +kernel
theorem dL_law_570 : decode cL_law 570 = .ok (.invokestatic 103, 3) := by decide +kernel
theorem dL_law_573 : decode cL_law 573 = .ok (.istore 5, 2) := by decide +kernel
theorem dL_law_575 : decode cL_law 575 = .ok (.aload_n 2, 1) := by decide +kernel
theorem dL_law_576 : decode cL_law 576 = .ok (.aload_n 0, 1) := by decide +kernel
theorem dL_law_577 : decode cL_law 577 = .ok (.iload 4, 2) := by decide +kernel
theorem dL_law_579 : decode cL_law 579 = .ok (.iconst 1, 1) := by decide +kernel
theorem dL_law_580 : decode cL_law 580 = .ok (.iadd, 1) := by decide +kernel
theorem dL_law_581 : decode cL_law 581 = .ok (.iaload, 1) := by decide +kernel
theorem dL_law_582 : decode cL_law 582 = .ok (.aload_n 0, 1) := by decide +kernel
theorem dL_law_583 : decode cL_law 583 = .ok (.iload 4, 2) := by decide +kernel
theorem dL_law_585 : decode cL_law 585 = .ok (.iconst 2, 1) := by decide +kernel
theorem dL_law_586 : decode cL_law 586 = .ok (.iadd, 1) := by decide +kernel
theorem dL_law_587 : decode cL_law 587 = .ok (.iaload, 1) := by decide +kernel
theorem dL_law_588 : decode cL_law 588 = .ok (.invokevirtual 105, 3) := by decide +kernel
theorem dL_law_591 : decode cL_law 591 = .ok (.istore 6, 2) := by decide +kernel
theorem dL_law_593 : decode cL_law 593 = .ok (.aload_n 2, 1) := by decide +kernel
theorem dL_law_594 : decode cL_law 594 = .ok (.invokevirtual 79, 3) := by decide +kernel
theorem dL_law_597 : decode cL_law 597 = .ok (.iload 5, 2) := by decide +kernel
theorem dL_law_599 : decode cL_law 599 = .ok (.if_icmp .eq 5, 3) := by decide +kernel
theorem dL_law_602 : decode cL_law 602 = .ok (.iconst 0, 1) := by decide +kernel
theorem dL_law_603 : decode cL_law 603 = .ok (.ireturn, 1) := by decide +kernel
theorem dL_law_604 : decode cL_law 604 = .ok (.iload 5, 2) := by decide +kernel
theorem dL_law_606 : decode cL_law 606 = .ok (.ifCond .ne 15, 3) := by decide +kernel
theorem dL_law_609 : decode cL_law 609 = .ok (.aload_n 3, 1) := by decide +kernel
theorem dL_law_610 : decode cL_law 610 = .ok (.iconst 0, 1) := by decide +kernel
theorem dL_law_611 : decode cL_law 611 = .ok (.laload, 1) := by decide +kernel
theorem dL_law_612 : decode cL_law 612 = .ok (.iload 6, 2) := by decide +kernel
theorem dL_law_614 : decode cL_law 614 = .ok (.i2l, 1) := by decide +kernel
theorem dL_law_615 : decode cL_law 615 = .ok (.lcmp, 1) := by decide +kernel
theorem dL_law_616 : decode cL_law 616 = .ok (.ifCond .eq 5, 3) := by decide +kernel
theorem dL_law_619 : decode cL_law 619 = .ok (.iconst 0, 1) := by decide +kernel
theorem dL_law_620 : decode cL_law 620 = .ok (.ireturn, 1) := by decide +kernel
theorem dL_law_621 : decode cL_law 621 = .ok (.goto 622, 3) := by decide +kernel
theorem dL_law_624 : decode cL_law 624 = .ok (.aload_n 1, 1) := by decide +kernel
theorem dL_law_625 : decode cL_law 625 = .ok (.aload_n 0, 1) := by decide +kernel
theorem dL_law_626 : decode cL_law 626 = .ok (.iload 4, 2) := by decide +kernel
theorem dL_law_628 : decode cL_law 628 = .ok (.iconst 1, 1) := by decide +kernel
theorem dL_law_629 : decode cL_law 629 = .ok (.iadd, 1) := by decide +kernel
theorem dL_law_630 : decode cL_law 630 = .ok (.iaload, 1) := by decide +kernel
theorem dL_law_631 : decode cL_law 631 = .ok (.aload_n 0, 1) := by decide +kernel
theorem dL_law_632 : decode cL_law 632 = .ok (.iload 4, 2) := by decide +kernel
theorem dL_law_634 : decode cL_law 634 = .ok (.iconst 2, 1) := by decide +kernel
theorem dL_law_635 : decode cL_law 635 = .ok (.iadd, 1) := by decide +kernel
theorem dL_law_636 : decode cL_law 636 = .ok (.iaload, 1) := by decide +kernel
theorem dL_law_637 : decode cL_law 637 = .ok (.aload_n 3, 1) := by decide +kernel
theorem dL_law_638 : decode cL_law 638 = .ok (.invokestatic 106, 3) := by decide +kernel
theorem dL_law_641 : decode cL_law 641 = .ok (.istore 5, 2) := by decide +kernel
theorem dL_law_643 : decode cL_law 643 = .ok (.aload_n 2, 1) := by decide +kernel
theorem dL_law_644 : decode cL_law 644 = .ok (.aload_n 0, 1) := by decide +kernel
theorem dL_law_645 : decode cL_law 645 = .ok (.iload 4, 2) := by decide +kernel
theorem dL_law_647 : decode cL_law 647 = .ok (.iconst 1, 1) := by decide +kernel
theorem dL_law_648 : decode cL_law 648 = .ok (.iadd, 1) := by decide +kernel
theorem dL_law_649 : decode cL_law 649 = .ok (.iaload, 1) := by decide +kernel
theorem dL_law_650 : decode cL_law 650 = .ok (.aload_n 0, 1) := by decide +kernel
theorem dL_law_651 : decode cL_law 651 = .ok (.iload 4, 2) := by decide +kernel
theorem dL_law_653 : decode cL_law 653 = .ok (.iconst 2, 1) := by decide +kernel
theorem dL_law_654 : decode cL_law 654 = .ok (.iadd, 1) := by decide +kernel
theorem dL_law_655 : decode cL_law 655 = .ok (.iaload, 1) := by decide +kernel
theorem dL_law_656 : decode cL_law 656 = .ok (.invokevirtual 108, 3) := by decide +kernel
theorem dL_law_659 : decode cL_law 659 = .ok (.istore 6, 2) := by decide +kernel
theorem dL_law_661 : decode cL_law 661 = .ok (.aload_n 2, 1) := by decide +kernel
theorem dL_law_662 : decode cL_law 662 = .ok (.invokevirtual 79, 3) := by decide +kernel
theorem dL_law_665 : decode cL_law 665 = .ok (.iload 5, 2) := by decide +kernel
theorem dL_law_667 : decode cL_law 667 = .ok (.if_icmp .eq 5, 3) := by decide +kernel
theorem dL_law_670 : decode cL_law 670 = .ok (.iconst 0, 1) := by decide +kernel
theorem dL_law_671 : decode cL_law 671 = .ok (.ireturn, 1) := by decide +kernel
theorem dL_law_672 : decode cL_law 672 = .ok (.iload 5, 2) := by decide +kernel
theorem dL_law_674 : decode cL_law 674 = .ok (.ifCond .ne 15, 3) := by decide +kernel
theorem dL_law_677 : decode cL_law 677 = .ok (.aload_n 3, 1) := by decide +kernel
theorem dL_law_678 : decode cL_law 678 = .ok (.iconst 0, 1) := by decide +kernel
theorem dL_law_679 : decode cL_law 679 = .ok (.laload, 1) := by decide +kernel
theorem dL_law_680 : decode cL_law 680 = .ok (.iload 6, 2) := by decide +kernel
theorem dL_law_682 : decode cL_law 682 = .ok (.i2l, 1) := by decide +kernel
theorem dL_law_683 : decode cL_law 683 = .ok (.lcmp, 1) := by decide +kernel
theorem dL_law_684 : decode cL_law 684 = .ok (.ifCond .eq 5, 3) := by decide +kernel
theorem dL_law_687 : decode cL_law 687 = .ok (.iconst 0, 1) := by decide +kernel
theorem dL_law_688 : decode cL_law 688 = .ok (.ireturn, 1) := by decide +kernel
theorem dL_law_689 : decode cL_law 689 = .ok (.goto 554, 3) := by decide +kernel
theorem dL_law_692 : decode cL_law 692 = .ok (.aload_n 1, 1) := by decide +kernel
theorem dL_law_693 : decode cL_law 693 = .ok (.aload_n 0, 1) := by decide +kernel
theorem dL_law_694 : decode cL_law 694 = .ok (.iload 4, 2) := by decide +kernel
theorem dL_law_696 : decode cL_law 696 = .ok (.iconst 1, 1) := by decide +kernel
theorem dL_law_697 : decode cL_law 697 = .ok (.iadd, 1) := by decide +kernel
theorem dL_law_698 : decode cL_law 698 = .ok (.iaload, 1) := by decide +kernel
theorem dL_law_699 : decode cL_law 699 = .ok (.aload_n 3, 1) := by decide +kernel
theorem dL_law_700 : decode cL_law 700 = .ok (.invokestatic 109, 3) := by decide +kernel
theorem dL_law_703 : decode cL_law 703 = .ok (.istore 5, 2) := by decide +kernel
theorem dL_law_705 : decode cL_law 705 = .ok (.aload_n 2, 1) := by decide +kernel
theorem dL_law_706 : decode cL_law 706 = .ok (.aload_n 0, 1) := by decide +kernel
theorem dL_law_707 : decode cL_law 707 = .ok (.iload 4, 2) := by decide +kernel
theorem dL_law_709 : decode cL_law 709 = .ok (.iconst 1, 1) := by decide +kernel
theorem dL_law_710 : decode cL_law 710 = .ok (.iadd, 1) := by decide +kernel
theorem dL_law_711 : decode cL_law 711 = .ok (.iaload, 1) := by decide +kernel
theorem dL_law_712 : decode cL_law 712 = .ok (.invokevirtual 111, 3) := by decide +kernel
theorem dL_law_715 : decode cL_law 715 = .ok (.istore 6, 2) := by decide +kernel
theorem dL_law_717 : decode cL_law 717 = .ok (.aload_n 2, 1) := by decide +kernel
theorem dL_law_718 : decode cL_law 718 = .ok (.invokevirtual 79, 3) := by decide +kernel
theorem dL_law_721 : decode cL_law 721 = .ok (.iload 5, 2) := by decide +kernel
theorem dL_law_723 : decode cL_law 723 = .ok (.if_icmp .eq 5, 3) := by decide +kernel
theorem dL_law_726 : decode cL_law 726 = .ok (.iconst 0, 1) := by decide +kernel
theorem dL_law_727 : decode cL_law 727 = .ok (.ireturn, 1) := by decide +kernel
theorem dL_law_728 : decode cL_law 728 = .ok (.iload 5, 2) := by decide +kernel
theorem dL_law_730 : decode cL_law 730 = .ok (.ifCond .ne 15, 3) := by decide +kernel
theorem dL_law_733 : decode cL_law 733 = .ok (.aload_n 3, 1) := by decide +kernel
theorem dL_law_734 : decode cL_law 734 = .ok (.iconst 0, 1) := by decide +kernel
theorem dL_law_735 : decode cL_law 735 = .ok (.laload, 1) := by decide +kernel
theorem dL_law_736 : decode cL_law 736 = .ok (.iload 6, 2) := by decide +kernel
theorem dL_law_738 : decode cL_law 738 = .ok (.i2l, 1) := by decide +kernel
theorem dL_law_739 : decode cL_law 739 = .ok (.lcmp, 1) := by decide +kernel
theorem dL_law_740 : decode cL_law 740 = .ok (.ifCond .eq 5, 3) := by decide +kernel
theorem dL_law_743 : decode cL_law 743 = .ok (.iconst 0, 1) := by decide +kernel
theorem dL_law_744 : decode cL_law 744 = .ok (.ireturn, 1) := by decide +kernel
theorem dL_law_745 : decode cL_law 745 = .ok (.goto 498, 3) := by decide +kernel
theorem dL_law_748 : decode cL_law 748 = .ok (.aload_n 1, 1) := by decide +kernel
theorem dL_law_749 : decode cL_law 749 = .ok (.aload_n 0, 1) := by decide +kernel
theorem dL_law_750 : decode cL_law 750 = .ok (.iload 4, 2) := by decide +kernel
theorem dL_law_752 : decode cL_law 752 = .ok (.iconst 1, 1) := by decide +kernel
theorem dL_law_753 : decode cL_law 753 = .ok (.iadd, 1) := by decide +kernel
theorem dL_law_754 : decode cL_law 754 = .ok (.iaload, 1) := by decide +kernel
theorem dL_law_755 : decode cL_law 755 = .ok (.aload_n 0, 1) := by decide +kernel
theorem dL_law_756 : decode cL_law 756 = .ok (.iload 4, 2) := by decide +kernel
theorem dL_law_758 : decode cL_law 758 = .ok (.iconst 2, 1) := by decide +kernel
theorem dL_law_759 : decode cL_law 759 = .ok (.iadd, 1) := by decide +kernel
theorem dL_law_760 : decode cL_law 760 = .ok (.iaload, 1) := by decide +kernel
theorem dL_law_761 : decode cL_law 761 = .ok (.aload_n 3, 1) := by decide +kernel
theorem dL_law_762 : decode cL_law 762 = .ok (.invokestatic 112, 3) := by decide +kernel
theorem dL_law_765 : decode cL_law 765 = .ok (.istore 5, 2) := by decide +kernel
theorem dL_law_767 : decode cL_law 767 = .ok (.aload_n 2, 1) := by decide +kernel
theorem dL_law_768 : decode cL_law 768 = .ok (.aload_n 0, 1) := by decide +kernel
theorem dL_law_769 : decode cL_law 769 = .ok (.iload 4, 2) := by decide +kernel
theorem dL_law_771 : decode cL_law 771 = .ok (.iconst 1, 1) := by decide +kernel
theorem dL_law_772 : decode cL_law 772 = .ok (.iadd, 1) := by decide +kernel
theorem dL_law_773 : decode cL_law 773 = .ok (.iaload, 1) := by decide +kernel
theorem dL_law_774 : decode cL_law 774 = .ok (.aload_n 0, 1) := by decide +kernel
theorem dL_law_775 : decode cL_law 775 = .ok (.iload 4, 2) := by decide +kernel
theorem dL_law_777 : decode cL_law 777 = .ok (.iconst 2, 1) := by decide +kernel
theorem dL_law_778 : decode cL_law 778 = .ok (.iadd, 1) := by decide +kernel
theorem dL_law_779 : decode cL_law 779 = .ok (.iaload, 1) := by decide +kernel
theorem dL_law_780 : decode cL_law 780 = .ok (.invokevirtual 114, 3) := by decide +kernel
theorem dL_law_783 : decode cL_law 783 = .ok (.istore 6, 2) := by decide +kernel
theorem dL_law_785 : decode cL_law 785 = .ok (.aload_n 2, 1) := by decide +kernel
theorem dL_law_786 : decode cL_law 786 = .ok (.invokevirtual 79, 3) := by decide +kernel
theorem dL_law_789 : decode cL_law 789 = .ok (.iload 5, 2) := by decide +kernel
theorem dL_law_791 : decode cL_law 791 = .ok (.if_icmp .eq 5, 3) := by decide +kernel
theorem dL_law_794 : decode cL_law 794 = .ok (.iconst 0, 1) := by decide +kernel
theorem dL_law_795 : decode cL_law 795 = .ok (.ireturn, 1) := by decide +kernel
theorem dL_law_796 : decode cL_law 796 = .ok (.iload 5, 2) := by decide +kernel
theorem dL_law_798 : decode cL_law 798 = .ok (.ifCond .ne 15, 3) := by decide +kernel
theorem dL_law_801 : decode cL_law 801 = .ok (.aload_n 3, 1) := by decide +kernel
theorem dL_law_802 : decode cL_law 802 = .ok (.iconst 0, 1) := by decide +kernel
theorem dL_law_803 : decode cL_law 803 = .ok (.laload, 1) := by decide +kernel
theorem dL_law_804 : decode cL_law 804 = .ok (.iload 6, 2) := by decide +kernel
theorem dL_law_806 : decode cL_law 806 = .ok (.i2l, 1) := by decide +kernel
theorem dL_law_807 : decode cL_law 807 = .ok (.lcmp, 1) := by decide +kernel
theorem dL_law_808 : decode cL_law 808 = .ok (.ifCond .eq 5, 3) := by decide +kernel
theorem dL_law_811 : decode cL_law 811 = .ok (.iconst 0, 1) := by decide +kernel
theorem dL_law_812 : decode cL_law 812 = .ok (.ireturn, 1) := by decide +kernel
theorem dL_law_813 : decode cL_law 813 = .ok (.goto 430, 3) := by decide +kernel
theorem dL_law_816 : decode cL_law 816 = .ok (.aload_n 1, 1) := by decide +kernel
theorem dL_law_817 : decode cL_law 817 = .ok (.aload_n 0, 1) := by decide +kernel
theorem dL_law_818 : decode cL_law 818 = .ok (.iload 4, 2) := by decide +kernel
theorem dL_law_820 : decode cL_law 820 = .ok (.iconst 1, 1) := by decide +kernel
theorem dL_law_821 : decode cL_law 821 = .ok (.iadd, 1) := by decide +kernel
theorem dL_law_822 : decode cL_law 822 = .ok (.iaload, 1) := by decide +kernel
theorem dL_law_823 : decode cL_law 823 = .ok (.aload_n 0, 1) := by decide +kernel
theorem dL_law_824 : decode cL_law 824 = .ok (.iload 4, 2) := by decide +kernel
theorem dL_law_826 : decode cL_law 826 = .ok (.iconst 2, 1) := by decide +kernel
theorem dL_law_827 : decode cL_law 827 = .ok (.iadd, 1) := by decide +kernel
theorem dL_law_828 : decode cL_law 828 = .ok (.iaload, 1) := by decide +kernel
theorem dL_law_829 : decode cL_law 829 = .ok (.aload_n 3, 1) := by decide +kernel
theorem dL_law_830 : decode cL_law 830 = .ok (.invokestatic 115, 3) := by decide +kernel
theorem dL_law_833 : decode cL_law 833 = .ok (.istore 5, 2) := by decide +kernel
theorem dL_law_835 : decode cL_law 835 = .ok (.aload_n 2, 1) := by decide +kernel
theorem dL_law_836 : decode cL_law 836 = .ok (.aload_n 0, 1) := by decide +kernel
theorem dL_law_837 : decode cL_law 837 = .ok (.iload 4, 2) := by decide +kernel
theorem dL_law_839 : decode cL_law 839 = .ok (.iconst 1, 1) := by decide +kernel
theorem dL_law_840 : decode cL_law 840 = .ok (.iadd, 1) := by decide +kernel
theorem dL_law_841 : decode cL_law 841 = .ok (.iaload, 1) := by decide +kernel
theorem dL_law_842 : decode cL_law 842 = .ok (.aload_n 0, 1) := by decide +kernel
theorem dL_law_843 : decode cL_law 843 = .ok (.iload 4, 2) := by decide +kernel
theorem dL_law_845 : decode cL_law 845 = .ok (.iconst 2, 1) := by decide +kernel
theorem dL_law_846 : decode cL_law 846 = .ok (.iadd, 1) := by decide +kernel
theorem dL_law_847 : decode cL_law 847 = .ok (.iaload, 1) := by decide +kernel
theorem dL_law_848 : decode cL_law 848 = .ok (.invokevirtual 117, 3) := by decide +kernel
theorem dL_law_851 : decode cL_law 851 = .ok (.istore 6, 2) := by decide +kernel
theorem dL_law_853 : decode cL_law 853 = .ok (.aload_n 2, 1) := by decide +kernel
theorem dL_law_854 : decode cL_law 854 = .ok (.invokevirtual 79, 3) := by decide +kernel
theorem dL_law_857 : decode cL_law 857 = .ok (.iload 5, 2) := by decide +kernel
theorem dL_law_859 : decode cL_law 859 = .ok (.if_icmp .eq 5, 3) := by decide +kernel
theorem dL_law_862 : decode cL_law 862 = .ok (.iconst 0, 1) := by decide +kernel
theorem dL_law_863 : decode cL_law 863 = .ok (.ireturn, 1) := by decide +kernel
theorem dL_law_864 : decode cL_law 864 = .ok (.iload 5, 2) := by decide +kernel
theorem dL_law_866 : decode cL_law 866 = .ok (.ifCond .ne 15, 3) := by decide +kernel
theorem dL_law_869 : decode cL_law 869 = .ok (.aload_n 3, 1) := by decide +kernel
theorem dL_law_870 : decode cL_law 870 = .ok (.iconst 0, 1) := by decide +kernel
theorem dL_law_871 : decode cL_law 871 = .ok (.laload, 1) := by decide +kernel
theorem dL_law_872 : decode cL_law 872 = .ok (.iload 6, 2) := by decide +kernel
theorem dL_law_874 : decode cL_law 874 = .ok (.i2l, 1) := by decide +kernel
theorem dL_law_875 : decode cL_law 875 = .ok (.lcmp, 1) := by decide +kernel
theorem dL_law_876 : decode cL_law 876 = .ok (.ifCond .eq 5, 3) := by decide +kernel
theorem dL_law_879 : decode cL_law 879 = .ok (.iconst 0, 1) := by decide +kernel
theorem dL_law_880 : decode cL_law 880 = .ok (.ireturn, 1) := by decide +kernel
theorem dL_law_881 : decode cL_law 881 = .ok (.goto 362, 3) := by decide +kernel
theorem dL_law_884 : decode cL_law 884 = .ok (.aload_n 1, 1) := by decide +kernel
theorem dL_law_885 : decode cL_law 885 = .ok (.aload_n 0, 1) := by decide +kernel
theorem dL_law_886 : decode cL_law 886 = .ok (.iload 4, 2) := by decide +kernel
theorem dL_law_888 : decode cL_law 888 = .ok (.iconst 1, 1) := by decide +kernel
theorem dL_law_889 : decode cL_law 889 = .ok (.iadd, 1) := by decide +kernel
theorem dL_law_890 : decode cL_law 890 = .ok (.iaload, 1) := by decide +kernel
theorem dL_law_891 : decode cL_law 891 = .ok (.aload_n 0, 1) := by decide +kernel
theorem dL_law_892 : decode cL_law 892 = .ok (.iload 4, 2) := by decide +kernel
theorem dL_law_894 : decode cL_law 894 = .ok (.iconst 2, 1) := by decide +kernel
theorem dL_law_895 : decode cL_law 895 = .ok (.iadd, 1) := by decide +kernel
theorem dL_law_896 : decode cL_law 896 = .ok (.iaload, 1) := by decide +kernel
theorem dL_law_897 : decode cL_law 897 = .ok (.aload_n 3, 1) := by decide +kernel
theorem dL_law_898 : decode cL_law 898 = .ok (.invokestatic 118, 3) := by decide +kernel
theorem dL_law_901 : decode cL_law 901 = .ok (.istore 5, 2) := by decide +kernel
theorem dL_law_903 : decode cL_law 903 = .ok (.aload_n 2, 1) := by decide +kernel
theorem dL_law_904 : decode cL_law 904 = .ok (.aload_n 0, 1) := by decide +kernel
theorem dL_law_905 : decode cL_law 905 = .ok (.iload 4, 2) := by decide +kernel
theorem dL_law_907 : decode cL_law 907 = .ok (.iconst 1, 1) := by decide +kernel
theorem dL_law_908 : decode cL_law 908 = .ok (.iadd, 1) := by decide +kernel
theorem dL_law_909 : decode cL_law 909 = .ok (.iaload, 1) := by decide +kernel
theorem dL_law_910 : decode cL_law 910 = .ok (.aload_n 0, 1) := by decide +kernel
theorem dL_law_911 : decode cL_law 911 = .ok (.iload 4, 2) := by decide +kernel
theorem dL_law_913 : decode cL_law 913 = .ok (.iconst 2, 1) := by decide +kernel
theorem dL_law_914 : decode cL_law 914 = .ok (.iadd, 1) := by decide +kernel
theorem dL_law_915 : decode cL_law 915 = .ok (.iaload, 1) := by decide +kernel
theorem dL_law_916 : decode cL_law 916 = .ok (.invokevirtual 120, 3) := by decide +kernel
theorem dL_law_919 : decode cL_law 919 = .ok (.istore 6, 2) := by decide +kernel
theorem dL_law_921 : decode cL_law 921 = .ok (.aload_n 2, 1) := by decide +kernel
theorem dL_law_922 : decode cL_law 922 = .ok (.invokevirtual 79, 3) := by decide +kernel
theorem dL_law_925 : decode cL_law 925 = .ok (.iload 5, 2) := by decide +kernel
theorem dL_law_927 : decode cL_law 927 = .ok (.if_icmp .eq 5, 3) := by decide +kernel
theorem dL_law_930 : decode cL_law 930 = .ok (.iconst 0, 1) := by decide +kernel
theorem dL_law_931 : decode cL_law 931 = .ok (.ireturn, 1) := by decide +kernel
theorem dL_law_932 : decode cL_law 932 = .ok (.iload 5, 2) := by decide +kernel
theorem dL_law_934 : decode cL_law 934 = .ok (.ifCond .ne 15, 3) := by decide +kernel
theorem dL_law_937 : decode cL_law 937 = .ok (.aload_n 3, 1) := by decide +kernel
theorem dL_law_938 : decode cL_law 938 = .ok (.iconst 0, 1) := by decide +kernel
theorem dL_law_939 : decode cL_law 939 = .ok (.laload, 1) := by decide +kernel
theorem dL_law_940 : decode cL_law 940 = .ok (.iload 6, 2) := by decide +kernel
theorem dL_law_942 : decode cL_law 942 = .ok (.i2l, 1) := by decide +kernel
theorem dL_law_943 : decode cL_law 943 = .ok (.lcmp, 1) := by decide +kernel
theorem dL_law_944 : decode cL_law 944 = .ok (.ifCond .eq 5, 3) := by decide +kernel
theorem dL_law_947 : decode cL_law 947 = .ok (.iconst 0, 1) := by decide +kernel
theorem dL_law_948 : decode cL_law 948 = .ok (.ireturn, 1) := by decide +kernel
theorem dL_law_949 : decode cL_law 949 = .ok (.goto 294, 3) := by decide +kernel
theorem dL_law_952 : decode cL_law 952 = .ok (.aload_n 1, 1) := by decide +kernel
theorem dL_law_953 : decode cL_law 953 = .ok (.aload_n 0, 1) := by decide +kernel
theorem dL_law_954 : decode cL_law 954 = .ok (.iload 4, 2) := by decide +kernel
theorem dL_law_956 : decode cL_law 956 = .ok (.iconst 1, 1) := by decide +kernel
theorem dL_law_957 : decode cL_law 957 = .ok (.iadd, 1) := by decide +kernel
theorem dL_law_958 : decode cL_law 958 = .ok (.iaload, 1) := by decide +kernel
theorem dL_law_959 : decode cL_law 959 = .ok (.aload_n 3, 1) := by decide +kernel
theorem dL_law_960 : decode cL_law 960 = .ok (.invokestatic 121, 3) := by decide +kernel
theorem dL_law_963 : decode cL_law 963 = .ok (.istore 5, 2) := by decide +kernel
theorem dL_law_965 : decode cL_law 965 = .ok (.aload_n 2, 1) := by decide +kernel
theorem dL_law_966 : decode cL_law 966 = .ok (.aload_n 0, 1) := by decide +kernel
theorem dL_law_967 : decode cL_law 967 = .ok (.iload 4, 2) := by decide +kernel
theorem dL_law_969 : decode cL_law 969 = .ok (.iconst 1, 1) := by decide +kernel
theorem dL_law_970 : decode cL_law 970 = .ok (.iadd, 1) := by decide +kernel
theorem dL_law_971 : decode cL_law 971 = .ok (.iaload, 1) := by decide +kernel
theorem dL_law_972 : decode cL_law 972 = .ok (.invokevirtual 123, 3) := by decide +kernel
theorem dL_law_975 : decode cL_law 975 = .ok (.istore 6, 2) := by decide +kernel
theorem dL_law_977 : decode cL_law 977 = .ok (.aload_n 2, 1) := by decide +kernel
theorem dL_law_978 : decode cL_law 978 = .ok (.invokevirtual 79, 3) := by decide +kernel
theorem dL_law_981 : decode cL_law 981 = .ok (.iload 5, 2) := by decide +kernel
theorem dL_law_983 : decode cL_law 983 = .ok (.if_icmp .eq 5, 3) := by decide +kernel
theorem dL_law_986 : decode cL_law 986 = .ok (.iconst 0, 1) := by decide +kernel
theorem dL_law_987 : decode cL_law 987 = .ok (.ireturn, 1) := by decide +kernel
theorem dL_law_988 : decode cL_law 988 = .ok (.iload 5, 2) := by decide +kernel
theorem dL_law_990 : decode cL_law 990 = .ok (.ifCond .ne 15, 3) := by decide +kernel
theorem dL_law_993 : decode cL_law 993 = .ok (.aload_n 3, 1) := by decide +kernel
theorem dL_law_994 : decode cL_law 994 = .ok (.iconst 0, 1) := by decide +kernel
theorem dL_law_995 : decode cL_law 995 = .ok (.laload, 1) := by decide +kernel
theorem dL_law_996 : decode cL_law 996 = .ok (.iload 6, 2) := by decide +kernel
theorem dL_law_998 : decode cL_law 998 = .ok (.i2l, 1) := by decide +kernel
theorem dL_law_999 : decode cL_law 999 = .ok (.lcmp, 1) := by decide +kernel
theorem dL_law_1000 : decode cL_law 1000 = .ok (.ifCond .eq 5, 3) := by decide +kernel
theorem dL_law_1003 : decode cL_law 1003 = .ok (.iconst 0, 1) := by decide +kernel
theorem dL_law_1004 : decode cL_law 1004 = .ok (.ireturn, 1) := by decide +kernel
theorem dL_law_1005 : decode cL_law 1005 = .ok (.goto 238, 3) := by decide +kernel
theorem dL_law_1008 : decode cL_law 1008 = .ok (.aload_n 1, 1) := by decide +kernel
theorem dL_law_1009 : decode cL_law 1009 = .ok (.aload_n 0, 1) := by decide +kernel
theorem dL_law_1010 : decode cL_law 1010 = .ok (.iload 4, 2) := by decide +kernel
theorem dL_law_1012 : decode cL_law 1012 = .ok (.iconst 1, 1) := by decide +kernel
theorem dL_law_1013 : decode cL_law 1013 = .ok (.iadd, 1) := by decide +kernel
theorem dL_law_1014 : decode cL_law 1014 = .ok (.iaload, 1) := by decide +kernel
theorem dL_law_1015 : decode cL_law 1015 = .ok (.aload_n 3, 1) := by decide +kernel
theorem dL_law_1016 : decode cL_law 1016 = .ok (.invokestatic 124, 3) := by decide +kernel
theorem dL_law_1019 : decode cL_law 1019 = .ok (.istore 5, 2) := by decide +kernel
theorem dL_law_1021 : decode cL_law 1021 = .ok (.aload_n 2, 1) := by decide +kernel
theorem dL_law_1022 : decode cL_law 1022 = .ok (.aload_n 0, 1) := by decide +kernel
theorem dL_law_1023 : decode cL_law 1023 = .ok (.iload 4, 2) := by decide +kernel
theorem dL_law_1025 : decode cL_law 1025 = .ok (.iconst 1, 1) := by decide +kernel
theorem dL_law_1026 : decode cL_law 1026 = .ok (.iadd, 1) := by decide +kernel
theorem dL_law_1027 : decode cL_law 1027 = .ok (.iaload, 1) := by decide +kernel
theorem dL_law_1028 : decode cL_law 1028 = .ok (.invokevirtual 126, 3) := by decide +kernel
theorem dL_law_1031 : decode cL_law 1031 = .ok (.istore 6, 2) := by decide +kernel
theorem dL_law_1033 : decode cL_law 1033 = .ok (.aload_n 2, 1) := by decide +kernel
theorem dL_law_1034 : decode cL_law 1034 = .ok (.invokevirtual 79, 3) := by decide +kernel
theorem dL_law_1037 : decode cL_law 1037 = .ok (.iload 5, 2) := by decide +kernel
theorem dL_law_1039 : decode cL_law 1039 = .ok (.if_icmp .eq 5, 3) := by decide +kernel
theorem dL_law_1042 : decode cL_law 1042 = .ok (.iconst 0, 1) := by decide +kernel
theorem dL_law_1043 : decode cL_law 1043 = .ok (.ireturn, 1) := by decide +kernel
theorem dL_law_1044 : decode cL_law 1044 = .ok (.iload 5, 2) := by decide +kernel
theorem dL_law_1046 : decode cL_law 1046 = .ok (.ifCond .ne 15, 3) := by decide +kernel
theorem dL_law_1049 : decode cL_law 1049 = .ok (.aload_n 3, 1) := by decide +kernel
theorem dL_law_1050 : decode cL_law 1050 = .ok (.iconst 0, 1) := by decide +kernel
theorem dL_law_1051 : decode cL_law 1051 = .ok (.laload, 1) := by decide +kernel
theorem dL_law_1052 : decode cL_law 1052 = .ok (.iload 6, 2) := by decide +kernel
theorem dL_law_1054 : decode cL_law 1054 = .ok (.i2l, 1) := by decide +kernel
theorem dL_law_1055 : decode cL_law 1055 = .ok (.lcmp, 1) := by decide +kernel
theorem dL_law_1056 : decode cL_law 1056 = .ok (.ifCond .eq 5, 3) := by decide +kernel
theorem dL_law_1059 : decode cL_law 1059 = .ok (.iconst 0, 1) := by decide +kernel
theorem dL_law_1060 : decode cL_law 1060 = .ok (.ireturn, 1) := by decide +kernel
theorem dL_law_1061 : decode cL_law 1061 = .ok (.goto 182, 3) := by decide +kernel
theorem dL_law_1064 : decode cL_law 1064 = .ok (.aload_n 1, 1) := by decide +kernel
theorem dL_law_1065 : decode cL_law 1065 = .ok (.aload_n 0, 1) := by decide +kernel
theorem dL_law_1066 : decode cL_law 1066 = .ok (.iload 4, 2) := by decide +kernel
theorem dL_law_1068 : decode cL_law 1068 = .ok (.iconst 1, 1) := by decide +kernel
theorem dL_law_1069 : decode cL_law 1069 = .ok (.iadd, 1) := by decide +kernel
theorem dL_law_1070 : decode cL_law 1070 = .ok (.iaload, 1) := by decide +kernel
theorem dL_law_1071 : decode cL_law 1071 = .ok (.aload_n 3, 1) := by decide +kernel
theorem dL_law_1072 : decode cL_law 1072 = .ok (.invokestatic 127, 3) := by decide +kernel
theorem dL_law_1075 : decode cL_law 1075 = .ok (.istore 5, 2) := by decide +kernel
theorem dL_law_1077 : decode cL_law 1077 = .ok (.aload_n 2, 1) := by decide +kernel
theorem dL_law_1078 : decode cL_law 1078 = .ok (.aload_n 0, 1) := by decide +kernel
theorem dL_law_1079 : decode cL_law 1079 = .ok (.iload 4, 2) := by decide +kernel
theorem dL_law_1081 : decode cL_law 1081 = .ok (.iconst 1, 1) := by decide +kernel
theorem dL_law_1082 : decode cL_law 1082 = .ok (.iadd, 1) := by decide +kernel
theorem dL_law_1083 : decode cL_law 1083 = .ok (.iaload, 1) := by decide +kernel
theorem dL_law_1084 : decode cL_law 1084 = .ok (.invokevirtual 129, 3) := by decide +kernel
theorem dL_law_1087 : decode cL_law 1087 = .ok (.istore 6, 2) := by decide +kernel
theorem dL_law_1089 : decode cL_law 1089 = .ok (.aload_n 2, 1) := by decide +kernel
theorem dL_law_1090 : decode cL_law 1090 = .ok (.invokevirtual 79, 3) := by decide +kernel
theorem dL_law_1093 : decode cL_law 1093 = .ok (.iload 5, 2) := by decide +kernel
theorem dL_law_1095 : decode cL_law 1095 = .ok (.if_icmp .eq 5, 3) := by decide +kernel
theorem dL_law_1098 : decode cL_law 1098 = .ok (.iconst 0, 1) := by decide +kernel
theorem dL_law_1099 : decode cL_law 1099 = .ok (.ireturn, 1) := by decide +kernel
theorem dL_law_1100 : decode cL_law 1100 = .ok (.iload 5, 2) := by decide +kernel
theorem dL_law_1102 : decode cL_law 1102 = .ok (.ifCond .ne 15, 3) := by decide +kernel
theorem dL_law_1105 : decode cL_law 1105 = .ok (.aload_n 3, 1) := by decide +kernel
theorem dL_law_1106 : decode cL_law 1106 = .ok (.iconst 0, 1) := by decide +kernel
theorem dL_law_1107 : decode cL_law 1107 = .ok (.laload, 1) := by decide +kernel
theorem dL_law_1108 : decode cL_law 1108 = .ok (.iload 6, 2) := by decide +kernel
theorem dL_law_1110 : decode cL_law 1110 = .ok (.i2l, 1) := by decide +kernel
theorem dL_law_1111 : decode cL_law 1111 = .ok (.lcmp, 1) := by decide +kernel
theorem dL_law_1112 : decode cL_law 1112 = .ok (.ifCond .eq 5, 3) := by decide +kernel
theorem dL_law_1115 : decode cL_law 1115 = .ok (.iconst 0, 1) := by decide +kernel
theorem dL_law_1116 : decode cL_law 1116 = .ok (.ireturn, 1) := by decide +kernel
theorem dL_law_1117 : decode cL_law 1117 = .ok (.goto 126, 3) := by decide +kernel
theorem dL_law_1120 : decode cL_law 1120 = .ok (.aload_n 1, 1) := by decide +kernel
theorem dL_law_1121 : decode cL_law 1121 = .ok (.aload_n 0, 1) := by decide +kernel
theorem dL_law_1122 : decode cL_law 1122 = .ok (.iload 4, 2) := by decide +kernel
theorem dL_law_1124 : decode cL_law 1124 = .ok (.iconst 1, 1) := by decide +kernel
theorem dL_law_1125 : decode cL_law 1125 = .ok (.iadd, 1) := by decide +kernel
theorem dL_law_1126 : decode cL_law 1126 = .ok (.iaload, 1) := by decide +kernel
theorem dL_law_1127 : decode cL_law 1127 = .ok (.aload_n 0, 1) := by decide +kernel
theorem dL_law_1128 : decode cL_law 1128 = .ok (.iload 4, 2) := by decide +kernel
theorem dL_law_1130 : decode cL_law 1130 = .ok (.iconst 2, 1) := by decide +kernel
theorem dL_law_1131 : decode cL_law 1131 = .ok (.iadd, 1) := by decide +kernel
theorem dL_law_1132 : decode cL_law 1132 = .ok (.iaload, 1) := by decide +kernel
theorem dL_law_1133 : decode cL_law 1133 = .ok (.aload_n 3, 1) := by decide +kernel
theorem dL_law_1134 : decode cL_law 1134 = .ok (.invokestatic 130, 3) := by decide +kernel
theorem dL_law_1137 : decode cL_law 1137 = .ok (.istore 5, 2) := by decide +kernel
theorem dL_law_1139 : decode cL_law 1139 = .ok (.aload_n 2, 1) := by decide +kernel
theorem dL_law_1140 : decode cL_law 1140 = .ok (.aload_n 0, 1) := by decide +kernel
theorem dL_law_1141 : decode cL_law 1141 = .ok (.iload 4, 2) := by decide +kernel
theorem dL_law_1143 : decode cL_law 1143 = .ok (.iconst 1, 1) := by decide +kernel
theorem dL_law_1144 : decode cL_law 1144 = .ok (.iadd, 1) := by decide +kernel
theorem dL_law_1145 : decode cL_law 1145 = .ok (.iaload, 1) := by decide +kernel
theorem dL_law_1146 : decode cL_law 1146 = .ok (.aload_n 0, 1) := by decide +kernel
theorem dL_law_1147 : decode cL_law 1147 = .ok (.iload 4, 2) := by decide +kernel
theorem dL_law_1149 : decode cL_law 1149 = .ok (.iconst 2, 1) := by decide +kernel
theorem dL_law_1150 : decode cL_law 1150 = .ok (.iadd, 1) := by decide +kernel
theorem dL_law_1151 : decode cL_law 1151 = .ok (.iaload, 1) := by decide +kernel
theorem dL_law_1152 : decode cL_law 1152 = .ok (.invokevirtual 132, 3) := by decide +kernel
theorem dL_law_1155 : decode cL_law 1155 = .ok (.istore 6, 2) := by decide +kernel
theorem dL_law_1157 : decode cL_law 1157 = .ok (.aload_n 2, 1) := by decide +kernel
theorem dL_law_1158 : decode cL_law 1158 = .ok (.invokevirtual 79, 3) := by decide +kernel
theorem dL_law_1161 : decode cL_law 1161 = .ok (.iload 5, 2) := by decide +kernel
theorem dL_law_1163 : decode cL_law 1163 = .ok (.if_icmp .eq 5, 3) := by decide +kernel
theorem dL_law_1166 : decode cL_law 1166 = .ok (.iconst 0, 1) := by decide +kernel
theorem dL_law_1167 : decode cL_law 1167 = .ok (.ireturn, 1) := by decide +kernel
theorem dL_law_1168 : decode cL_law 1168 = .ok (.iload 5, 2) := by decide +kernel
theorem dL_law_1170 : decode cL_law 1170 = .ok (.ifCond .ne 15, 3) := by decide +kernel
theorem dL_law_1173 : decode cL_law 1173 = .ok (.aload_n 3, 1) := by decide +kernel
theorem dL_law_1174 : decode cL_law 1174 = .ok (.iconst 0, 1) := by decide +kernel
theorem dL_law_1175 : decode cL_law 1175 = .ok (.laload, 1) := by decide +kernel
theorem dL_law_1176 : decode cL_law 1176 = .ok (.iload 6, 2) := by decide +kernel
theorem dL_law_1178 : decode cL_law 1178 = .ok (.i2l, 1) := by decide +kernel
theorem dL_law_1179 : decode cL_law 1179 = .ok (.lcmp, 1) := by decide +kernel
theorem dL_law_1180 : decode cL_law 1180 = .ok (.ifCond .eq 5, 3) := by decide +kernel
theorem dL_law_1183 : decode cL_law 1183 = .ok (.iconst 0, 1) := by decide +kernel
theorem dL_law_1184 : decode cL_law 1184 = .ok (.ireturn, 1) := by decide +kernel
theorem dL_law_1185 : decode cL_law 1185 = .ok (.goto 58, 3) := by decide +kernel
theorem dL_law_1188 : decode cL_law 1188 = .ok (.aload_n 1, 1) := by decide +kernel
theorem dL_law_1189 : decode cL_law 1189 = .ok (.invokevirtual 133, 3) := by decide +kernel
theorem dL_law_1192 : decode cL_law 1192 = .ok (.dstore 5, 2) := by decide +kernel
theorem dL_law_1194 : decode cL_law 1194 = .ok (.aload_n 2, 1) := by decide +kernel
theorem dL_law_1195 : decode cL_law 1195 = .ok (.invokevirtual 137, 3) := by decide +kernel
theorem dL_law_1198 : decode cL_law 1198 = .ok (.dstore 7, 2) := by decide +kernel
theorem dL_law_1200 : decode cL_law 1200 = .ok (.dload 5, 2) := by decide +kernel
theorem dL_law_1202 : decode cL_law 1202 = .ok (.dload 7, 2) := by decide +kernel
theorem dL_law_1204 : decode cL_law 1204 = .ok (.dcmp .l, 1) := by decide +kernel
theorem dL_law_1205 : decode cL_law 1205 = .ok (.ifCond .eq 21, 3) := by decide +kernel
theorem dL_law_1208 : decode cL_law 1208 = .ok (.dload 5, 2) := by decide +kernel
theorem dL_law_1210 : decode cL_law 1210 = .ok (.dload 5, 2) := by decide +kernel
theorem dL_law_1212 : decode cL_law 1212 = .ok (.dcmp .l, 1) := by decide +kernel
theorem dL_law_1213 : decode cL_law 1213 = .ok (.ifCond .eq 11, 3) := by decide +kernel
theorem dL_law_1216 : decode cL_law 1216 = .ok (.dload 7, 2) := by decide +kernel
theorem dL_law_1218 : decode cL_law 1218 = .ok (.dload 7, 2) := by decide +kernel
theorem dL_law_1220 : decode cL_law 1220 = .ok (.dcmp .l, 1) := by decide +kernel
theorem dL_law_1221 : decode cL_law 1221 = .ok (.ifCond .ne 5, 3) := by decide +kernel
theorem dL_law_1224 : decode cL_law 1224 = .ok (.iconst 0, 1) := by decide +kernel
theorem dL_law_1225 : decode cL_law 1225 = .ok (.ireturn, 1) := by decide +kernel
theorem dL_law_1226 : decode cL_law 1226 = .ok (.goto 17, 3) := by decide +kernel
theorem dL_law_1229 : decode cL_law 1229 = .ok (.aload_n 1, 1) := by decide +kernel
theorem dL_law_1230 : decode cL_law 1230 = .ok (.invokevirtual 138, 3) := by decide +kernel
theorem dL_law_1233 : decode cL_law 1233 = .ok (.aload_n 2, 1) := by decide +kernel
theorem dL_law_1234 : decode cL_law 1234 = .ok (.invokevirtual 142, 3) := by decide +kernel
theorem dL_law_1237 : decode cL_law 1237 = .ok (.lcmp, 1) := by decide +kernel
theorem dL_law_1238 : decode cL_law 1238 = .ok (.ifCond .eq 5, 3) := by decide +kernel
theorem dL_law_1241 : decode cL_law 1241 = .ok (.iconst 0, 1) := by decide +kernel
theorem dL_law_1242 : decode cL_law 1242 = .ok (.ireturn, 1) := by decide +kernel
theorem dL_law_1243 : decode cL_law 1243 = .ok (.iinc 4 4, 3) := by decide +kernel
theorem dL_law_1246 : decode cL_law 1246 = .ok (.goto (-1223), 3) := by decide +kernel
theorem dL_law_1249 : decode cL_law 1249 = .ok (.iconst 1, 1) := by decide +kernel
theorem dL_law_1250 : decode cL_law 1250 = .ok (.ireturn, 1) := by decide +kernel
abbrev vwCl : List vw_C := [(RX0, TX0, 6), (RX1, TX1, 10), (RX2, TX2, 1), (RX3, TX3, 7), (RX4, TX4, 2), (RX5, TX5, 14)]
/-! ===== END printed: names (the pools that follow in the printed text are left out) ===== -/
end
section
theorem zz_first : True := trivial
end
