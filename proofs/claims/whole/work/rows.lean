section
-- ===== PART A: goes FIRST, ahead of the names: the tables' words, and 'selects' of the private methods out of them =====
/-- a private method of a class that the tables say can be made, by its rows of tables_1 -/
def lw_okq (q : MethodName × Nat) : Prop := (q.1.cls ≠ "java/lang/invoke/MethodHandle" ∧ q.1.cls ≠ "java/lang/invoke/VarHandle") ∧ Cond.instantiable q.1.cls q.2 ∈ tables_1 ∧ Cond.privateMethod q.1 ∈ tables_1 ∧ Cond.instanceMethod q.1 ∈ tables_1
theorem lw_p0 : lw_okq (⟨"BackwardSearch$Ends", "findBorders", "(LBackwardSearch$Row;)V"⟩, 3) := ⟨⟨by decide +kernel, by decide +kernel⟩, List.mem_of_getElem? (i := 77) (by decide +kernel), List.mem_of_getElem? (i := 190) (by decide +kernel), List.mem_of_getElem? (i := 191) (by decide +kernel)⟩
theorem lw_p1 : lw_okq (⟨"BackwardSearch$Ends", "borderThatGrows", "(LBackwardSearch$Row;II)I"⟩, 3) := ⟨⟨by decide +kernel, by decide +kernel⟩, List.mem_of_getElem? (i := 77) (by decide +kernel), List.mem_of_getElem? (i := 194) (by decide +kernel), List.mem_of_getElem? (i := 195) (by decide +kernel)⟩
theorem lw_p2 : lw_okq (⟨"BackwardSearch$Ends", "skipToBordersOfTheWord", "()V"⟩, 3) := ⟨⟨by decide +kernel, by decide +kernel⟩, List.mem_of_getElem? (i := 77) (by decide +kernel), List.mem_of_getElem? (i := 206) (by decide +kernel), List.mem_of_getElem? (i := 207) (by decide +kernel)⟩
theorem lw_p3 : lw_okq (⟨"BackwardSearch$State", "skipBehind", "(ILBackwardSearch$Ends;)I"⟩, 8) := ⟨⟨by decide +kernel, by decide +kernel⟩, List.mem_of_getElem? (i := 23) (by decide +kernel), List.mem_of_getElem? (i := 237) (by decide +kernel), List.mem_of_getElem? (i := 238) (by decide +kernel)⟩
theorem lw_p4 : lw_okq (⟨"BackwardSearch", "tryToTheEnd", "(ZZ)V"⟩, 7) := ⟨⟨by decide +kernel, by decide +kernel⟩, List.mem_of_getElem? (i := 15) (by decide +kernel), List.mem_of_getElem? (i := 311) (by decide +kernel), List.mem_of_getElem? (i := 312) (by decide +kernel)⟩
theorem lw_p5 : lw_okq (⟨"BackwardSearch", "wordStandsAt", "(I)Z"⟩, 7) := ⟨⟨by decide +kernel, by decide +kernel⟩, List.mem_of_getElem? (i := 15) (by decide +kernel), List.mem_of_getElem? (i := 321) (by decide +kernel), List.mem_of_getElem? (i := 322) (by decide +kernel)⟩
theorem lw_p6 : lw_okq (⟨"BackwardSearch", "refuseTextUnlessLetters", "(I)V"⟩, 7) := ⟨⟨by decide +kernel, by decide +kernel⟩, List.mem_of_getElem? (i := 15) (by decide +kernel), List.mem_of_getElem? (i := 359) (by decide +kernel), List.mem_of_getElem? (i := 360) (by decide +kernel)⟩
theorem lw_p7 : lw_okq (⟨"java/lang/Throwable", "fillInStackTrace", "(I)Ljava/lang/Throwable;"⟩, 6) := ⟨⟨by decide +kernel, by decide +kernel⟩, List.mem_of_getElem? (i := 402) (by decide +kernel), List.mem_of_getElem? (i := 400) (by decide +kernel), List.mem_of_getElem? (i := 401) (by decide +kernel)⟩
theorem lw_p8 : lw_okq (⟨"BackwardSearch", "moveText", "(LBackwardSearch$Row;)V"⟩, 7) := ⟨⟨by decide +kernel, by decide +kernel⟩, List.mem_of_getElem? (i := 15) (by decide +kernel), List.mem_of_getElem? (i := 433) (by decide +kernel), List.mem_of_getElem? (i := 434) (by decide +kernel)⟩
theorem lw_p9 : lw_okq (⟨"BackwardSearchModel", "canTake", "(I)Z"⟩, 8) := ⟨⟨by decide +kernel, by decide +kernel⟩, List.mem_of_getElem? (i := 622) (by decide +kernel), List.mem_of_getElem? (i := 661) (by decide +kernel), List.mem_of_getElem? (i := 662) (by decide +kernel)⟩
theorem lw_p10 : lw_okq (⟨"BackwardSearchModel", "errorOfText", "()I"⟩, 8) := ⟨⟨by decide +kernel, by decide +kernel⟩, List.mem_of_getElem? (i := 622) (by decide +kernel), List.mem_of_getElem? (i := 665) (by decide +kernel), List.mem_of_getElem? (i := 666) (by decide +kernel)⟩
theorem lw_p11 : lw_okq (⟨"BackwardSearchModel", "fails", "(I)I"⟩, 8) := ⟨⟨by decide +kernel, by decide +kernel⟩, List.mem_of_getElem? (i := 622) (by decide +kernel), List.mem_of_getElem? (i := 674) (by decide +kernel), List.mem_of_getElem? (i := 675) (by decide +kernel)⟩
theorem lw_p12 : lw_okq (⟨"BackwardSearchModel", "changes", "()V"⟩, 8) := ⟨⟨by decide +kernel, by decide +kernel⟩, List.mem_of_getElem? (i := 622) (by decide +kernel), List.mem_of_getElem? (i := 678) (by decide +kernel), List.mem_of_getElem? (i := 679) (by decide +kernel)⟩
theorem lw_p13 : lw_okq (⟨"BackwardSearchModel", "takes", "(II)I"⟩, 8) := ⟨⟨by decide +kernel, by decide +kernel⟩, List.mem_of_getElem? (i := 622) (by decide +kernel), List.mem_of_getElem? (i := 682) (by decide +kernel), List.mem_of_getElem? (i := 683) (by decide +kernel)⟩
theorem lw_p14 : lw_okq (⟨"BackwardSearchModel", "begins", "()V"⟩, 8) := ⟨⟨by decide +kernel, by decide +kernel⟩, List.mem_of_getElem? (i := 622) (by decide +kernel), List.mem_of_getElem? (i := 686) (by decide +kernel), List.mem_of_getElem? (i := 687) (by decide +kernel)⟩
theorem lw_p15 : lw_okq (⟨"BackwardSearchModel", "isOverAt", "(I)Z"⟩, 8) := ⟨⟨by decide +kernel, by decide +kernel⟩, List.mem_of_getElem? (i := 622) (by decide +kernel), List.mem_of_getElem? (i := 702) (by decide +kernel), List.mem_of_getElem? (i := 703) (by decide +kernel)⟩
def lw_privs_1 : List (MethodName × Nat) := [(⟨"BackwardSearch$Ends", "findBorders", "(LBackwardSearch$Row;)V"⟩, 3), (⟨"BackwardSearch$Ends", "borderThatGrows", "(LBackwardSearch$Row;II)I"⟩, 3), (⟨"BackwardSearch$Ends", "skipToBordersOfTheWord", "()V"⟩, 3), (⟨"BackwardSearch$State", "skipBehind", "(ILBackwardSearch$Ends;)I"⟩, 8), (⟨"BackwardSearch", "tryToTheEnd", "(ZZ)V"⟩, 7), (⟨"BackwardSearch", "wordStandsAt", "(I)Z"⟩, 7), (⟨"BackwardSearch", "refuseTextUnlessLetters", "(I)V"⟩, 7), (⟨"java/lang/Throwable", "fillInStackTrace", "(I)Ljava/lang/Throwable;"⟩, 6), (⟨"BackwardSearch", "moveText", "(LBackwardSearch$Row;)V"⟩, 7), (⟨"BackwardSearchModel", "canTake", "(I)Z"⟩, 8), (⟨"BackwardSearchModel", "errorOfText", "()I"⟩, 8), (⟨"BackwardSearchModel", "fails", "(I)I"⟩, 8), (⟨"BackwardSearchModel", "changes", "()V"⟩, 8), (⟨"BackwardSearchModel", "takes", "(II)I"⟩, 8), (⟨"BackwardSearchModel", "begins", "()V"⟩, 8), (⟨"BackwardSearchModel", "isOverAt", "(I)Z"⟩, 8)]
theorem lw_r1 : ∀ q ∈ lw_privs_1, lw_okq q := List.forall_mem_cons.mpr ⟨lw_p0, List.forall_mem_cons.mpr ⟨lw_p1, List.forall_mem_cons.mpr ⟨lw_p2, List.forall_mem_cons.mpr ⟨lw_p3, List.forall_mem_cons.mpr ⟨lw_p4, List.forall_mem_cons.mpr ⟨lw_p5, List.forall_mem_cons.mpr ⟨lw_p6, List.forall_mem_cons.mpr ⟨lw_p7, List.forall_mem_cons.mpr ⟨lw_p8, List.forall_mem_cons.mpr ⟨lw_p9, List.forall_mem_cons.mpr ⟨lw_p10, List.forall_mem_cons.mpr ⟨lw_p11, List.forall_mem_cons.mpr ⟨lw_p12, List.forall_mem_cons.mpr ⟨lw_p13, List.forall_mem_cons.mpr ⟨lw_p14, List.forall_mem_cons.mpr ⟨lw_p15, fun _ h => absurd h List.not_mem_nil⟩⟩⟩⟩⟩⟩⟩⟩⟩⟩⟩⟩⟩⟩⟩⟩
theorem lw_p16 : lw_okq (⟨"BackwardSearchModel", "looks", "()I"⟩, 8) := ⟨⟨by decide +kernel, by decide +kernel⟩, List.mem_of_getElem? (i := 622) (by decide +kernel), List.mem_of_getElem? (i := 706) (by decide +kernel), List.mem_of_getElem? (i := 707) (by decide +kernel)⟩
theorem lw_p17 : lw_okq (⟨"BackwardSearchModel", "difference", "(I)I"⟩, 8) := ⟨⟨by decide +kernel, by decide +kernel⟩, List.mem_of_getElem? (i := 622) (by decide +kernel), List.mem_of_getElem? (i := 710) (by decide +kernel), List.mem_of_getElem? (i := 711) (by decide +kernel)⟩
theorem lw_p18 : lw_okq (⟨"BackwardSearchModel", "skipBy", "(IIZZ)I"⟩, 8) := ⟨⟨by decide +kernel, by decide +kernel⟩, List.mem_of_getElem? (i := 622) (by decide +kernel), List.mem_of_getElem? (i := 714) (by decide +kernel), List.mem_of_getElem? (i := 715) (by decide +kernel)⟩
theorem lw_p19 : lw_okq (⟨"BackwardSearchModel", "periodNow", "()I"⟩, 8) := ⟨⟨by decide +kernel, by decide +kernel⟩, List.mem_of_getElem? (i := 622) (by decide +kernel), List.mem_of_getElem? (i := 718) (by decide +kernel), List.mem_of_getElem? (i := 719) (by decide +kernel)⟩
theorem lw_p20 : lw_okq (⟨"BackwardSearchModel", "lastOf", "(I)I"⟩, 8) := ⟨⟨by decide +kernel, by decide +kernel⟩, List.mem_of_getElem? (i := 622) (by decide +kernel), List.mem_of_getElem? (i := 722) (by decide +kernel), List.mem_of_getElem? (i := 723) (by decide +kernel)⟩
theorem lw_p21 : lw_okq (⟨"BackwardSearchModel", "endSkipOf", "(I)I"⟩, 8) := ⟨⟨by decide +kernel, by decide +kernel⟩, List.mem_of_getElem? (i := 622) (by decide +kernel), List.mem_of_getElem? (i := 726) (by decide +kernel), List.mem_of_getElem? (i := 727) (by decide +kernel)⟩
theorem lw_p22 : lw_okq (⟨"BackwardSearchModel", "fits", "(II)Z"⟩, 8) := ⟨⟨by decide +kernel, by decide +kernel⟩, List.mem_of_getElem? (i := 622) (by decide +kernel), List.mem_of_getElem? (i := 730) (by decide +kernel), List.mem_of_getElem? (i := 731) (by decide +kernel)⟩
theorem lw_p23 : lw_okq (⟨"BackwardSearchModel", "isInLine", "(I)Z"⟩, 8) := ⟨⟨by decide +kernel, by decide +kernel⟩, List.mem_of_getElem? (i := 622) (by decide +kernel), List.mem_of_getElem? (i := 746) (by decide +kernel), List.mem_of_getElem? (i := 747) (by decide +kernel)⟩
theorem lw_p24 : lw_okq (⟨"BackwardSearchModel", "told", "(I)I"⟩, 8) := ⟨⟨by decide +kernel, by decide +kernel⟩, List.mem_of_getElem? (i := 622) (by decide +kernel), List.mem_of_getElem? (i := 758) (by decide +kernel), List.mem_of_getElem? (i := 759) (by decide +kernel)⟩
theorem lw_p25 : lw_okq (⟨"BackwardSearchModel", "isInWord", "(I)Z"⟩, 8) := ⟨⟨by decide +kernel, by decide +kernel⟩, List.mem_of_getElem? (i := 622) (by decide +kernel), List.mem_of_getElem? (i := 774) (by decide +kernel), List.mem_of_getElem? (i := 775) (by decide +kernel)⟩
theorem lw_p26 : lw_okq (⟨"BackwardSearchModel", "stands", "()I"⟩, 8) := ⟨⟨by decide +kernel, by decide +kernel⟩, List.mem_of_getElem? (i := 622) (by decide +kernel), List.mem_of_getElem? (i := 834) (by decide +kernel), List.mem_of_getElem? (i := 835) (by decide +kernel)⟩
def lw_privs_2 : List (MethodName × Nat) := [(⟨"BackwardSearchModel", "looks", "()I"⟩, 8), (⟨"BackwardSearchModel", "difference", "(I)I"⟩, 8), (⟨"BackwardSearchModel", "skipBy", "(IIZZ)I"⟩, 8), (⟨"BackwardSearchModel", "periodNow", "()I"⟩, 8), (⟨"BackwardSearchModel", "lastOf", "(I)I"⟩, 8), (⟨"BackwardSearchModel", "endSkipOf", "(I)I"⟩, 8), (⟨"BackwardSearchModel", "fits", "(II)Z"⟩, 8), (⟨"BackwardSearchModel", "isInLine", "(I)Z"⟩, 8), (⟨"BackwardSearchModel", "told", "(I)I"⟩, 8), (⟨"BackwardSearchModel", "isInWord", "(I)Z"⟩, 8), (⟨"BackwardSearchModel", "stands", "()I"⟩, 8)]
theorem lw_r2 : ∀ q ∈ lw_privs_2, lw_okq q := List.forall_mem_cons.mpr ⟨lw_p16, List.forall_mem_cons.mpr ⟨lw_p17, List.forall_mem_cons.mpr ⟨lw_p18, List.forall_mem_cons.mpr ⟨lw_p19, List.forall_mem_cons.mpr ⟨lw_p20, List.forall_mem_cons.mpr ⟨lw_p21, List.forall_mem_cons.mpr ⟨lw_p22, List.forall_mem_cons.mpr ⟨lw_p23, List.forall_mem_cons.mpr ⟨lw_p24, List.forall_mem_cons.mpr ⟨lw_p25, List.forall_mem_cons.mpr ⟨lw_p26, fun _ h => absurd h List.not_mem_nil⟩⟩⟩⟩⟩⟩⟩⟩⟩⟩⟩
def lw_privs : List (MethodName × Nat) := lw_privs_1 ++ (lw_privs_2)
def lw_tbl : List Cond := k2_sels lw_privs ++ tables_1
theorem lw_privs_ok : ∀ q ∈ lw_privs, lw_okq q := by
  show ∀ q ∈ lw_privs_1 ++ (lw_privs_2), lw_okq q
  exact List.forall_mem_append.mpr ⟨lw_r1, lw_r2⟩
-- ===== end of PART A; then your names; then what follows =====
end
section
/-! ===== BEGIN words of one list among another's, by their places ===== -/
theorem goodIn_r {big : List Cond} (ws : List Cond) (ps : List Nat) (hp : ws = ps.filterMap (fun i => big[i]?)) (h : ws.all goodWord = true) : GoodIn big ws := by
  intro w hw
  have h1 := List.all_eq_true.mp h w hw
  rw [hp] at hw
  obtain ⟨i, -, hi⟩ := List.mem_filterMap.mp hw
  have hm : w ∈ big := by first | exact List.mem_of_getElem? hi | exact List.getElem?_mem hi
  exact ⟨hm, good_of_word h1⟩
theorem goodIn_app {big a b : List Cond} (ha : GoodIn big a) (hb : GoodIn big b) : GoodIn big (a ++ b) := fun w h => (List.mem_append.mp h).elim (ha w) (hb w)
theorem goodIn_ca {big a b : List Cond} {c : Cond} (ha : GoodIn big (c :: a)) (hb : GoodIn big b) : GoodIn big (c :: (a ++ b)) := fun w h => (List.mem_cons.mp h).elim (fun e => ha w (List.mem_cons.mpr (Or.inl e))) (fun h => (List.mem_append.mp h).elim (fun h => ha w (List.mem_cons.mpr (Or.inr h))) (hb w))
theorem goodIn_sub {big ws : List Cond} (hm : ∀ w ∈ ws, w ∈ big) (h : ws.all goodWord = true) : GoodIn big ws := fun w hw => ⟨hm w hw, good_of_word (List.all_eq_true.mp h w hw)⟩
/-! ===== END ===== -/

/-! ===== BEGIN exceptions that leave a method, and their catching by the caller (launches without stack traces) ===== -/
section VXA
/-! The laws vx_back, vx_callV, vx_callS, vx_callSW, vx_throw0, vx_throwS follow proofs of the library, with one case more: JvmDerived/Free/Laws.lean (Back.of_free), Shelf42/LK1.lean (callV, callS), Shelf/KitTraced.lean (throwNew0V, throwNewS). -/
/-- where a method has thrown q: the class by its name, the cell, what was written, the world -/
def vx_T (XC : String → State → State → Prop) (st : State) (q : Addr) (t : State) (mc ms : Nat) (free : Addr → Prop) : Prop :=
  ∃ (E : String) (ce : Cell) (L : List Loc), XC E st t ∧ t.heap[q]? = some ce ∧ ce.vm = .none ∧ st.vm.findClass E = some ce.cls ∧ st.WarmedH t.vm ∧ st.sameButNew ({ t with vm := st.vm } : State) L mc ms ∧ ∀ z ∈ L, free z.base
def vx_Q (Qc : Array Value → State → Outcome → State → Prop) (XC : String → State → State → Prop) (mc ms : Nat) (free : Addr → Prop) : Array Value → State → Outcome → State → Prop := fun a st o t =>
  (Qc a st o t ∧ ∃ L, FrameEnd st o t L mc ms ∧ ∀ q ∈ L, free q.base) ∨ ∃ q, o = .threw q ∧ vx_T XC st q t mc ms free
/-- a callee that returns or throws -/
def vx_Met (l : Launch) (y : MethodName) (ws : List Cond) (rm : Room) (Pc : Array Value → State → Prop) (Qc : Array Value → State → Outcome → State → Prop) (XC : String → State → State → Prop) (mc ms : Nat) (free : Addr → Prop) : Prop :=
  MetFree l y (headSpec ws rm) Pc (fun _ _ _ _ _ => True) (vx_Q Qc XC mc ms free)
def vx_Post (XC : String → State → State → Prop) (mc ms : Nat) (free : Addr → Prop) : Pt → Array Value → Addr → Pt → Prop := fun A a q B =>
  ∃ (g : JFrame) (mk : MethodId) (t : State) (L : List Loc) (E : String) (ce : Cell), B.U.heap = t.heap ∧ B.U.vm = t.vm ∧ XC E (A.U.calling g mk a) t ∧ t.heap[q]? = some ce ∧ ce.vm = .none ∧ A.U.vm.findClass E = some ce.cls ∧ B.locs = A.locs ++ L ∧ (∀ z ∈ L, free z.base) ∧ B.cells = A.cells + mc ∧ B.slots = A.slots + ms
def vx_Back (l : Launch) (R : Room) (p : Program) (e : Env) (below : List Frame) (s : State) (sargs : Array Value) (y : MethodName) (len W9 : Nat)
    (Pre : Pt → Array Value → Prop) (Post : Pt → Array Value → Option Value → Pt → Prop) (PostX : Pt → Array Value → Addr → Pt → Prop) : Prop :=
  ∀ (m : MethodId) (meth : Method) (c : Code) (A : Pt) (g : JFrame) (ig : Instr) (mk : MethodId) (a : Array Value),
    Stand p l e R s m sargs below meth c A.U A.locs A.cells A.slots → g.method = m → g.locals.size = c.maxLocals → decode c.code g.pc = .ok (ig, len) →
    2 * g.monitorRoom + (g.stack.map fun v => v.category).sum ≤ W9 → A.U.methodNamed? y = some mk → Pre A a →
    (∃ (v : Option Value) (B : Pt), Stand p l e R s m sargs below meth c B.U B.locs B.cells B.slots ∧ Post A a v B ∧
      Steps p.tables e below (doInvoke e (A.U.setTop g) [] mk a).1 (B.U.setTop { g with pc := g.pc + len, stack := v.toList ++ g.stack })) ∨
    (∃ (q : Addr) (B : Pt), Stand p l e R s m sargs below meth c B.U B.locs B.cells B.slots ∧ PostX A a q B ∧
      Steps p.tables e below (doInvoke e (A.U.setTop g) [] mk a).1 ((B.U.setTop g).pushFrame (.throwing q)))
section Payer
variable {l : Launch} {R : Room} {p : Program} {e : Env} {below : List Frame} {s : State} {sargs : Array Value} {y : MethodName} {len W9 : Nat}
theorem vx_back {ws : List Cond} {rm : Room} {Pc : Array Value → State → Prop} {Qc : Array Value → State → Outcome → State → Prop} {XC : String → State → State → Prop} {mc ms : Nat} {free : Addr → Prop} {bytes : ByteArray} {maxL : Nat} {ret : Option FieldType}
    (hM : vx_Met l y ws rm Pc Qc XC mc ms free) (hblind : FrameBlind Pc) (hrc : rm.cells = mc) (hrs : rm.slots = ms)
    (hframes : rm.frames + 1 ≤ R.frames) (hlocals : W9 + (maxL + 11) + rm.locals ≤ R.locals)
    (hws : ∀ w ∈ ws, ∀ a' U, s.WarmedH U.vm → w.before a' U = true) (hcode : Cond.code y bytes maxL ret ∈ ws) (hinit : ∀ a' U, s.WarmedH U.vm → (Cond.initialized y.cls).before a' U = true) :
    vx_Back l R p e below s sargs y len W9 (PreOf R mc ms Pc) (PostOf Qc mc ms free) (vx_Post XC mc ms free) := by
  intro m meth c A g ig mk a X hg hsize hdg hW hn hp
  have h1 : (headSpec ws rm).pre.before a A.U = true := atoms_intro fun w hw => hws w hw _ _ X.warmed
  have h2 : (Cond.code y bytes maxL ret).before a A.U = true := hws _ hcode _ _ X.warmed
  have h3 : (Cond.initialized y.cls).before a A.U = true := hinit _ _ X.warmed
  have h4 : A.cells + (headSpec ws rm).room.cells ≤ R.cells := by rw [show (headSpec ws rm).room.cells = mc from hrc]; exact hp.1
  have h5 : A.slots + (headSpec ws rm).room.slots ≤ R.slots := by rw [show (headSpec ws rm).room.slots = ms from hrs]; exact hp.2.1
  have hPc : Pc a (A.U.calling g mk a) := hblind _ _ _ _ hp.2.2
  obtain ⟨U, Ls, c0, s0⟩ := A
  dsimp only [Pt.U, Pt.locs, Pt.cells, Pt.slots] at h1 h2 h3 h4 h5 X hn hPc ⊢
  obtain ⟨methY, cY, hmY, hcY, -, hlY, -, -, -, -⟩ := Cond.code_spec hn h2
  obtain ⟨kY, hkY, -⟩ := className_of_methodNamed hn
  have hinitY : kY.init = .initialized := Cond.initialized_spec (findClass_of_methodNamed hn) hkY h3
  have h : At U g.method c below := by rw [hg]; exact X.here
  have hlocals9 : W9 + (maxL + 11) + (headSpec ws rm).room.locals ≤ R.locals := hlocals
  have happ : (headSpec ws rm).appliesLoose y e.platform (U.calling g mk a) = true :=
    Spec.appliesLoose_calling (g := g) h hdg hn hkY hinitY
      (X.room_calling (g := g) (R' := (headSpec ws rm).room) hsize hmY hcY hframes (by rw [hlY]; omega) h4 h5) h1
  obtain ⟨mid, hmid⟩ := h.above
  have hfr : (U.setTop g).frames = (.java g :: mid) ++ below := by rw [State.frames_setTop' g h.top, hmid]; rfl
  obtain ⟨o, s₂, hsteps, -, hend, hq⟩ := Steps.callFree hM p X.admits X.cas X.clock (acts := []) hfr happ hPc trivial
  have hq' : vx_Q Qc XC mc ms free a (U.calling g mk a) o s₂ := hq
  rw [State.frames_setTop' g h.top] at hend
  obtain ⟨g₀, hg0⟩ := Option.isSome_iff_exists.mp h.top
  obtain ⟨r, hr⟩ := State.topJava?_eq_some.mp hg0
  have hr' : (({ U with heap := s₂.heap, slotsUsed := s₂.slotsUsed } : State).setVm s₂.vm).frames = .java g₀ :: r := hr
  rcases hq' with ⟨hqc, L, hfe, hL⟩ | ⟨q, rfl, E, ce, L, hx, hce, hcv, hcl, hW₂, hsm, hL⟩
  · obtain ⟨⟨v, rfl⟩, hW₂, e2, q2, q3, q4, q5, q6⟩ := id hfe
    have e3 : s₂ = ({ (U.calling g mk a).setFrames s₂.frames with heap := s₂.heap, slotsUsed := s₂.slotsUsed } : State).setVm s₂.vm := by
      have : s₂ = ({ s₂ with vm := (U.calling g mk a).vm } : State).setVm s₂.vm := rfl
      rw [e2] at this
      exact this
    obtain ⟨c₂, i₂, len₂, hc₂, hd₂, hf₂⟩ := hend
    have hW' : U.WarmedH s₂.vm := hW₂
    have hcc : c₂ = c := by
      have h1 : s₂.code? g.method = U.code? g.method := by
        rw [State.code?_eq, State.code?_eq, hW'.alike.method?]
      exact Option.some.inj (hc₂.symm.trans (h1.trans h.code))
    subst hcc
    have hlen : len₂ = len := by rw [hdg] at hd₂; cases hd₂; rfl
    subst hlen
    have hs₂ : s₂ = (({ U with heap := s₂.heap, slotsUsed := s₂.slotsUsed } : State).setVm s₂.vm).setTop { g with pc := g.pc + len₂, stack := v.toList ++ g.stack } := by
      refine e3.trans ?_
      rw [hf₂, State.calling_eq h.top, State.setFrames_setFrames, State.setTop_of_frames _ hr', hr]
      rfl
    have hsame : U.sameButNew ({ U with heap := s₂.heap, slotsUsed := s₂.slotsUsed } : State) L mc ms := by
      refine ⟨?_, q2, q3, q4, q5, q6⟩
      obtain ⟨t, ht, -⟩ := State.frames_cons hr
      show ({ U with heap := s₂.heap, slotsUsed := s₂.slotsUsed } : State) = { U.setFrames U.frames with heap := s₂.heap, slotsUsed := s₂.slotsUsed }
      rw [State.setFrames_self ht]
    subst hg
    refine Or.inl ⟨v, ⟨(({ U with heap := s₂.heap, slotsUsed := s₂.slotsUsed } : State).setVm s₂.vm), Ls ++ L, c0 + mc, s0 + ms⟩,
      ⟨X.admits, X.cas, X.clock, X.frames, X.room, X.hears, X.method, X.code, (X.here.setHeapUsed s₂.heap s₂.slotsUsed).setVm hW'.alike, X.tail, State.WarmedH.trans X.warmed hW', X.limits, X.bytes, X.same.trans (hsame.setVm s.vm)⟩,
      ⟨g, mk, s₂, L, rfl, rfl, hqc, rfl, hL, rfl, rfl⟩, ?_⟩
    show Steps p.tables e below _ ((({ U with heap := s₂.heap, slotsUsed := s₂.slotsUsed } : State).setVm s₂.vm).setTop { g with pc := g.pc + len₂, stack := v.toList ++ g.stack })
    rw [← hs₂]
    exact hsteps
  · obtain ⟨e2, q2, q3, q4, q5, q6⟩ := id hsm
    have e3 : s₂ = ({ (U.calling g mk a).setFrames s₂.frames with heap := s₂.heap, slotsUsed := s₂.slotsUsed } : State).setVm s₂.vm := by
      have : s₂ = ({ s₂ with vm := (U.calling g mk a).vm } : State).setVm s₂.vm := rfl
      rw [e2] at this
      exact this
    have hf₂ : s₂.frames = .throwing q :: .java g :: U.frames.tail := hend
    have hW' : U.WarmedH s₂.vm := hW₂
    have hs₂ : s₂ = ((({ U with heap := s₂.heap, slotsUsed := s₂.slotsUsed } : State).setVm s₂.vm).setTop g).pushFrame (.throwing q) := by
      refine e3.trans ?_
      rw [hf₂, State.calling_eq h.top, State.setFrames_setFrames, State.pushFrame, State.frames_setTop _ hr', State.setTop_of_frames _ hr', State.setFrames_setFrames, hr]
      rfl
    have hsame : U.sameButNew ({ U with heap := s₂.heap, slotsUsed := s₂.slotsUsed } : State) L mc ms := by
      refine ⟨?_, q2, q3, q4, q5, q6⟩
      obtain ⟨t, ht, -⟩ := State.frames_cons hr
      show ({ U with heap := s₂.heap, slotsUsed := s₂.slotsUsed } : State) = { U.setFrames U.frames with heap := s₂.heap, slotsUsed := s₂.slotsUsed }
      rw [State.setFrames_self ht]
    subst hg
    refine Or.inr ⟨q, ⟨(({ U with heap := s₂.heap, slotsUsed := s₂.slotsUsed } : State).setVm s₂.vm), Ls ++ L, c0 + mc, s0 + ms⟩,
      ⟨X.admits, X.cas, X.clock, X.frames, X.room, X.hears, X.method, X.code, (X.here.setHeapUsed s₂.heap s₂.slotsUsed).setVm hW'.alike, X.tail, State.WarmedH.trans X.warmed hW', X.limits, X.bytes, X.same.trans (hsame.setVm s.vm)⟩,
      ⟨g, mk, s₂, L, E, ce, rfl, rfl, hx, hce, hcv, hcl, rfl, hL, rfl, rfl⟩, ?_⟩
    show Steps p.tables e below _ (((({ U with heap := s₂.heap, slotsUsed := s₂.slotsUsed } : State).setVm s₂.vm).setTop g).pushFrame (.throwing q))
    rw [← hs₂]
    exact hsteps
end Payer
section Calls
variable {p : Program} {l : Launch} {e : Env} {R : Room} {s : State} {m : MethodId} {args : Array Value} {below : List Frame} {meth : Method} {c : Code} {T : State} {locs : List Loc} {cells slots : Nat}
theorem vx_callV (X : Stand p l e R s m args below meth c T locs cells slots) (hexec : p.tables.exec = Jvm.exec) {own C : String} {index : Nat} {y : MethodName} {bytes : ByteArray} {maxL : Nat} {ret : Option FieldType}
    (hown : s.vm.findClass own = some m.cls) (hlink : (Cond.methodLink own index y).before args s = true) (hinst : (Cond.instanceMethod y).before args s = true) (hsel : (Cond.selects C y y).before args s = true)
    (hcode : (Cond.code y bytes maxL ret).before args s = true) (hy : y.cls ≠ "java/lang/invoke/MethodHandle" ∧ y.cls ≠ "java/lang/invoke/VarHandle")
    {W9 : Nat} {Pre : Pt → Array Value → Prop} {Post : Pt → Array Value → Option Value → Pt → Prop} {PostX : Pt → Array Value → Addr → Pt → Prop} (hK : vx_Back l R p e below s args y 3 W9 Pre Post PostX)
    {b : Addr} {cellB : Cell} (hcell : T.heap[b]? = some cellB) (hobj : cellB.vm.isStatics = false) (hcls : s.vm.findClass C = some cellB.cls)
    {g : JFrame} (hg : g.method = m) (hsize : g.locals.size = c.maxLocals) {argsL rest : List Value} (hlen : ∀ sig, parseMethodDescriptor y.desc = some sig → argsL.length = sig.parameters.length)
    (hstack : g.stack = argsL.reverse ++ .ref b :: rest) (hW : 2 * g.monitorRoom + (rest.map fun v => v.category).sum ≤ W9) (hdg : decode c.code g.pc = .ok (.invokevirtual index, 3))
    (hpre : ∀ vm₁, s.WarmedH vm₁ → Pre ⟨T.setVm vm₁, locs, cells, slots⟩ (Value.ref b :: argsL).toArray) :
    (∃ (v : Option Value) (vm₁ : Vm) (B : Pt), s.WarmedH vm₁ ∧ Stand p l e R s m args below meth c B.U B.locs B.cells B.slots ∧ Post ⟨T.setVm vm₁, locs, cells, slots⟩ (Value.ref b :: argsL).toArray v B ∧
      ∀ target, Steps p.tables e below (B.U.setTop { g with pc := g.pc + 3, stack := v.toList ++ rest }) target → Steps p.tables e below (T.setTop g) target) ∨
    (∃ (q : Addr) (vm₁ : Vm) (B : Pt), s.WarmedH vm₁ ∧ Stand p l e R s m args below meth c B.U B.locs B.cells B.slots ∧ PostX ⟨T.setVm vm₁, locs, cells, slots⟩ (Value.ref b :: argsL).toArray q B ∧
      Steps p.tables e below (T.setTop g) ((B.U.setTop { g with stack := rest }).pushFrame (.throwing q))) := by
  obtain ⟨mk, methM, hnamed, hmethM, hstM, habM⟩ := Cond.instanceMethod_spec hinst
  obtain ⟨methM', cM, hmethM', -, -, -, -, -, -, hsigM⟩ := Cond.code_spec hnamed hcode
  cases hmethM.symm.trans hmethM'
  obtain ⟨c2, r2, m2, q1, q2, q3, q4, kP, hkP, hkPi⟩ := Cond.selects_spec hsel
  cases hcls.symm.trans q1
  cases (State.methodFound?_of_named hnamed hy).symm.trans q2
  cases hnamed.symm.trans q3
  have hselP : selectMethod e.platform s.vm cellB.cls mk = .method mk := by rw [Launch.admits_selectMethod X.admits]; exact q4
  obtain ⟨vm₁, X₁, hstep₁⟩ := X.invokevirtual hexec hown hlink hnamed hmethM hstM hkP hkPi hy (a := b) (cell := cellB) hcell
    (fun z h => by rw [h] at hobj; cases hobj) hselP hmethM habM hkP hkPi (g := g) hg (argsL := argsL) (rest := rest) (hlen _ hsigM) hstack hdg
  rcases hK m meth c ⟨T.setVm vm₁, locs, cells, slots⟩ { g with stack := rest } (.invokevirtual index) mk (Value.ref b :: argsL).toArray X₁ hg hsize hdg hW (X₁.named hnamed) (hpre vm₁ X₁.warmed) with ⟨v, B, X', hpost, hsteps⟩ | ⟨q, B, X', hpost, hsteps⟩
  · exact Or.inl ⟨v, vm₁, B, X₁.warmed, X', hpost, fun target h => hstep₁ _ fun acts => by rw [doInvoke_state]; exact hsteps.trans h⟩
  · exact Or.inr ⟨q, vm₁, B, X₁.warmed, X', hpost, hstep₁ _ fun acts => by rw [doInvoke_state]; exact hsteps⟩
theorem vx_callS (X : Stand p l e R s m args below meth c T locs cells slots) (hexec : p.tables.exec = Jvm.exec) {own : String} {index : Nat} {y : MethodName} {bytes : ByteArray} {maxL : Nat} {ret : Option FieldType}
    (hown : s.vm.findClass own = some m.cls) (hlink : (Cond.methodLink own index y).before args s = true) (hstat : (Cond.static y).before args s = true) (hinit : (Cond.initialized y.cls).before args s = true)
    (hcode : (Cond.code y bytes maxL ret).before args s = true) (hy : y.cls ≠ "java/lang/invoke/MethodHandle" ∧ y.cls ≠ "java/lang/invoke/VarHandle")
    {W9 : Nat} {Pre : Pt → Array Value → Prop} {Post : Pt → Array Value → Option Value → Pt → Prop} {PostX : Pt → Array Value → Addr → Pt → Prop} (hK : vx_Back l R p e below s args y 3 W9 Pre Post PostX)
    {g : JFrame} (hg : g.method = m) (hsize : g.locals.size = c.maxLocals) {argsL rest : List Value} (hlen : ∀ sig, parseMethodDescriptor y.desc = some sig → argsL.length = sig.parameters.length)
    (hstack : g.stack = argsL.reverse ++ rest) (hW : 2 * g.monitorRoom + (rest.map fun v => v.category).sum ≤ W9) (hdg : decode c.code g.pc = .ok (.invokestatic index, 3))
    (hpre : ∀ vm₁, s.WarmedH vm₁ → Pre ⟨T.setVm vm₁, locs, cells, slots⟩ argsL.toArray) :
    (∃ (v : Option Value) (vm₁ : Vm) (B : Pt), s.WarmedH vm₁ ∧ Stand p l e R s m args below meth c B.U B.locs B.cells B.slots ∧ Post ⟨T.setVm vm₁, locs, cells, slots⟩ argsL.toArray v B ∧
      ∀ target, Steps p.tables e below (B.U.setTop { g with pc := g.pc + 3, stack := v.toList ++ rest }) target → Steps p.tables e below (T.setTop g) target) ∨
    (∃ (q : Addr) (vm₁ : Vm) (B : Pt), s.WarmedH vm₁ ∧ Stand p l e R s m args below meth c B.U B.locs B.cells B.slots ∧ PostX ⟨T.setVm vm₁, locs, cells, slots⟩ argsL.toArray q B ∧
      Steps p.tables e below (T.setTop g) ((B.U.setTop { g with stack := rest }).pushFrame (.throwing q))) := by
  obtain ⟨mk, hnamed⟩ := Cond.code_named hcode
  obtain ⟨methM, cM, hmethM, -, -, -, -, -, -, hsigM⟩ := Cond.code_spec hnamed hcode
  have hstatic : methM.isStatic = true := Cond.static_spec hnamed hmethM hstat
  obtain ⟨kP, hkP, -⟩ := className_of_methodNamed hnamed
  have hinitP : kP.init = .initialized := Cond.initialized_spec (findClass_of_methodNamed hnamed) hkP hinit
  obtain ⟨vm₁, X₁, hstep₁⟩ := X.invokestatic hexec hown hlink hnamed hmethM hstatic hkP hinitP hy (g := g) hg (argsL := argsL) (rest := rest) (hlen _ hsigM) hstack hdg
  rcases hK m meth c ⟨T.setVm vm₁, locs, cells, slots⟩ { g with stack := rest } (.invokestatic index) mk argsL.toArray X₁ hg hsize hdg hW (X₁.named hnamed) (hpre vm₁ X₁.warmed) with ⟨v, B, X', hpost, hsteps⟩ | ⟨q, B, X', hpost, hsteps⟩
  · exact Or.inl ⟨v, vm₁, B, X₁.warmed, X', hpost, fun target h => hstep₁ _ fun acts => by rw [doInvoke_state]; exact hsteps.trans h⟩
  · exact Or.inr ⟨q, vm₁, B, X₁.warmed, X', hpost, hstep₁ _ fun acts => by rw [doInvoke_state]; exact hsteps⟩
end Calls
theorem vx_cls {s : State} {T : State} {vm₁ : Vm} {E : String} {k : ClassId} (hW : s.WarmedH vm₁) (h : (T.setVm vm₁).vm.findClass E = some k) : s.vm.findClass E = some k := by
  have h1 : vm₁.findClass E = some k := h
  rw [hW.alike.findClass] at h1
  exact h1
/-- the method's frame g, with q thrown over it -/
def vx_W (p : Program) (l : Launch) (e : Env) (R : Room) (s : State) (m : MethodId) (args : Array Value) (below : List Frame) (meth : Method) (c : Code) (H : Heap) (locs : List Loc) (cells slots : Nat) (Q : State → Prop) (g : JFrame) (q : Addr) : Prop :=
  ∀ T : State, T.heap = H → Stand p l e R s m args below meth c T locs cells slots → ∃ t, Steps p.tables e below ((T.setTop g).pushFrame (.throwing q)) t ∧ Q t
def vx_Run (p : Program) (l : Launch) (e : Env) (R : Room) (s : State) (m : MethodId) (args : Array Value) (below : List Frame) (meth : Method) (c : Code) (H : Heap) (locs : List Loc) (cells slots mc ms : Nat) (g : JFrame) (rest : List Value) (Qa : State → Outcome → State → Prop) (XC : String → State → State → Prop) (free : Addr → Prop) : Prop :=
  ∀ T : State, T.heap = H → Stand p l e R s m args below meth c T locs cells slots →
    (∃ (v : Option Value) (st₀ t T' : State) (L : List Loc), st₀.heap = H ∧ Stand p l e R s m args below meth c T' (locs ++ L) (cells + mc) (slots + ms) ∧ (∀ q ∈ L, free q.base) ∧ T'.heap = t.heap ∧ T'.vm = t.vm ∧ Qa st₀ (.returned v) t ∧
      Goes p e below T g T' { g with pc := g.pc + 3, stack := v.toList ++ rest }) ∨
    (∃ (q : Addr) (st₀ t T' : State) (L : List Loc) (E : String) (ce : Cell), st₀.heap = H ∧ Stand p l e R s m args below meth c T' (locs ++ L) (cells + mc) (slots + ms) ∧ (∀ z ∈ L, free z.base) ∧ T'.heap = t.heap ∧ T'.vm = t.vm ∧ XC E st₀ t ∧ t.heap[q]? = some ce ∧ ce.vm = .none ∧ s.vm.findClass E = some ce.cls ∧
      Steps p.tables e below (T.setTop g) ((T'.setTop { g with stack := rest }).pushFrame (.throwing q)))
def vx_X {S : Type} (px : S → Prop) (B : String → S → State → Prop) (A : Nat → Prop) : String → State → State → Prop := fun E st t => ∃ u : S, px u ∧ B E u t ∧ va_F A st t
section Runs
variable {p : Program} {l : Launch} {e : Env} {R : Room} {s : State} {m : MethodId} {args : Array Value} {below : List Frame} {meth : Method} {c : Code} {H : Heap} {locs : List Loc} {cells slots : Nat}
variable {y : MethodName} {bytes cc : ByteArray} {maxL nL mc ms n index : Nat} {ret : Option FieldType} {ws : List Cond} {rm : Room} {Pc : Array Value → State → Prop} {Qc : Array Value → State → Outcome → State → Prop} {XC : String → State → State → Prop} {free : Addr → Prop} {Ts : List Cond} {own C : String} {b : Addr} {As rest : List Value} {g : JFrame}
theorem vx_callBack (cb : CallB R s args own index y bytes maxL ret ws rm mc ms n) (hM : vx_Met l y ws rm Pc Qc XC mc ms free) (hbl : FrameBlind Pc) : vx_Back l R p e below s args y 3 8 (PreOf R mc ms Pc) (PostOf Qc mc ms free) (vx_Post XC mc ms free) := by
  obtain ⟨hrc, hrs, hfr, hlo, hws, hcw, -, hini, -⟩ := cb
  exact vx_back (bytes := bytes) (maxL := maxL) (ret := ret) hM hbl hrc hrs hfr hlo hws hcw (fun a' U hW => word_at hW (Or.inl (by first | rfl | simp [Cond.onTables, Cond.keeps, Cond.steady])) hini)
theorem vx_runV (S : CallFix p m c cc nL s args Ts own) (hM : vx_Met l y ws rm Pc Qc XC mc ms free) (cw : CallW R s args own C index y bytes maxL ret ws rm mc ms n) (hp : PreV s H C b Pc As)
    (hg : g.method = m) (hn : As.length = n) (hsize : g.locals.size = nL) (hstack : g.stack = As.reverse ++ .ref b :: rest) (hW : 2 * g.monitorRoom + (rest.map fun v => v.category).sum ≤ 8) (hdg : decode cc g.pc = .ok (.invokevirtual index, 3)) (hf : cells + mc ≤ R.cells ∧ slots + ms ≤ R.slots) :
    vx_Run p l e R s m args below meth c H locs cells slots mc ms g rest (Qc (Value.ref b :: As).toArray) XC free := by
  have hK : vx_Back l R p e below s args y 3 8 (PreOf R mc ms Pc) (PostOf Qc mc ms free) (vx_Post XC mc ms free) := vx_callBack cw.1 hM hp.1
  obtain ⟨⟨-, -, -, -, -, -, hcode, -, hy, hlen, hl⟩, hin, hse⟩ := cw
  obtain ⟨hx, hb, hml, ho, -⟩ := S
  obtain ⟨-, ⟨cellB, hcB, hoB, hclB⟩, hPc⟩ := hp
  intro T hT X
  rcases vx_callV X hx (C := C) (bytes := bytes) (maxL := maxL) (ret := ret) ho hl hin hse hcode hy hK (by rw [hT]; exact hcB) hoB hclB hg (hsize.trans hml.symm) (argsL := As) (rest := rest) (fun sig h => hn.trans (hlen sig h)) hstack hW (by rw [hb]; exact hdg)
    (fun vm₁ hW₁ => ⟨hf.1, hf.2, hPc (T.setVm vm₁) hT hW₁⟩) with ⟨v, vm₁, ⟨U', l2, c2, s2⟩, hW₁, X', ⟨g', mk, t, L, e1, e2, hq, h1, hL, h2, h3⟩, st⟩ | ⟨q, vm₁, ⟨U', l2, c2, s2⟩, hW₁, X', ⟨g', mk, t, L, E, ce, e1, e2, hq, hce, hcv, hcl, h1, hL, h2, h3⟩, st⟩
  · dsimp only [Pt.U, Pt.locs, Pt.cells, Pt.slots] at X' e1 e2 h1 h2 h3 st
    subst h1; subst h2; subst h3
    exact Or.inl ⟨v, (T.setVm vm₁).calling g' mk (Value.ref b :: As).toArray, t, U', L, hT, X', hL, e1, e2, hq, st⟩
  · dsimp only [Pt.U, Pt.locs, Pt.cells, Pt.slots] at X' e1 e2 h1 h2 h3 st hcl
    subst h1; subst h2; subst h3
    exact Or.inr ⟨q, (T.setVm vm₁).calling g' mk (Value.ref b :: As).toArray, t, U', L, E, ce, hT, X', hL, e1, e2, hq, hce, hcv, vx_cls hW₁ hcl, st⟩
theorem vx_runS (S : CallFix p m c cc nL s args Ts own) (hM : vx_Met l y ws rm Pc Qc XC mc ms free) (cw : CallB R s args own index y bytes maxL ret ws rm mc ms n ∧ (Cond.static y).before args s = true) (hp : PreS s H Pc As)
    (hg : g.method = m) (hn : As.length = n) (hsize : g.locals.size = nL) (hstack : g.stack = As.reverse ++ rest) (hW : 2 * g.monitorRoom + (rest.map fun v => v.category).sum ≤ 8) (hdg : decode cc g.pc = .ok (.invokestatic index, 3)) (hf : cells + mc ≤ R.cells ∧ slots + ms ≤ R.slots) :
    vx_Run p l e R s m args below meth c H locs cells slots mc ms g rest (Qc As.toArray) XC free := by
  have hK : vx_Back l R p e below s args y 3 8 (PreOf R mc ms Pc) (PostOf Qc mc ms free) (vx_Post XC mc ms free) := vx_callBack cw.1 hM hp.1
  obtain ⟨⟨-, -, -, -, -, -, hcode, hini, hy, hlen, hl⟩, hstt⟩ := cw
  obtain ⟨hx, hb, hml, ho, -⟩ := S
  intro T hT X
  rcases vx_callS X hx (bytes := bytes) (maxL := maxL) (ret := ret) ho hl hstt hini hcode hy hK hg (hsize.trans hml.symm) (argsL := As) (rest := rest) (fun sig h => hn.trans (hlen sig h)) hstack hW (by rw [hb]; exact hdg)
    (fun vm₁ hW₁ => ⟨hf.1, hf.2, hp.2 (T.setVm vm₁) hT hW₁⟩) with ⟨v, vm₁, ⟨U', l2, c2, s2⟩, hW₁, X', ⟨g', mk, t, L, e1, e2, hq, h1, hL, h2, h3⟩, st⟩ | ⟨q, vm₁, ⟨U', l2, c2, s2⟩, hW₁, X', ⟨g', mk, t, L, E, ce, e1, e2, hq, hce, hcv, hcl, h1, hL, h2, h3⟩, st⟩
  · dsimp only [Pt.U, Pt.locs, Pt.cells, Pt.slots] at X' e1 e2 h1 h2 h3 st
    subst h1; subst h2; subst h3
    exact Or.inl ⟨v, (T.setVm vm₁).calling g' mk As.toArray, t, U', L, hT, X', hL, e1, e2, hq, st⟩
  · dsimp only [Pt.U, Pt.locs, Pt.cells, Pt.slots] at X' e1 e2 h1 h2 h3 st hcl
    subst h1; subst h2; subst h3
    exact Or.inr ⟨q, (T.setVm vm₁).calling g' mk As.toArray, t, U', L, E, ce, hT, X', hL, e1, e2, hq, hce, hcv, vx_cls hW₁ hcl, st⟩
end Runs
section Rows
variable {p : Program} {l : Launch} {e : Env} {R : Room} {s : State} {m : MethodId} {args : Array Value} {below : List Frame} {meth : Method} {c : Code} {H : Heap} {locs : List Loc} {cells slots : Nat} {Q : State → Prop}
variable {mc ms : Nat} {free : Addr → Prop} {A0 A1 : Nat → Prop} {H0 : Heap} {a : Array Value} {pc : Nat} {ls : Array Slot} {st0 rest : List Value}
theorem vx_keep {st₀ t T' : State} {L : List Loc} (h0 : st₀.heap = H) (e1 : T'.heap = t.heap) (hS : va_S A0 H0 H locs) (hA : ∀ q, q < H.size → A1 q → A0 q) (hf : ∀ q, free q → A0 q) (hL : ∀ q ∈ L, free q.base) (hF : va_F A1 st₀ t) :
    H.size ≤ T'.heap.size ∧ (∀ q : Nat, q < H.size → ¬ A1 q → T'.heap[q]? = H[q]?) ∧ va_S A0 H0 T'.heap (locs ++ L) := by
  obtain ⟨hz, hk⟩ := hF
  rw [h0] at hz hk
  exact ⟨by rw [e1]; exact hz, fun q h1 h2 => by rw [e1]; exact hk q h1 h2,
    ⟨Nat.le_trans hS.1 (by rw [e1]; exact hz), fun q h1 h2 => by rw [e1, hk q (Nat.lt_of_lt_of_le h1 hS.1) (fun z => h2 (hA q (Nat.lt_of_lt_of_le h1 hS.1) z))]; exact hS.2.1 q h1 h2, fun q hq => by
      rcases List.mem_append.mp hq with h | h
      · exact hS.2.2 q h
      · exact hf _ (hL q h)⟩⟩
theorem vx_calli {S SX : Type} {post : Int32 → S → Prop} {px : SX → Prop} {B : S → State → Prop} {BX : String → SX → State → Prop} {AX : Nat → Prop} (hr : vx_Run p l e R s m args below meth c H locs cells slots mc ms (F0 m pc ls st0) rest (va_Qi post B A1 a) (vx_X px BX AX) free) (hS : va_S A0 H0 H locs) (hA : ∀ q, q < H.size → A1 q → A0 q) (hf : ∀ q, free q → A0 q) (hAX : ∀ q, q < H.size → AX q → A0 q)
    (kx : ∀ (E : String) (ce : Cell) (q9 : Addr) (u : SX) (t : State) (H1 : Heap) (locs1 : List Loc), t.heap = H1 → s.vm.Alike t.vm → px u → BX E u t → H.size ≤ H1.size → (∀ q : Nat, q < H.size → ¬ AX q → H1[q]? = H[q]?) → va_S A0 H0 H1 locs1 → H1[q9]? = some ce → ce.vm = .none → s.vm.findClass E = some ce.cls → vx_W p l e R s m args below meth c H1 locs1 (cells + mc) (slots + ms) Q (F0 m pc ls rest) q9)
    (kk : ∀ (r : Int32) (u : S) (t : State) (H1 : Heap) (locs1 : List Loc), t.heap = H1 → s.vm.Alike t.vm → post r u → B u t → H.size ≤ H1.size → (∀ q : Nat, q < H.size → ¬ A1 q → H1[q]? = H[q]?) → va_S A0 H0 H1 locs1 → W p l e R s m args below meth c H1 locs1 (cells + mc) (slots + ms) Q (F0 m (pc + 3) ls (.int r :: rest))) : W p l e R s m args below meth c H locs cells slots Q (F0 m pc ls st0) := by
  intro T hT X
  rcases hr T hT X with ⟨v, st₀, t, T', L, h0, X', hL, e1, e2, ⟨⟨r, u, hv, hp, hb⟩, hF⟩, st⟩ | ⟨q, st₀, t, T', L, E, ce, h0, X', hL, e1, e2, ⟨u, hp, hb, hF⟩, hce, hcv, hcl, st⟩
  · cases hv
    obtain ⟨k1, k2, k3⟩ := vx_keep h0 e1 hS hA hf hL hF
    obtain ⟨t2, a1, b1⟩ := kk r u t T'.heap (locs ++ L) e1.symm (by rw [← e2]; exact X'.warmed.alike) hp hb k1 k2 k3 T' rfl X'
    exact ⟨t2, st t2 a1, b1⟩
  · obtain ⟨k1, k2, k3⟩ := vx_keep h0 e1 hS hAX hf hL hF
    obtain ⟨t2, a1, b1⟩ := kx E ce q u t T'.heap (locs ++ L) e1.symm (by rw [← e2]; exact X'.warmed.alike) hp hb k1 k2 k3 (by rw [e1]; exact hce) hcv hcl T' rfl X'
    exact ⟨t2, st.trans a1, b1⟩
theorem vx_calll {S SX : Type} {post : Int64 → S → Prop} {px : SX → Prop} {B : S → State → Prop} {BX : String → SX → State → Prop} {AX : Nat → Prop} (hr : vx_Run p l e R s m args below meth c H locs cells slots mc ms (F0 m pc ls st0) rest (va_Ql post B A1 a) (vx_X px BX AX) free) (hS : va_S A0 H0 H locs) (hA : ∀ q, q < H.size → A1 q → A0 q) (hf : ∀ q, free q → A0 q) (hAX : ∀ q, q < H.size → AX q → A0 q)
    (kx : ∀ (E : String) (ce : Cell) (q9 : Addr) (u : SX) (t : State) (H1 : Heap) (locs1 : List Loc), t.heap = H1 → s.vm.Alike t.vm → px u → BX E u t → H.size ≤ H1.size → (∀ q : Nat, q < H.size → ¬ AX q → H1[q]? = H[q]?) → va_S A0 H0 H1 locs1 → H1[q9]? = some ce → ce.vm = .none → s.vm.findClass E = some ce.cls → vx_W p l e R s m args below meth c H1 locs1 (cells + mc) (slots + ms) Q (F0 m pc ls rest) q9)
    (kk : ∀ (r : Int64) (u : S) (t : State) (H1 : Heap) (locs1 : List Loc), t.heap = H1 → s.vm.Alike t.vm → post r u → B u t → H.size ≤ H1.size → (∀ q : Nat, q < H.size → ¬ A1 q → H1[q]? = H[q]?) → va_S A0 H0 H1 locs1 → W p l e R s m args below meth c H1 locs1 (cells + mc) (slots + ms) Q (F0 m (pc + 3) ls (.long r :: rest))) : W p l e R s m args below meth c H locs cells slots Q (F0 m pc ls st0) := by
  intro T hT X
  rcases hr T hT X with ⟨v, st₀, t, T', L, h0, X', hL, e1, e2, ⟨⟨r, u, hv, hp, hb⟩, hF⟩, st⟩ | ⟨q, st₀, t, T', L, E, ce, h0, X', hL, e1, e2, ⟨u, hp, hb, hF⟩, hce, hcv, hcl, st⟩
  · cases hv
    obtain ⟨k1, k2, k3⟩ := vx_keep h0 e1 hS hA hf hL hF
    obtain ⟨t2, a1, b1⟩ := kk r u t T'.heap (locs ++ L) e1.symm (by rw [← e2]; exact X'.warmed.alike) hp hb k1 k2 k3 T' rfl X'
    exact ⟨t2, st t2 a1, b1⟩
  · obtain ⟨k1, k2, k3⟩ := vx_keep h0 e1 hS hAX hf hL hF
    obtain ⟨t2, a1, b1⟩ := kx E ce q u t T'.heap (locs ++ L) e1.symm (by rw [← e2]; exact X'.warmed.alike) hp hb k1 k2 k3 (by rw [e1]; exact hce) hcv hcl T' rfl X'
    exact ⟨t2, st.trans a1, b1⟩
theorem vx_callf {S SX : Type} {post : UInt32 → S → Prop} {px : SX → Prop} {B : S → State → Prop} {BX : String → SX → State → Prop} {AX : Nat → Prop} (hr : vx_Run p l e R s m args below meth c H locs cells slots mc ms (F0 m pc ls st0) rest (va_Qf post B A1 a) (vx_X px BX AX) free) (hS : va_S A0 H0 H locs) (hA : ∀ q, q < H.size → A1 q → A0 q) (hf : ∀ q, free q → A0 q) (hAX : ∀ q, q < H.size → AX q → A0 q)
    (kx : ∀ (E : String) (ce : Cell) (q9 : Addr) (u : SX) (t : State) (H1 : Heap) (locs1 : List Loc), t.heap = H1 → s.vm.Alike t.vm → px u → BX E u t → H.size ≤ H1.size → (∀ q : Nat, q < H.size → ¬ AX q → H1[q]? = H[q]?) → va_S A0 H0 H1 locs1 → H1[q9]? = some ce → ce.vm = .none → s.vm.findClass E = some ce.cls → vx_W p l e R s m args below meth c H1 locs1 (cells + mc) (slots + ms) Q (F0 m pc ls rest) q9)
    (kk : ∀ (r : UInt32) (u : S) (t : State) (H1 : Heap) (locs1 : List Loc), t.heap = H1 → s.vm.Alike t.vm → post r u → B u t → H.size ≤ H1.size → (∀ q : Nat, q < H.size → ¬ A1 q → H1[q]? = H[q]?) → va_S A0 H0 H1 locs1 → W p l e R s m args below meth c H1 locs1 (cells + mc) (slots + ms) Q (F0 m (pc + 3) ls (.float r :: rest))) : W p l e R s m args below meth c H locs cells slots Q (F0 m pc ls st0) := by
  intro T hT X
  rcases hr T hT X with ⟨v, st₀, t, T', L, h0, X', hL, e1, e2, ⟨⟨r, u, hv, hp, hb⟩, hF⟩, st⟩ | ⟨q, st₀, t, T', L, E, ce, h0, X', hL, e1, e2, ⟨u, hp, hb, hF⟩, hce, hcv, hcl, st⟩
  · cases hv
    obtain ⟨k1, k2, k3⟩ := vx_keep h0 e1 hS hA hf hL hF
    obtain ⟨t2, a1, b1⟩ := kk r u t T'.heap (locs ++ L) e1.symm (by rw [← e2]; exact X'.warmed.alike) hp hb k1 k2 k3 T' rfl X'
    exact ⟨t2, st t2 a1, b1⟩
  · obtain ⟨k1, k2, k3⟩ := vx_keep h0 e1 hS hAX hf hL hF
    obtain ⟨t2, a1, b1⟩ := kx E ce q u t T'.heap (locs ++ L) e1.symm (by rw [← e2]; exact X'.warmed.alike) hp hb k1 k2 k3 (by rw [e1]; exact hce) hcv hcl T' rfl X'
    exact ⟨t2, st.trans a1, b1⟩
theorem vx_calld {S SX : Type} {post : UInt64 → S → Prop} {px : SX → Prop} {B : S → State → Prop} {BX : String → SX → State → Prop} {AX : Nat → Prop} (hr : vx_Run p l e R s m args below meth c H locs cells slots mc ms (F0 m pc ls st0) rest (va_Qd post B A1 a) (vx_X px BX AX) free) (hS : va_S A0 H0 H locs) (hA : ∀ q, q < H.size → A1 q → A0 q) (hf : ∀ q, free q → A0 q) (hAX : ∀ q, q < H.size → AX q → A0 q)
    (kx : ∀ (E : String) (ce : Cell) (q9 : Addr) (u : SX) (t : State) (H1 : Heap) (locs1 : List Loc), t.heap = H1 → s.vm.Alike t.vm → px u → BX E u t → H.size ≤ H1.size → (∀ q : Nat, q < H.size → ¬ AX q → H1[q]? = H[q]?) → va_S A0 H0 H1 locs1 → H1[q9]? = some ce → ce.vm = .none → s.vm.findClass E = some ce.cls → vx_W p l e R s m args below meth c H1 locs1 (cells + mc) (slots + ms) Q (F0 m pc ls rest) q9)
    (kk : ∀ (r : UInt64) (u : S) (t : State) (H1 : Heap) (locs1 : List Loc), t.heap = H1 → s.vm.Alike t.vm → post r u → B u t → H.size ≤ H1.size → (∀ q : Nat, q < H.size → ¬ A1 q → H1[q]? = H[q]?) → va_S A0 H0 H1 locs1 → W p l e R s m args below meth c H1 locs1 (cells + mc) (slots + ms) Q (F0 m (pc + 3) ls (.double r :: rest))) : W p l e R s m args below meth c H locs cells slots Q (F0 m pc ls st0) := by
  intro T hT X
  rcases hr T hT X with ⟨v, st₀, t, T', L, h0, X', hL, e1, e2, ⟨⟨r, u, hv, hp, hb⟩, hF⟩, st⟩ | ⟨q, st₀, t, T', L, E, ce, h0, X', hL, e1, e2, ⟨u, hp, hb, hF⟩, hce, hcv, hcl, st⟩
  · cases hv
    obtain ⟨k1, k2, k3⟩ := vx_keep h0 e1 hS hA hf hL hF
    obtain ⟨t2, a1, b1⟩ := kk r u t T'.heap (locs ++ L) e1.symm (by rw [← e2]; exact X'.warmed.alike) hp hb k1 k2 k3 T' rfl X'
    exact ⟨t2, st t2 a1, b1⟩
  · obtain ⟨k1, k2, k3⟩ := vx_keep h0 e1 hS hAX hf hL hF
    obtain ⟨t2, a1, b1⟩ := kx E ce q u t T'.heap (locs ++ L) e1.symm (by rw [← e2]; exact X'.warmed.alike) hp hb k1 k2 k3 (by rw [e1]; exact hce) hcv hcl T' rfl X'
    exact ⟨t2, st.trans a1, b1⟩
theorem vx_callv {S SX : Type} {post : S → Prop} {px : SX → Prop} {B : S → State → Prop} {BX : String → SX → State → Prop} {AX : Nat → Prop} (hr : vx_Run p l e R s m args below meth c H locs cells slots mc ms (F0 m pc ls st0) rest (va_Qv post B A1 a) (vx_X px BX AX) free) (hS : va_S A0 H0 H locs) (hA : ∀ q, q < H.size → A1 q → A0 q) (hf : ∀ q, free q → A0 q) (hAX : ∀ q, q < H.size → AX q → A0 q)
    (kx : ∀ (E : String) (ce : Cell) (q9 : Addr) (u : SX) (t : State) (H1 : Heap) (locs1 : List Loc), t.heap = H1 → s.vm.Alike t.vm → px u → BX E u t → H.size ≤ H1.size → (∀ q : Nat, q < H.size → ¬ AX q → H1[q]? = H[q]?) → va_S A0 H0 H1 locs1 → H1[q9]? = some ce → ce.vm = .none → s.vm.findClass E = some ce.cls → vx_W p l e R s m args below meth c H1 locs1 (cells + mc) (slots + ms) Q (F0 m pc ls rest) q9)
    (kk : ∀ (u : S) (t : State) (H1 : Heap) (locs1 : List Loc), t.heap = H1 → s.vm.Alike t.vm → post u → B u t → H.size ≤ H1.size → (∀ q : Nat, q < H.size → ¬ A1 q → H1[q]? = H[q]?) → va_S A0 H0 H1 locs1 → W p l e R s m args below meth c H1 locs1 (cells + mc) (slots + ms) Q (F0 m (pc + 3) ls (rest))) : W p l e R s m args below meth c H locs cells slots Q (F0 m pc ls st0) := by
  intro T hT X
  rcases hr T hT X with ⟨v, st₀, t, T', L, h0, X', hL, e1, e2, ⟨⟨u, hv, hp, hb⟩, hF⟩, st⟩ | ⟨q, st₀, t, T', L, E, ce, h0, X', hL, e1, e2, ⟨u, hp, hb, hF⟩, hce, hcv, hcl, st⟩
  · cases hv
    obtain ⟨k1, k2, k3⟩ := vx_keep h0 e1 hS hA hf hL hF
    obtain ⟨t2, a1, b1⟩ := kk u t T'.heap (locs ++ L) e1.symm (by rw [← e2]; exact X'.warmed.alike) hp hb k1 k2 k3 T' rfl X'
    exact ⟨t2, st t2 a1, b1⟩
  · obtain ⟨k1, k2, k3⟩ := vx_keep h0 e1 hS hAX hf hL hF
    obtain ⟨t2, a1, b1⟩ := kx E ce q u t T'.heap (locs ++ L) e1.symm (by rw [← e2]; exact X'.warmed.alike) hp hb k1 k2 k3 (by rw [e1]; exact hce) hcv hcl T' rfl X'
    exact ⟨t2, st.trans a1, b1⟩
/-- caught by the row x of this method's table; the rows ahead don't take it -/
theorem vx_catch {own name : String} {E : String} {ce : Cell} {q : Addr} (hown : s.vm.findClass own = some m.cls) (pre : List ExceptionTableEntry) (x : ExceptionTableEntry) (suf : List ExceptionTableEntry) (hsplit : c.exceptionTable.toList = pre ++ x :: suf)
    (hpass : ∀ z ∈ pre, covers z pc = false ∨ (z.catchType ≠ 0 ∧ ∃ nm : String, (Cond.classLink own z.catchType nm).before args s = true ∧ va_Nc E nm s)) (hx : covers x pc = true) (h0 : x.catchType ≠ 0)
    (hlink : (Cond.classLink own x.catchType name).before args s = true) (hcast : (Cond.castable E name).before args s = true) (hcell : H[q]? = some ce) (hv : ce.vm = .none) (hcl : s.vm.findClass E = some ce.cls)
    (kk : W p l e R s m args below meth c H locs cells slots Q (F0 m x.handlerPc ls [.ref q])) : vx_W p l e R s m args below meth c H locs cells slots Q (F0 m pc ls rest) q := by
  intro T hT X
  have hpl : e.platform.magicAccessors = ({} : Platform).magicAccessors := by rw [X.admits.platform]
  obtain ⟨c3, c4, hc3, hc4, hasg⟩ := Cond.castable_spec hcast
  cases Option.some.inj (hc3.symm.trans hcl)
  obtain ⟨c5, hc5, hcl5⟩ := Cond.classLink_spec hown hlink e.platform hpl
  cases Option.some.inj (hc4.symm.trans hc5)
  obtain ⟨vm', X', st⟩ := X.thenCaughtThrough q (g := F0 m pc ls rest) rfl (Steps.refl _) (by rw [hT]; exact hcell) (by rw [hv]; rfl) (by obtain ⟨k9, h9, -⟩ := Vm.findClass_spec hcl; exact ⟨k9, h9⟩) pre x suf hsplit
    (fun z hz => by
      rcases hpass z hz with h | ⟨hz0, nm, hl1, hn1⟩
      · exact Or.inl h
      · obtain ⟨c6, hc6, hcl6⟩ := Cond.classLink_spec hown hl1 e.platform hpl
        obtain ⟨a8, b8, h1, h2, h3⟩ := hn1
        cases Option.some.inj (h1.symm.trans hcl)
        cases Option.some.inj (h2.symm.trans hc6)
        exact Or.inr ⟨hz0, _, hcl6, h3⟩) hx (Or.inr ⟨h0, c4, hcl5, hasg⟩)
  obtain ⟨t, a1, b1⟩ := kk (T.setVm vm') hT X'
  exact ⟨t, st.trans a1, b1⟩
end Rows
section Ends
variable {p : Program} {l : Launch} {e : Env} {R : Room} {s : State} {m : MethodId} {args : Array Value} {below : List Frame} {meth : Method} {c : Code} {H : Heap} {locs : List Loc} {cells slots : Nat} {Q : State → Prop}
variable {mc ms : Nat} {free : Addr → Prop} {A0 A1 : Nat → Prop} {H0 : Heap} {a : Array Value} {ls : Array Slot} {st0 rest : List Value}
variable {Qc : Array Value → State → Outcome → State → Prop} {XC : String → State → State → Prop}
/-- what a body that may throw owes at its end -/
def vx_MQ (below : List Frame) (Qc : Array Value → State → Outcome → State → Prop) (XC : String → State → State → Prop) (a : Array Value) (s : State) (mc ms : Nat) (free : Addr → Prop) : State → Prop := fun t =>
  ∃ o, t.status = .running ∧ Ended t below o ∧ vx_Q Qc XC mc ms free a s o t
theorem vx_ret {g : JFrame} {mc ms : Nat} (k : W p l e R s m args below meth c H locs cells slots (MQ below Qc args s mc ms free) g) : W p l e R s m args below meth c H locs cells slots (vx_MQ below Qc XC args s mc ms free) g := by
  intro T hT X
  obtain ⟨t, a1, o, b1, b2, b3, b4⟩ := k T hT X
  exact ⟨t, a1, o, b1, b2, Or.inl ⟨b3, b4⟩⟩
/-- not caught here: it goes on to the caller -/
theorem vx_widen {g : JFrame} {q : Addr} {k n : Nat} (h1 : cells ≤ k) (h2 : slots ≤ n) (kk : vx_W p l e R s m args below meth c H locs k n Q g q) : vx_W p l e R s m args below meth c H locs cells slots Q g q := fun T hT X => kk T hT (stand_widen X h1 h2)
theorem vx_out {pc : Nat} {E : String} {ce : Cell} {q : Addr} {mc ms : Nat} (hout : ∀ x ∈ c.exceptionTable.toList, covers x pc = false) (hlocks : meth.locks = false) (hcell : H[q]? = some ce) (hv : ce.vm = .none) (hcl : s.vm.findClass E = some ce.cls)
    (hx : ∀ t : State, t.heap = H → s.vm.Alike t.vm → XC E s t) (hf : ∀ z ∈ locs, free z.base) (hc : cells ≤ mc) (hs : slots ≤ ms) :
    vx_W p l e R s m args below meth c H locs cells slots (vx_MQ below Qc XC args s mc ms free) (F0 m pc ls rest) q := by
  intro T hT X
  obtain ⟨st1, hrun, hend, hW, hsm⟩ := X.leaveThrown q (g := F0 m pc ls rest) rfl rfl rfl hout hlocks
  have hcell9 : (T.setFrames (.throwing q :: below)).heap[q]? = some ce := by
    show T.heap[q]? = some ce
    rw [hT]; exact hcell
  exact ⟨_, st1, .threw q, hrun, hend, Or.inr ⟨q, rfl, E, ce, locs, hx _ hT hW.alike, hcell9, hv, hcl, hW, hsm.mono hc hs, hf⟩⟩
theorem vx_frame {U : State} {k n : Nat} (h : s.sameButNew ({ U with vm := s.vm } : State) locs k n) : s.heap.size ≤ U.heap.size ∧ ∀ q : Nat, q < s.heap.size → (∀ z ∈ locs, z.base ≠ q) → U.heap[q]? = s.heap[q]? := by
  obtain ⟨-, h2, -, -, -, h6⟩ := h
  refine ⟨h2, fun q hq hz => ?_⟩
  obtain ⟨c9, e1, e2, e3, e4⟩ := h6 q _ (Array.getElem?_eq_getElem hq)
  have hs : c9.slots = (s.heap[q]).slots := Array.ext_getElem? fun i => e4 i fun hm => hz _ hm rfl
  have h9 : c9 = s.heap[q] := by
    rw [hs] at e2
    exact e2
  have e5 : U.heap[q]? = some c9 := e1
  rw [e5, h9, Array.getElem?_eq_getElem hq]
/-- the words of a throw but the four that speak of the heap -/
def vx_no (w : Cond) : Bool := decide (w ≠ .isRef (.static Bundle.tN "UNASSIGNED_STACK" Bundle.steD)) && decide (w ≠ .isRef (.static Bundle.tN "SUPPRESSED_SENTINEL" Bundle.listD)) && decide (w ≠ .laysStatic Bundle.tN "UNASSIGNED_STACK" Bundle.steD) && decide (w ≠ .laysStatic Bundle.tN "SUPPRESSED_SENTINEL" Bundle.listD)
def vx_at0 (own : String) (ic : Nat) (X : String) (names : List String) : List Cond := (Bundle.ownAtoms0 own ic X names).filter vx_no
def vx_atS (own : String) (ic : Nat) (X : String) (names : List String) : List Cond := (Bundle.ownAtoms own ic X names).filter vx_no
/-- a word that the tables alone decide, or a good one -/
def vx_ot (w : Cond) : Bool := w.onTables || goodWord w
theorem vx_ot_at {args a' : Array Value} {s U : State} {w : Cond} (hW : s.WarmedH U.vm) (hvm : s.vm = U.vm) (hg : vx_ot w = true) (h : w.before args s = true) : w.before a' U = true := by
  simp only [vx_ot, Bool.or_eq_true] at hg
  rcases hg with hg | hg
  · exact va_tabs hg hvm h
  · exact word_at hW (good_of_word hg) h
/-- a list's words: the good ones out of the method's own list, the others by premises of their own -/
theorem vx_hat {args : Array Value} {s : State} {L B : List Cond} (h1 : ∀ w ∈ L.filter goodWord, w.before args s = true) (h2 : ∀ w ∈ L.filter (fun w => !goodWord w), w ∈ B) (h3 : ∀ w ∈ B, w.before args s = true) : ∀ w ∈ L, w.before args s = true := by
  intro w hw
  by_cases g : goodWord w = true
  · exact h1 w (List.mem_filter.mpr ⟨hw, g⟩)
  · refine h3 w (h2 w (List.mem_filter.mpr ⟨hw, ?_⟩))
    show (!goodWord w) = true
    cases hgw : goodWord w
    · rfl
    · exact absurd hgw g
theorem vx_c {args : Array Value} {s : State} {w : Cond} {B : List Cond} (h : w.before args s = true) (t : ∀ w ∈ B, w.before args s = true) : ∀ w' ∈ w :: B, w'.before args s = true := fun w' h' => (List.mem_cons.mp h').elim (fun e => by rw [e]; exact h) (t w')
theorem vx_n {args : Array Value} {s : State} : ∀ w ∈ ([] : List Cond), w.before args s = true := fun _ h => nomatch h
theorem vx_own {args : Array Value} {s : State} {L : List Cond} (h1 : ∀ w ∈ L.filter vx_no, w.before args s = true)
    (hU : (Cond.isRef (.static Bundle.tN "UNASSIGNED_STACK" Bundle.steD)).before args s = true) (hN : (Cond.isRef (.static Bundle.tN "SUPPRESSED_SENTINEL" Bundle.listD)).before args s = true)
    (lU : (Cond.laysStatic Bundle.tN "UNASSIGNED_STACK" Bundle.steD).before args s = true) (lN : (Cond.laysStatic Bundle.tN "SUPPRESSED_SENTINEL" Bundle.listD).before args s = true) : ∀ w ∈ L, w.before args s = true := by
  intro w hw
  by_cases e1 : w = .isRef (.static Bundle.tN "UNASSIGNED_STACK" Bundle.steD)
  · rw [e1]; exact hU
  · by_cases e2 : w = .isRef (.static Bundle.tN "SUPPRESSED_SENTINEL" Bundle.listD)
    · rw [e2]; exact hN
    · by_cases e3 : w = .laysStatic Bundle.tN "UNASSIGNED_STACK" Bundle.steD
      · rw [e3]; exact lU
      · by_cases e4 : w = .laysStatic Bundle.tN "SUPPRESSED_SENTINEL" Bundle.listD
        · rw [e4]; exact lN
        · exact h1 w (List.mem_filter.mpr ⟨hw, by unfold vx_no; rw [decide_eq_true e1, decide_eq_true e2, decide_eq_true e3, decide_eq_true e4]; rfl⟩)
/-- where a static field lies, its class's statics cell in H -/
def vx_L (C n d : String) (A : Nat → Prop) (U : State) (H : Heap) : Prop := ∃ (c : ClassId) (k : Class) (i : Nat) (f : Field) (a : Nat) (cell : Cell), U.vm.findClass C = some c ∧ U.fieldFound? C n d = some (c, k, i, f) ∧ f.isStatic = true ∧ k.statics = some a ∧ H[a]? = some cell ∧ cell.vm.isStatics = true ∧ cell.cls = c ∧ f.slot < cell.slots.size ∧ k.staticTypes[f.slot]? = some f.type ∧ ¬ A a
theorem vx_L.moved {C n d : String} {A : Nat → Prop} {u U : State} {H : Heap} (hvm : u.vm.Alike U.vm) (h : vx_L C n d A u H) : vx_L C n d A U H := by
  obtain ⟨c, k, i, f, a, cell, h1, h2, h3, h4, h5, h6, h7, h8, h9, h10⟩ := h
  obtain ⟨k', hi', he⟩ := State.fieldFound?_setVm hvm h2
  exact ⟨c, k', i, f, a, cell, by rw [hvm.findClass]; exact h1, hi', h3, by rw [he]; exact h4, h5, h6, h7, h8, by rw [he]; exact h9, h10⟩
theorem vx_L.kept {C n d : String} {A : Nat → Prop} {U : State} {H H1 : Heap} (h : vx_L C n d A U H) (hq : ∀ a : Nat, a < H.size → ¬ A a → H1[a]? = H[a]?) : vx_L C n d A U H1 := by
  obtain ⟨c, k, i, f, a, cell, h1, h2, h3, h4, h5, h6, h7, h8, h9, h10⟩ := h
  exact ⟨c, k, i, f, a, cell, h1, h2, h3, h4, by rw [hq a (Array.getElem?_eq_some_iff.mp h5).1 h10]; exact h5, h6, h7, h8, h9, h10⟩
theorem vx_L.narrow {C n d : String} {A B : Nat → Prop} {U : State} {H : Heap} (h : vx_L C n d A U H) (hAB : ∀ q, B q → A q) : vx_L C n d B U H := by
  obtain ⟨c, k, i, f, a, cell, h1, h2, h3, h4, h5, h6, h7, h8, h9, h10⟩ := h
  exact ⟨c, k, i, f, a, cell, h1, h2, h3, h4, h5, h6, h7, h8, h9, fun z => h10 (hAB _ z)⟩
theorem vx_L.word {C n d : String} {A : Nat → Prop} {s : State} {args : Array Value} (h : vx_L C n d A s s.heap) : (Cond.laysStatic C n d).before args s = true := by
  obtain ⟨c, k, i, f, a, cell, h1, h2, h3, h4, h5, h6, h7, h8, h9, -⟩ := h
  show (Cond.laysStatic C n d).holds args s none s [] = true
  exact Cond.laysStatic_of h1 h2 h3 h4 h5 h6 h7 h8 h9
/-- .. and what it holds: null or some reference -/
def vx_Zq (C n d : String) (A : Nat → Prop) (U : State) (H : Heap) : Prop := va_Zq C n d A U H ∧ vx_L C n d A U H
theorem vx_Zq.moved {C n d : String} {A : Nat → Prop} {u U : State} {H : Heap} (hvm : u.vm.Alike U.vm) (h : vx_Zq C n d A u H) : vx_Zq C n d A U H := ⟨va_Zq.moved hvm h.1, vx_L.moved hvm h.2⟩
theorem vx_Zq.kept {C n d : String} {A : Nat → Prop} {U : State} {H H1 : Heap} (h : vx_Zq C n d A U H) (hq : ∀ a : Nat, a < H.size → ¬ A a → H1[a]? = H[a]?) : vx_Zq C n d A U H1 := ⟨va_Zq.kept h.1 hq, vx_L.kept h.2 hq⟩
theorem vx_Zq.narrow {C n d : String} {A B : Nat → Prop} {U : State} {H : Heap} (h : vx_Zq C n d A U H) (hAB : ∀ q, B q → A q) : vx_Zq C n d B U H := ⟨va_Zq.narrow h.1 hAB, vx_L.narrow h.2 hAB⟩
theorem vx_Zqof {args : Array Value} {s : State} {C n d : String} {A : Nat → Prop} (hl : (Cond.laysStatic C n d).before args s = true) (hini : (Cond.initialized C).before args s = true) (h : (Cond.isRef (.static C n d)).before args s = true) (hA : ∀ a : Nat, a < s.heap.size → ¬ A a) : vx_Zq C n d A s s.heap := by
  refine ⟨va_Zqof hl hini h hA, ?_⟩
  obtain ⟨c, k, i, f, a, cell, h1, h2, h3, h4, h5, h6, h7, h8, h9⟩ := Cond.laysStatic_spec hl
  exact ⟨c, k, i, f, a, cell, h1, h2, h3, h4, h5, h6, h7, h8, h9, hA a (Array.getElem?_eq_some_iff.mp h5).1⟩
theorem vx_isRef {C n d : String} {v : Value} {A : Nat → Prop} {s : State} {args : Array Value} (h : va_Z C n d v A s s.heap) (hv : v.isRef = true) : (Cond.isRef (.static C n d)).before args s = true := by
  obtain ⟨cf, kf, fi, f, a, cell, h1, h2, h3, h4, h5, h6, h7, -⟩ := h
  have he : (Term.static C n d).eval args s none [] s = some v := by
    simp [Term.eval, State.fieldNamed?, h1, h2, h4, h5, h6, h7]
  simp only [Cond.before, Cond.holds, Cond.value, he]
  cases v <;> simp_all [Value.isRef]
theorem vx_isRefq {C n d : String} {A : Nat → Prop} {s : State} {args : Array Value} (h : va_Zq C n d A s s.heap) : (Cond.isRef (.static C n d)).before args s = true := by
  rcases h with h | ⟨t, h⟩
  · exact vx_isRef h rfl
  · exact vx_isRef h rfl
/-- the same frame, seen from here: as if the method were called anew in this heap -/
theorem vx_rebase {T : State} (X : Stand p l e R s m args below meth c T locs cells slots) {R' : Room} (hf : R'.frames ≤ R.frames) (hl : R'.locals ≤ R.locals) (hc : cells + R'.cells ≤ R.cells) (hs : slots + R'.slots ≤ R.slots) :
    Stand p l e R' ((T.setVm s.vm).setFrames (.invoking m args :: below)) m args below meth c T [] 0 0 := by
  have htop : (T.setVm s.vm).topJava?.isSome := X.here.top
  have hF : ((T.setVm s.vm).setFrames (.invoking m args :: below)).frames = .invoking m args :: below := State.frames_setFrames _ (State.cur_lt_of_top htop)
  obtain ⟨g₀, hg0⟩ := Option.isSome_iff_exists.mp htop
  obtain ⟨r, hr⟩ := State.topJava?_eq_some.mp hg0
  have hl9 : e.platform.stackLimits (T.setVm s.vm).me = e.platform.stackLimits s.me := X.limits
  have hb9 : (T.setVm s.vm).me.stackBytes = s.me.stackBytes := X.bytes
  refine ⟨X.admits, X.cas, X.clock, hF, ?_, X.hears, X.method, X.code, X.here, X.tail, X.warmed, ?_, ?_, ?_⟩
  · have h := X.room
    have hU : ((T.setVm s.vm).setFrames (.invoking m args :: below)).localsInUse = s.localsInUse := by
      rw [State.localsInUse_invoking hF (meth := meth) (c := c) X.method X.code, State.localsInUse_invoking X.frames X.method X.code]
    simp only [State.hasRoom, Bool.and_eq_true, decide_eq_true_eq] at h ⊢
    obtain ⟨⟨⟨⟨h1, h2, h3, h4, h5, h6⟩, h7⟩, h8⟩, h9⟩ := h
    rw [X.frames, List.length_cons] at h2 h3
    have q1 := X.heapSize
    have q2 := X.used
    simp only [hF, hU, List.length_cons, State.stackLimits_setFrames, State.stackBytes_setFrames, hl9, hb9]
    refine ⟨⟨⟨⟨by omega, by omega, by omega, by omega, by omega, h6⟩, ?_⟩, ?_⟩, X.book⟩
    · show T.heap.size + R'.cells ≤ e.platform.maxCells
      omega
    · show T.slotsUsed + R'.slots ≤ e.platform.maxSlots
      omega
  · rw [State.stackLimits_setFrames]; rfl
  · rw [State.stackBytes_setFrames]; rfl
  · refine ⟨?_, Nat.le_refl _, Nat.le_refl _, ?_, ?_, fun a c9 h9 => ⟨c9, h9, rfl, rfl, fun _ _ => rfl⟩⟩
    · obtain ⟨t, ht, -⟩ := State.frames_cons hr
      show T.setVm s.vm = { ((T.setVm s.vm).setFrames (.invoking m args :: below)).setFrames (T.setVm s.vm).frames with heap := T.heap, slotsUsed := T.slotsUsed }
      rw [State.setFrames_setFrames, State.setFrames_self ht]
      rfl
    · show T.slotsUsed = T.slotsUsed + ((T.heap.toList.drop T.heap.size).map (·.slots.size)).sum
      rw [List.drop_eq_nil_of_le (Nat.le_of_eq Array.length_toList)]
      rfl
    · show ((T.heap.toList.drop T.heap.size).map (·.slots.size)).sum ≤ 0
      rw [List.drop_eq_nil_of_le (Nat.le_of_eq Array.length_toList)]
      exact Nat.le_refl _
/-- 'throw new E()': new; dup; invokespecial; athrow -/
theorem vx_throw0 {cc : ByteArray} {pc : Nat} (hexec : p.tables.exec = Jvm.exec) (hb : c.code = cc) (hl : l.stackTraces = false) {own cls : String} {names : List String} {ik ic mc ms : Nat} {A : Nat → Prop}
    (hown : s.vm.findClass own = some m.cls) (hcls : Bundle.fit cls = true) (hnames : ∀ n ∈ names, Bundle.fit n = true)
    (hk : (Cond.classLink own ik cls).before args s = true) (hini : (Cond.initialized cls).before args s = true) (hat : ∀ w ∈ vx_at0 own ic cls names, w.before args s = true)
    (hgood : ∀ w ∈ Cond.classLink own ik cls :: Cond.initialized cls :: vx_at0 own ic cls names, vx_ot w = true)
    (hU : vx_Zq Bundle.tN "UNASSIGNED_STACK" Bundle.steD A s s.heap) (hN : vx_Zq Bundle.tN "SUPPRESSED_SENTINEL" Bundle.listD A s s.heap) (hS : va_S A s.heap H locs) (hsize : ls.size = c.maxLocals)
    (d0 : decode cc pc = .ok (.new ik, 3)) (d3 : decode cc (pc + 3) = .ok (.dup, 1)) (d4 : decode cc (pc + 4) = .ok (.invokespecial ic, 3)) (d7 : decode cc (pc + 7) = .ok (.athrow, 1))
    (hout : ∀ x ∈ c.exceptionTable.toList, covers x (pc + 7) = false)
    (hRframes : names.length + 3 < R.frames) (hRlocals : (rest.map fun v => v.category).sum + (13 * (names.length + 1) + 42) ≤ R.locals) (hRcells : cells + 1 ≤ R.cells) (hRslots : slots + 6 ≤ R.slots) (hlocks : meth.locks = false)
    (hx : ∀ t : State, s.vm.Alike t.vm → H.size ≤ t.heap.size → (∀ q : Nat, q < H.size → t.heap[q]? = H[q]?) → XC cls s t)
    (hf : ∀ z ∈ locs, free z.base) (hc : cells + 1 ≤ mc) (hs : slots + 6 ≤ ms) :
    W p l e R s m args below meth c H locs cells slots (vx_MQ below Qc XC args s mc ms free) (F0 m pc ls rest) := by
  intro T hT X
  have htr : e.platform.stackTraces = false := (show e.platform.stackTraces = l.stackTraces by rw [X.admits.platform]).trans hl
  have Y := vx_rebase X (R' := { frames := R.frames, locals := R.locals, cells := 1, slots := 6 }) (Nat.le_refl _) (Nat.le_refl _) hRcells hRslots
  obtain ⟨s', hA⟩ : ∃ z, z = (T.setVm s.vm).setFrames (.invoking m args :: below) := ⟨_, rfl⟩
  rw [← hA] at Y
  have hvm : s'.vm = s.vm := by rw [hA]; rfl
  have hhp : s'.heap = H := by rw [hA]; exact hT
  have hW0 : s.WarmedH s'.vm := by rw [hvm]; exact State.WarmedH.refl s
  have hat' : ∀ w ∈ vx_at0 own ic cls names, w.before args s' = true := fun w hw => vx_ot_at hW0 hvm.symm (hgood w (List.mem_cons_of_mem _ (List.mem_cons_of_mem _ hw))) (hat w hw)
  have hk' : (Cond.classLink own ik cls).before args s' = true := vx_ot_at hW0 hvm.symm (hgood _ List.mem_cons_self) hk
  have hini' : (Cond.initialized cls).before args s' = true := vx_ot_at hW0 hvm.symm (hgood _ (List.mem_cons_of_mem _ List.mem_cons_self)) hini
  have hU' : vx_Zq Bundle.tN "UNASSIGNED_STACK" Bundle.steD A s' s'.heap := by rw [hhp]; exact vx_Zq.moved hW0.alike (hU.kept hS.2.1)
  have hN' : vx_Zq Bundle.tN "SUPPRESSED_SENTINEL" Bundle.listD A s' s'.heap := by rw [hhp]; exact vx_Zq.moved hW0.alike (hN.kept hS.2.1)
  have h : ∀ w ∈ Bundle.ownAtoms0 own ic cls names, w.before args s' = true := vx_own hat' (vx_isRefq hU'.1) (vx_isRefq hN'.1) hU'.2.word hN'.2.word
  have hown' : s'.vm.findClass own = some m.cls := by rw [hvm]; exact hown
  have hins : (Cond.instantiable cls 6).before args s' = true := h _ (by simp [Bundle.ownAtoms0])
  obtain ⟨vm₁, cX, kX, hfX, hkX, -, -, X₁, st1⟩ := Y.newCold hexec (own := own) (C := cls) (index := ik) (n := 6) hown' hk' hins hini'
    (g := F0 m pc ls rest) rfl (by rw [hb]; exact d0) (Nat.le_refl _) (Nat.le_refl _)
  generalize hT1 : (T.setVm vm₁).pushCell { cls := cX, slots := kX.instanceTypes.map defaultValue, vm := .none } = T1 at X₁ st1
  have hcat : (Value.ref T.heap.size).category = 1 := rfl
  have hcellA : T1.heap[T.heap.size]? = some (freshCell cX kX) := by rw [← hT1]; exact State.heap_pushCell_size _ _
  have d3' : decode c.code (pc + 3) = .ok (.dup, 1) := by rw [hb]; exact d3
  obtain ⟨U, hsteps, hrun, hend, hW, hsame, ce, hce, hO⟩ := X₁.ctorThrow0 hexec htr (own := own) (cls := cls) (names := names) (ic := ic) hown' hcls hnames h (fun x hx => nomatch hx) hfX hkX hcellA (by rw [hhp, hT]; exact Nat.le_refl _)
    (g := { method := m, pc := pc + 4, locals := ls, stack := .ref T.heap.size :: .ref T.heap.size :: rest, locked := none }) rfl hsize rfl rfl (rest := rest) rfl
    (by rw [hb]; exact d4) (by rw [hb]; exact d7) hout hRframes (by simp only [List.map_cons, List.sum_cons, hcat]; omega) hlocks
  obtain ⟨f1, f2⟩ := vx_frame hsame
  rw [hhp] at f1 f2
  have hWs : s.WarmedH U.vm := State.WarmedH.trans hW0 hW
  have hcl : s.vm.findClass cls = some ce.cls := by
    have h9 := hO.cls
    rw [hvm] at h9
    exact h9
  have hall : s.sameButNew ({ U with vm := s.vm } : State) locs mc ms := by
    subst hA
    obtain ⟨e1, e2⟩ := hsame
    rw [State.setFrames_setFrames] at e1
    have h2 : (T.setVm s.vm).sameButNew ({ U with vm := s.vm } : State) [] (0 + 1) (0 + 6) := ⟨e1, e2⟩
    have h3 := X.same.trans h2
    rw [List.append_nil] at h3
    exact h3.mono hc hs
  refine ⟨U, ?_, .threw T.heap.size, hrun, hend, Or.inr ⟨T.heap.size, rfl, cls, ce, locs, hx U hWs.alike f1 (fun q hq => f2 q hq (fun z hz => nomatch hz)), hce, hO.vm, hcl, hWs, hall, hf⟩⟩
  refine st1 _ ?_
  show Steps p.tables e below (T1.setTop { method := m, pc := pc + 3, locals := ls, stack := .ref T.heap.size :: rest, locked := none }) _
  jvm_step X₁.here [X₁.here.top, hexec, d3', Value.category]
  exact hsteps
/-- 'throw new E("text")': new; dup; ldc; invokespecial; athrow -/
theorem vx_throwS {cc : ByteArray} {pc : Nat} (hexec : p.tables.exec = Jvm.exec) (hb : c.code = cc) (hl : l.stackTraces = false) {own cls text : String} {names : List String} {ik is ic mc ms sa : Nat} {A : Nat → Prop}
    (hown : s.vm.findClass own = some m.cls) (hcls : Bundle.fit cls = true) (hnames : ∀ n ∈ names, Bundle.fit n = true)
    (hk : (Cond.classLink own ik cls).before args s = true) (hini : (Cond.initialized cls).before args s = true) (hstr : vk_R own is text sa s) (hat : ∀ w ∈ vx_atS own ic cls names, w.before args s = true)
    (hgood : ∀ w ∈ Cond.classLink own ik cls :: Cond.initialized cls :: vx_atS own ic cls names, vx_ot w = true)
    (hU : vx_Zq Bundle.tN "UNASSIGNED_STACK" Bundle.steD A s s.heap) (hN : vx_Zq Bundle.tN "SUPPRESSED_SENTINEL" Bundle.listD A s s.heap) (hS : va_S A s.heap H locs) (hsize : ls.size = c.maxLocals)
    (d0 : decode cc pc = .ok (.new ik, 3)) (d3 : decode cc (pc + 3) = .ok (.dup, 1)) (d4 : decode cc (pc + 4) = .ok (.ldc is, 2)) (d6 : decode cc (pc + 6) = .ok (.invokespecial ic, 3)) (d9 : decode cc (pc + 9) = .ok (.athrow, 1))
    (hout : ∀ x ∈ c.exceptionTable.toList, covers x (pc + 9) = false)
    (hRframes : names.length + 3 < R.frames) (hRlocals : (rest.map fun v => v.category).sum + (13 * (names.length + 1) + 43) ≤ R.locals) (hRcells : cells + 1 ≤ R.cells) (hRslots : slots + 6 ≤ R.slots) (hlocks : meth.locks = false)
    (hx : ∀ t : State, s.vm.Alike t.vm → H.size ≤ t.heap.size → (∀ q : Nat, q < H.size → t.heap[q]? = H[q]?) → XC cls s t)
    (hf : ∀ z ∈ locs, free z.base) (hc : cells + 1 ≤ mc) (hs : slots + 6 ≤ ms) :
    W p l e R s m args below meth c H locs cells slots (vx_MQ below Qc XC args s mc ms free) (F0 m pc ls rest) := by
  intro T hT X
  have htr : e.platform.stackTraces = false := (show e.platform.stackTraces = l.stackTraces by rw [X.admits.platform]).trans hl
  have Y := vx_rebase X (R' := { frames := R.frames, locals := R.locals, cells := 1, slots := 6 }) (Nat.le_refl _) (Nat.le_refl _) hRcells hRslots
  obtain ⟨s', hA⟩ : ∃ z, z = (T.setVm s.vm).setFrames (.invoking m args :: below) := ⟨_, rfl⟩
  rw [← hA] at Y
  have hvm : s'.vm = s.vm := by rw [hA]; rfl
  have hhp : s'.heap = H := by rw [hA]; exact hT
  have hW0 : s.WarmedH s'.vm := by rw [hvm]; exact State.WarmedH.refl s
  have hat' : ∀ w ∈ vx_atS own ic cls names, w.before args s' = true := fun w hw => vx_ot_at hW0 hvm.symm (hgood w (List.mem_cons_of_mem _ (List.mem_cons_of_mem _ hw))) (hat w hw)
  have hk' : (Cond.classLink own ik cls).before args s' = true := vx_ot_at hW0 hvm.symm (hgood _ List.mem_cons_self) hk
  have hini' : (Cond.initialized cls).before args s' = true := vx_ot_at hW0 hvm.symm (hgood _ (List.mem_cons_of_mem _ List.mem_cons_self)) hini
  have hU' : vx_Zq Bundle.tN "UNASSIGNED_STACK" Bundle.steD A s' s'.heap := by rw [hhp]; exact vx_Zq.moved hW0.alike (hU.kept hS.2.1)
  have hN' : vx_Zq Bundle.tN "SUPPRESSED_SENTINEL" Bundle.listD A s' s'.heap := by rw [hhp]; exact vx_Zq.moved hW0.alike (hN.kept hS.2.1)
  have h : ∀ w ∈ Bundle.ownAtoms own ic cls names, w.before args s' = true := vx_own hat' (vx_isRefq hU'.1) (vx_isRefq hN'.1) hU'.2.word hN'.2.word
  have hown' : s'.vm.findClass own = some m.cls := by rw [hvm]; exact hown
  have hins : (Cond.instantiable cls 6).before args s' = true := h _ (by simp [Bundle.ownAtoms])
  obtain ⟨vm₁, cX, kX, hfX, hkX, -, -, X₁, st1⟩ := Y.newCold hexec (own := own) (C := cls) (index := ik) (n := 6) hown' hk' hins hini'
    (g := F0 m pc ls rest) rfl (by rw [hb]; exact d0) (Nat.le_refl _) (Nat.le_refl _)
  generalize hT1 : (T.setVm vm₁).pushCell { cls := cX, slots := kX.instanceTypes.map defaultValue, vm := .none } = T1 at X₁ st1
  have hcat : (Value.ref T.heap.size).category = 1 := rfl
  have hcellA : T1.heap[T.heap.size]? = some (freshCell cX kX) := by rw [← hT1]; exact State.heap_pushCell_size _ _
  have d3' : decode c.code (pc + 3) = .ok (.dup, 1) := by rw [hb]; exact d3
  have d4' : decode c.code (pc + 4) = .ok (.ldc is, 2) := by rw [hb]; exact d4
  have hstr' : vk_R own is text sa s' := vk_R.warm hW0 hstr
  obtain ⟨U, hsteps, hrun, hend, hW, hsame, ce, hce, hO⟩ := X₁.ctorThrowS hexec htr (own := own) (cls := cls) (names := names) (ic := ic) hown' hcls hnames h (fun x hx => nomatch hx) hfX hkX hcellA (by rw [hhp, hT]; exact Nat.le_refl _) (msg := .ref sa) rfl
    (g := { method := m, pc := pc + 6, locals := ls, stack := .ref sa :: .ref T.heap.size :: .ref T.heap.size :: rest, locked := none }) rfl hsize rfl rfl (rest := rest) rfl
    (by rw [hb]; exact d6) (by rw [hb]; exact d9) hout hRframes (by simp only [List.map_cons, List.sum_cons, hcat]; omega) hlocks
  obtain ⟨f1, f2⟩ := vx_frame hsame
  rw [hhp] at f1 f2
  have hWs : s.WarmedH U.vm := State.WarmedH.trans hW0 hW
  have hcl : s.vm.findClass cls = some ce.cls := by
    have h9 := hO.cls
    rw [hvm] at h9
    exact h9
  have hall : s.sameButNew ({ U with vm := s.vm } : State) locs mc ms := by
    subst hA
    obtain ⟨e1, e2⟩ := hsame
    rw [State.setFrames_setFrames] at e1
    have h2 : (T.setVm s.vm).sameButNew ({ U with vm := s.vm } : State) [] (0 + 1) (0 + 6) := ⟨e1, e2⟩
    have h3 := X.same.trans h2
    rw [List.append_nil] at h3
    exact h3.mono hc hs
  refine ⟨U, ?_, .threw T.heap.size, hrun, hend, Or.inr ⟨T.heap.size, rfl, cls, ce, locs, hx U hWs.alike f1 (fun q hq => f2 q hq (fun z hz => nomatch hz)), hce, hO.vm, hcl, hWs, hall, hf⟩⟩
  refine st1 _ ?_
  show Steps p.tables e below (T1.setTop { method := m, pc := pc + 3, locals := ls, stack := .ref T.heap.size :: rest, locked := none }) _
  jvm_step X₁.here [X₁.here.top, hexec, d3', Value.category]
  exact X₁.ldcString hexec (own := own) (text := text) (index := is) (a := sa) hown' hstr'.1 hstr'.2
    (g := { method := m, pc := pc + 4, locals := ls, stack := .ref T.heap.size :: .ref T.heap.size :: rest, locked := none }) rfl d4' _ hsteps
/-- 'throw new E("text")', the text by a wide index -/
theorem vx_throwSW {cc : ByteArray} {pc : Nat} (hexec : p.tables.exec = Jvm.exec) (hb : c.code = cc) (hl : l.stackTraces = false) {own cls text : String} {names : List String} {ik is ic mc ms sa : Nat} {A : Nat → Prop}
    (hown : s.vm.findClass own = some m.cls) (hcls : Bundle.fit cls = true) (hnames : ∀ n ∈ names, Bundle.fit n = true)
    (hk : (Cond.classLink own ik cls).before args s = true) (hini : (Cond.initialized cls).before args s = true) (hstr : vk_R own is text sa s) (hat : ∀ w ∈ vx_atS own ic cls names, w.before args s = true)
    (hgood : ∀ w ∈ Cond.classLink own ik cls :: Cond.initialized cls :: vx_atS own ic cls names, vx_ot w = true)
    (hU : vx_Zq Bundle.tN "UNASSIGNED_STACK" Bundle.steD A s s.heap) (hN : vx_Zq Bundle.tN "SUPPRESSED_SENTINEL" Bundle.listD A s s.heap) (hS : va_S A s.heap H locs) (hsize : ls.size = c.maxLocals)
    (d0 : decode cc pc = .ok (.new ik, 3)) (d3 : decode cc (pc + 3) = .ok (.dup, 1)) (d4 : decode cc (pc + 4) = .ok (.ldc_w is, 3)) (d7 : decode cc (pc + 7) = .ok (.invokespecial ic, 3)) (d10 : decode cc (pc + 10) = .ok (.athrow, 1))
    (hout : ∀ x ∈ c.exceptionTable.toList, covers x (pc + 10) = false)
    (hRframes : names.length + 3 < R.frames) (hRlocals : (rest.map fun v => v.category).sum + (13 * (names.length + 1) + 43) ≤ R.locals) (hRcells : cells + 1 ≤ R.cells) (hRslots : slots + 6 ≤ R.slots) (hlocks : meth.locks = false)
    (hx : ∀ t : State, s.vm.Alike t.vm → H.size ≤ t.heap.size → (∀ q : Nat, q < H.size → t.heap[q]? = H[q]?) → XC cls s t)
    (hf : ∀ z ∈ locs, free z.base) (hc : cells + 1 ≤ mc) (hs : slots + 6 ≤ ms) :
    W p l e R s m args below meth c H locs cells slots (vx_MQ below Qc XC args s mc ms free) (F0 m pc ls rest) := by
  intro T hT X
  have htr : e.platform.stackTraces = false := (show e.platform.stackTraces = l.stackTraces by rw [X.admits.platform]).trans hl
  have Y := vx_rebase X (R' := { frames := R.frames, locals := R.locals, cells := 1, slots := 6 }) (Nat.le_refl _) (Nat.le_refl _) hRcells hRslots
  obtain ⟨s', hA⟩ : ∃ z, z = (T.setVm s.vm).setFrames (.invoking m args :: below) := ⟨_, rfl⟩
  rw [← hA] at Y
  have hvm : s'.vm = s.vm := by rw [hA]; rfl
  have hhp : s'.heap = H := by rw [hA]; exact hT
  have hW0 : s.WarmedH s'.vm := by rw [hvm]; exact State.WarmedH.refl s
  have hat' : ∀ w ∈ vx_atS own ic cls names, w.before args s' = true := fun w hw => vx_ot_at hW0 hvm.symm (hgood w (List.mem_cons_of_mem _ (List.mem_cons_of_mem _ hw))) (hat w hw)
  have hk' : (Cond.classLink own ik cls).before args s' = true := vx_ot_at hW0 hvm.symm (hgood _ List.mem_cons_self) hk
  have hini' : (Cond.initialized cls).before args s' = true := vx_ot_at hW0 hvm.symm (hgood _ (List.mem_cons_of_mem _ List.mem_cons_self)) hini
  have hU' : vx_Zq Bundle.tN "UNASSIGNED_STACK" Bundle.steD A s' s'.heap := by rw [hhp]; exact vx_Zq.moved hW0.alike (hU.kept hS.2.1)
  have hN' : vx_Zq Bundle.tN "SUPPRESSED_SENTINEL" Bundle.listD A s' s'.heap := by rw [hhp]; exact vx_Zq.moved hW0.alike (hN.kept hS.2.1)
  have h : ∀ w ∈ Bundle.ownAtoms own ic cls names, w.before args s' = true := vx_own hat' (vx_isRefq hU'.1) (vx_isRefq hN'.1) hU'.2.word hN'.2.word
  have hown' : s'.vm.findClass own = some m.cls := by rw [hvm]; exact hown
  have hins : (Cond.instantiable cls 6).before args s' = true := h _ (by simp [Bundle.ownAtoms])
  obtain ⟨vm₁, cX, kX, hfX, hkX, -, -, X₁, st1⟩ := Y.newCold hexec (own := own) (C := cls) (index := ik) (n := 6) hown' hk' hins hini'
    (g := F0 m pc ls rest) rfl (by rw [hb]; exact d0) (Nat.le_refl _) (Nat.le_refl _)
  generalize hT1 : (T.setVm vm₁).pushCell { cls := cX, slots := kX.instanceTypes.map defaultValue, vm := .none } = T1 at X₁ st1
  have hcat : (Value.ref T.heap.size).category = 1 := rfl
  have hcellA : T1.heap[T.heap.size]? = some (freshCell cX kX) := by rw [← hT1]; exact State.heap_pushCell_size _ _
  have d3' : decode c.code (pc + 3) = .ok (.dup, 1) := by rw [hb]; exact d3
  have d4' : decode c.code (pc + 4) = .ok (.ldc_w is, 3) := by rw [hb]; exact d4
  have hstr' : vk_R own is text sa s' := vk_R.warm hW0 hstr
  obtain ⟨U, hsteps, hrun, hend, hW, hsame, ce, hce, hO⟩ := X₁.ctorThrowS hexec htr (own := own) (cls := cls) (names := names) (ic := ic) hown' hcls hnames h (fun x hx => nomatch hx) hfX hkX hcellA (by rw [hhp, hT]; exact Nat.le_refl _) (msg := .ref sa) rfl
    (g := { method := m, pc := pc + 7, locals := ls, stack := .ref sa :: .ref T.heap.size :: .ref T.heap.size :: rest, locked := none }) rfl hsize rfl rfl (rest := rest) rfl
    (by rw [hb]; exact d7) (by rw [hb]; exact d10) hout hRframes (by simp only [List.map_cons, List.sum_cons, hcat]; omega) hlocks
  obtain ⟨f1, f2⟩ := vx_frame hsame
  rw [hhp] at f1 f2
  have hWs : s.WarmedH U.vm := State.WarmedH.trans hW0 hW
  have hcl : s.vm.findClass cls = some ce.cls := by
    have h9 := hO.cls
    rw [hvm] at h9
    exact h9
  have hall : s.sameButNew ({ U with vm := s.vm } : State) locs mc ms := by
    subst hA
    obtain ⟨e1, e2⟩ := hsame
    rw [State.setFrames_setFrames] at e1
    have h2 : (T.setVm s.vm).sameButNew ({ U with vm := s.vm } : State) [] (0 + 1) (0 + 6) := ⟨e1, e2⟩
    have h3 := X.same.trans h2
    rw [List.append_nil] at h3
    exact h3.mono hc hs
  refine ⟨U, ?_, .threw T.heap.size, hrun, hend, Or.inr ⟨T.heap.size, rfl, cls, ce, locs, hx U hWs.alike f1 (fun q hq => f2 q hq (fun z hz => nomatch hz)), hce, hO.vm, hcl, hWs, hall, hf⟩⟩
  refine st1 _ ?_
  show Steps p.tables e below (T1.setTop { method := m, pc := pc + 3, locals := ls, stack := .ref T.heap.size :: rest, locked := none }) _
  jvm_step X₁.here [X₁.here.top, hexec, d3', Value.category]
  exact X₁.ldcStringW hexec (own := own) (text := text) (index := is) (a := sa) hown' hstr'.1 hstr'.2
    (g := { method := m, pc := pc + 4, locals := ls, stack := .ref T.heap.size :: .ref T.heap.size :: rest, locked := none }) rfl d4' _ hsteps
end Ends
section Bodies
variable {l : Launch}
theorem vx_ofW {y : MethodName} {ws ws' : List Cond} {rm : Room} {Pc : Array Value → State → Prop} {Qc : Array Value → State → Outcome → State → Prop} {XC : String → State → State → Prop} {mc ms : Nat} {free : Addr → Prop} {cc : ByteArray} {maxL : Nat} {ret : Option FieldType}
    (hy : plainName y.cls = true) (hw : ws = Cond.code y cc maxL ret :: ws')
    (body : ∀ p e s m args below meth c s₁, BodyLoose p l y (headSpec ws rm) cc maxL ret e s m args below meth c s₁ → c.maxLocals = maxL → (∀ x ∈ c.exceptionTable.toList, False) → Pc args s →
      W p l e (headSpec ws rm).room s m args below meth c s.heap [] 0 0 (vx_MQ below Qc XC args s mc ms free) (entryFrame m args maxL)) : vx_Met l y ws rm Pc Qc XC mc ms free := by
  refine MetFree.of_bodyS (code := cc) (maxLocals := maxL) (ret := ret) hy ?_ ?_
  · intro args s m h hn
    obtain ⟨meth, c, h1, h2, h3, h4, h5, h6, -, -⟩ := Cond.code_spec hn (atoms_spec (ws := ws) h _ (by rw [hw]; exact List.mem_cons_self))
    exact ⟨meth, c, h1, h2, h3, h4, h5, h6⟩
  · intro p e s m args below meth c s₁ B hml hP _
    have hh0 : s₁.heap = s.heap := by rw [B.state]; rfl
    have ht : ∀ x ∈ c.exceptionTable.toList, False := by
      obtain ⟨meth9, c9, h1, h2, -, -, -, -, h7, -⟩ := Cond.code_spec B.named (atoms_spec (ws := ws) B.pre _ (by rw [hw]; exact List.mem_cons_self))
      cases Option.some.inj (h1.symm.trans B.method)
      cases Option.some.inj (h2.symm.trans (Stand.of_body B).code)
      intro x hx
      rw [Array.isEmpty_iff.mp h7] at hx
      cases hx
    obtain ⟨t, a1, o, b1, b2, b3⟩ := body p e s m args below meth c s₁ B hml ht hP s₁ hh0 (Stand.of_body B)
    exact ⟨t, o, a1, b1, b2, b3⟩
/-- the table of a body with handlers -/
theorem vx_table {p : Program} {x y : MethodName} {S : Spec} {cc bytes : ByteArray} {maxL maxL' : Nat} {ret ret' : Option FieldType} {e : Env} {s s₁ : State} {m : MethodId} {args : Array Value} {below : List Frame} {meth : Method} {c : Code} {hh : List (Nat × Nat × Nat × Nat)}
    (B : BodyLoose p l y S cc maxL ret e s m args below meth c s₁) (h : (Cond.codeWith y bytes maxL' ret' hh).before args s = true) : c.exceptionTable.toList = tableOf hh := by
  obtain ⟨m9, meth9, c9, hn9, h1, h2, -, -, h6, -⟩ := Cond.codeWith_spec h
  cases Option.some.inj (hn9.symm.trans B.named)
  cases Option.some.inj (h1.symm.trans B.method)
  cases Option.some.inj (h2.symm.trans (Stand.of_body B).code)
  rw [← h6, table_eq]
end Bodies
end VXA
/-! ===== END ===== -/
/-! ===== BEGIN a static call of a method with an exception table ===== -/
section VXS
variable {p : Program} {l : Launch} {e : Env} {R : Room} {s : State} {m : MethodId} {args : Array Value} {below : List Frame} {meth : Method} {c : Code} {T : State} {H : Heap} {locs : List Loc} {cells slots : Nat}
abbrev vx_CSW (R : Room) (s : State) (args : Array Value) (own : String) (index : Nat) (y : MethodName) (bytes : ByteArray) (maxL : Nat) (ret : Option FieldType) (hh : List (Nat × Nat × Nat × Nat)) (ws : List Cond) (rm : Room) (mc ms n : Nat) : Prop :=
  (rm.cells = mc ∧ rm.slots = ms ∧ rm.frames + 1 ≤ R.frames ∧ 8 + (maxL + 11) + rm.locals ≤ R.locals ∧ (∀ w ∈ ws, ∀ (a' : Array Value) (U : State), s.WarmedH U.vm → w.before a' U = true) ∧ Cond.codeWith y bytes maxL ret hh ∈ ws) ∧
  (Cond.codeWith y bytes maxL ret hh).before args s = true ∧ (Cond.initialized y.cls).before args s = true ∧ (y.cls ≠ "java/lang/invoke/MethodHandle" ∧ y.cls ≠ "java/lang/invoke/VarHandle") ∧
  (∀ sig, parseMethodDescriptor y.desc = some sig → n = sig.parameters.length) ∧ (Cond.methodLink own index y).before args s = true ∧ (Cond.static y).before args s = true
theorem vx_cwSW {own : String} {index maxL mc ms : Nat} {y : MethodName} {bytes : ByteArray} {ret : Option FieldType} {hh : List (Nat × Nat × Nat × Nat)} {Ts ws ws' : List Cond} {rm : Room} (n : Nat) (ht : ∀ w ∈ Ts, w.before args s = true) (hT : GoodIn Ts (va_wsS own index y ws)) (hw : ws = Cond.codeWith y bytes maxL ret hh :: ws') (hrc : rm.cells = mc) (hrs : rm.slots = ms)
    (hd : y.cls ≠ "java/lang/invoke/MethodHandle" ∧ y.cls ≠ "java/lang/invoke/VarHandle" ∧ (parseMethodDescriptor y.desc).map (fun d => d.parameters.length) = some n) (hR : rm.frames + 1 ≤ R.frames ∧ 8 + (maxL + 11) + rm.locals ≤ R.locals) :
    vx_CSW R s args own index y bytes maxL ret hh ws rm mc ms n := by
  have ok : ∀ w ∈ va_wsS own index y ws, w.before args s = true := fun w h => ht w (hT w h).1
  have hG : GoodIn Ts ws := fun w h => hT w (by unfold va_wsS; exact List.mem_append_right _ h)
  have hc : Cond.codeWith y bytes maxL ret hh ∈ ws := by rw [hw]; exact List.mem_cons_self
  refine ⟨⟨hrc, hrs, hR.1, hR.2, pay_in ht hG, hc⟩, ht _ (hG _ hc).1, ok _ (by simp [va_wsS]), ⟨hd.1, hd.2.1⟩, fun sig h => ?_, ok _ (by simp [va_wsS]), ok _ (by simp [va_wsS])⟩
  have h2 := hd.2.2
  rw [h] at h2
  exact (Option.some.inj h2).symm
theorem vx_callSW (X : Stand p l e R s m args below meth c T locs cells slots) (hexec : p.tables.exec = Jvm.exec) {own : String} {index : Nat} {y : MethodName} {bytes : ByteArray} {maxL : Nat} {ret : Option FieldType} {hh : List (Nat × Nat × Nat × Nat)}
    (hown : s.vm.findClass own = some m.cls) (hlink : (Cond.methodLink own index y).before args s = true) (hstat : (Cond.static y).before args s = true) (hinit : (Cond.initialized y.cls).before args s = true)
    (hcode : (Cond.codeWith y bytes maxL ret hh).before args s = true) (hy : y.cls ≠ "java/lang/invoke/MethodHandle" ∧ y.cls ≠ "java/lang/invoke/VarHandle")
    {W9 : Nat} {Pre : Pt → Array Value → Prop} {Post : Pt → Array Value → Option Value → Pt → Prop} (hK : Back l R p e below s args y 3 W9 Pre Post)
    {g : JFrame} (hg : g.method = m) (hsize : g.locals.size = c.maxLocals) {argsL rest : List Value} (hlen : ∀ sig, parseMethodDescriptor y.desc = some sig → argsL.length = sig.parameters.length)
    (hstack : g.stack = argsL.reverse ++ rest) (hW : 2 * g.monitorRoom + (rest.map fun v => v.category).sum ≤ W9) (hdg : decode c.code g.pc = .ok (.invokestatic index, 3))
    (hpre : ∀ vm₁, s.WarmedH vm₁ → Pre ⟨T.setVm vm₁, locs, cells, slots⟩ argsL.toArray) :
    ∃ (v : Option Value) (vm₁ : Vm) (B : Pt), s.WarmedH vm₁ ∧ Stand p l e R s m args below meth c B.U B.locs B.cells B.slots ∧ Post ⟨T.setVm vm₁, locs, cells, slots⟩ argsL.toArray v B ∧
      ∀ target, Steps p.tables e below (B.U.setTop { g with pc := g.pc + 3, stack := v.toList ++ rest }) target → Steps p.tables e below (T.setTop g) target := by
  obtain ⟨mk, methM, cM, hnamed, hmethM, -, -, -, -, -, -, hsigM⟩ := Cond.codeWith_spec hcode
  have hstatic : methM.isStatic = true := Cond.static_spec hnamed hmethM hstat
  obtain ⟨kP, hkP, -⟩ := className_of_methodNamed hnamed
  have hinitP : kP.init = .initialized := Cond.initialized_spec (findClass_of_methodNamed hnamed) hkP hinit
  obtain ⟨vm₁, X₁, hstep₁⟩ := X.invokestatic hexec hown hlink hnamed hmethM hstatic hkP hinitP hy (g := g) hg (argsL := argsL) (rest := rest) (hlen _ hsigM) hstack hdg
  obtain ⟨v, B, X', hpost, hsteps⟩ := hK m meth c ⟨T.setVm vm₁, locs, cells, slots⟩ { g with stack := rest } (.invokestatic index) mk argsL.toArray X₁ hg hsize hdg hW (X₁.named hnamed) (hpre vm₁ X₁.warmed)
  exact ⟨v, vm₁, B, X₁.warmed, X', hpost, fun target h => hstep₁ _ fun acts => by rw [doInvoke_state]; exact hsteps.trans h⟩
theorem vx_runSW {y : MethodName} {bytes cc : ByteArray} {maxL nL mc ms n index : Nat} {ret : Option FieldType} {hh : List (Nat × Nat × Nat × Nat)} {ws : List Cond} {rm : Room} {Pc : Array Value → State → Prop} {Qc : Array Value → State → Outcome → State → Prop} {free : Addr → Prop} {Ts : List Cond} {own : String} {As rest : List Value} {g : JFrame}
    (S : CallFix p m c cc nL s args Ts own) (hM : Met l y ws rm Pc Qc mc ms free) (cw : vx_CSW R s args own index y bytes maxL ret hh ws rm mc ms n) (hp : PreS s H Pc As)
    (hg : g.method = m) (hn : As.length = n) (hsize : g.locals.size = nL) (hstack : g.stack = As.reverse ++ rest) (hW : 2 * g.monitorRoom + (rest.map fun v => v.category).sum ≤ 8) (hdg : decode cc g.pc = .ok (.invokestatic index, 3)) (hf : cells + mc ≤ R.cells ∧ slots + ms ≤ R.slots) :
    va_Run p l e R s m args below meth c H locs cells slots mc ms g rest (Qc As.toArray) (free) := by
  obtain ⟨⟨hrc, hrs, hfr, hlo, hws, hcw⟩, hcode, hini, hy, hlen, hl, hstt⟩ := cw
  have hK : Back l R p e below s args y 3 8 (PreOf R mc ms Pc) (PostOf Qc mc ms free) := va_backW (hh := hh) (bytes := bytes) (maxL := maxL) (ret := ret) hM hp.1 hrc hrs hfr hlo hws hcw (fun a' U hW => word_at hW (Or.inl (by first | rfl | simp [Cond.onTables, Cond.keeps, Cond.steady])) hini)
  obtain ⟨hx, hb, hml, ho, -⟩ := S
  intro T hT X
  obtain ⟨v, vm₁, ⟨U', l2, c2, s2⟩, hW₁, X', ⟨g', mk, t, L, e1, e2, hq, h1, hL, h2, h3⟩, st⟩ := vx_callSW X hx (hh := hh) (bytes := bytes) (maxL := maxL) (ret := ret) ho hl hstt hini hcode hy hK hg (hsize.trans hml.symm) (argsL := As) (rest := rest) (fun sig h => hn.trans (hlen sig h)) hstack hW (by rw [hb]; exact hdg)
    (fun vm₁ hW₁ => ⟨hf.1, hf.2, hp.2 (T.setVm vm₁) hT hW₁⟩)
  dsimp only [Pt.U, Pt.locs, Pt.cells, Pt.slots] at X' e1 e2 h1 h2 h3 st
  subst h1; subst h2; subst h3
  exact ⟨v, (T.setVm vm₁).calling g' mk As.toArray, t, U', L, hT, X', hL, e1, e2, hq, st⟩
/-- not caught here, past rows that name other classes: it goes on to the caller -/
theorem vx_outP {p : Program} {l : Launch} {e : Env} {R : Room} {s : State} {m : MethodId} {args : Array Value} {below : List Frame} {meth : Method} {c : Code} {H : Heap} {locs : List Loc} {cells slots : Nat} {free : Addr → Prop} {ls : Array Slot} {rest : List Value} {Qc : Array Value → State → Outcome → State → Prop} {XC : String → State → State → Prop}
    {pc : Nat} {own E : String} {ce : Cell} {q : Addr} {mc ms : Nat} (hown : s.vm.findClass own = some m.cls) (hlocks : meth.locks = false)
    (hpass : ∀ z ∈ c.exceptionTable.toList, covers z pc = false ∨ (z.catchType ≠ 0 ∧ ∃ nm : String, (Cond.classLink own z.catchType nm).before args s = true ∧ va_Nc E nm s)) (hcell : H[q]? = some ce) (hv : ce.vm = .none) (hcl : s.vm.findClass E = some ce.cls)
    (hx : ∀ t : State, t.heap = H → s.vm.Alike t.vm → XC E s t) (hf : ∀ z ∈ locs, free z.base) (hc : cells ≤ mc) (hs : slots ≤ ms) :
    vx_W p l e R s m args below meth c H locs cells slots (vx_MQ below Qc XC args s mc ms free) (F0 m pc ls rest) q := by
  intro T hT X
  have hpl : e.platform.magicAccessors = ({} : Platform).magicAccessors := by rw [X.admits.platform]
  obtain ⟨vm', hW', X', st⟩ := X.outThrough hlocks q (g := F0 m pc ls rest) rfl rfl rfl (cell := ce) (by rw [hT]; exact hcell) (by rw [hv]; rfl)
    (by obtain ⟨k9, h9, -⟩ := Vm.findClass_spec hcl; exact ⟨k9, h9⟩) (fun z hz => by
      rcases hpass z hz with h | ⟨hz0, nm, hl1, hn1⟩
      · exact Or.inl h
      · obtain ⟨c6, hc6, hcl6⟩ := Cond.classLink_spec hown hl1 e.platform hpl
        obtain ⟨a8, b8, h1, h2, h3⟩ := hn1
        cases Option.some.inj (h1.symm.trans hcl)
        cases Option.some.inj (h2.symm.trans hc6)
        exact Or.inr ⟨hz0, _, hcl6, h3⟩)
  obtain ⟨g₀, hfr⟩ := X'.frames_eq
  have hcell9 : ((T.setVm vm').setFrames (.throwing q :: below)).heap[q]? = some ce := by
    show T.heap[q]? = some ce
    rw [hT]; exact hcell
  have hend : Ended ((T.setVm vm').setFrames (.throwing q :: below)) below (.threw q) := State.frames_setFrames _ (State.cur_lt_of_frames hfr)
  refine ⟨(T.setVm vm').setFrames (.throwing q :: below), ?_, .threw q, X'.here.running, hend, Or.inr ⟨q, rfl, E, ce, locs, hx _ hT (X'.ends _).1.alike, hcell9, hv, hcl, (X'.ends _).1, (X'.ends _).2.mono hc hs, hf⟩⟩
  rw [X.pushThrowing_eq]
  exact st
/-- a thing of a world lies in the heap -/
theorem vx_lt {D : va_G} {cl : List vw_C} {ws : va_W} {H1 : Heap} (h : va_P D cl ws H1) {k : Nat} {q : Nat × va_E} (hk : ws[k]? = some q) : q.1 < H1.size := (h k q hk).lt
end VXS
/-! ===== END ===== -/
/-! ===== BEGIN methods with a table of their own: called by a name, returning or throwing ===== -/
section VXH
/-! vx_backW, vx_callVX, vx_callSX, vx_callVW, vx_runVW, vx_runVX, vx_runSX, vx_ofWH follow the same proofs as their sisters above (Free/Laws.lean, Shelf42/LK1.lean); vx_outP calls Shelf42/NT130.lean (outThrough). -/
section
variable {l : Launch} {R : Room} {p : Program} {e : Env} {below : List Frame} {s : State} {sargs : Array Value} {y : MethodName} {len W9 : Nat}
theorem vx_backW {ws : List Cond} {rm : Room} {Pc : Array Value → State → Prop} {Qc : Array Value → State → Outcome → State → Prop} {XC : String → State → State → Prop} {mc ms : Nat} {free : Addr → Prop} {bytes : ByteArray} {maxL : Nat} {ret : Option FieldType} {hh : List (Nat × Nat × Nat × Nat)}
    (hM : vx_Met l y ws rm Pc Qc XC mc ms free) (hblind : FrameBlind Pc) (hrc : rm.cells = mc) (hrs : rm.slots = ms)
    (hframes : rm.frames + 1 ≤ R.frames) (hlocals : W9 + (maxL + 11) + rm.locals ≤ R.locals)
    (hws : ∀ w ∈ ws, ∀ a' U, s.WarmedH U.vm → w.before a' U = true) (hcode : Cond.codeWith y bytes maxL ret hh ∈ ws) (hinit : ∀ a' U, s.WarmedH U.vm → (Cond.initialized y.cls).before a' U = true) :
    vx_Back l R p e below s sargs y len W9 (PreOf R mc ms Pc) (PostOf Qc mc ms free) (vx_Post XC mc ms free) := by
  intro m meth c A g ig mk a X hg hsize hdg hW hn hp
  have h1 : (headSpec ws rm).pre.before a A.U = true := atoms_intro fun w hw => hws w hw _ _ X.warmed
  have h2 : (Cond.codeWith y bytes maxL ret hh).before a A.U = true := hws _ hcode _ _ X.warmed
  have h3 : (Cond.initialized y.cls).before a A.U = true := hinit _ _ X.warmed
  have h4 : A.cells + (headSpec ws rm).room.cells ≤ R.cells := by rw [show (headSpec ws rm).room.cells = mc from hrc]; exact hp.1
  have h5 : A.slots + (headSpec ws rm).room.slots ≤ R.slots := by rw [show (headSpec ws rm).room.slots = ms from hrs]; exact hp.2.1
  have hPc : Pc a (A.U.calling g mk a) := hblind _ _ _ _ hp.2.2
  obtain ⟨U, Ls, c0, s0⟩ := A
  dsimp only [Pt.U, Pt.locs, Pt.cells, Pt.slots] at h1 h2 h3 h4 h5 X hn hPc ⊢
  obtain ⟨m9, methY, cY, hn9, hmY, hcY, -, hlY, -⟩ := Cond.codeWith_spec h2
  cases Option.some.inj (hn9.symm.trans hn)
  obtain ⟨kY, hkY, -⟩ := className_of_methodNamed hn
  have hinitY : kY.init = .initialized := Cond.initialized_spec (findClass_of_methodNamed hn) hkY h3
  have h : At U g.method c below := by rw [hg]; exact X.here
  have hlocals9 : W9 + (maxL + 11) + (headSpec ws rm).room.locals ≤ R.locals := hlocals
  have happ : (headSpec ws rm).appliesLoose y e.platform (U.calling g mk a) = true :=
    Spec.appliesLoose_calling (g := g) h hdg hn hkY hinitY
      (X.room_calling (g := g) (R' := (headSpec ws rm).room) hsize hmY hcY hframes (by rw [hlY]; omega) h4 h5) h1
  obtain ⟨mid, hmid⟩ := h.above
  have hfr : (U.setTop g).frames = (.java g :: mid) ++ below := by rw [State.frames_setTop' g h.top, hmid]; rfl
  obtain ⟨o, s₂, hsteps, -, hend, hq⟩ := Steps.callFree hM p X.admits X.cas X.clock (acts := []) hfr happ hPc trivial
  have hq' : vx_Q Qc XC mc ms free a (U.calling g mk a) o s₂ := hq
  rw [State.frames_setTop' g h.top] at hend
  obtain ⟨g₀, hg0⟩ := Option.isSome_iff_exists.mp h.top
  obtain ⟨r, hr⟩ := State.topJava?_eq_some.mp hg0
  have hr' : (({ U with heap := s₂.heap, slotsUsed := s₂.slotsUsed } : State).setVm s₂.vm).frames = .java g₀ :: r := hr
  rcases hq' with ⟨hqc, L, hfe, hL⟩ | ⟨q, rfl, E, ce, L, hx, hce, hcv, hcl, hW₂, hsm, hL⟩
  · obtain ⟨⟨v, rfl⟩, hW₂, e2, q2, q3, q4, q5, q6⟩ := id hfe
    have e3 : s₂ = ({ (U.calling g mk a).setFrames s₂.frames with heap := s₂.heap, slotsUsed := s₂.slotsUsed } : State).setVm s₂.vm := by
      have : s₂ = ({ s₂ with vm := (U.calling g mk a).vm } : State).setVm s₂.vm := rfl
      rw [e2] at this
      exact this
    obtain ⟨c₂, i₂, len₂, hc₂, hd₂, hf₂⟩ := hend
    have hW' : U.WarmedH s₂.vm := hW₂
    have hcc : c₂ = c := by
      have h1 : s₂.code? g.method = U.code? g.method := by
        rw [State.code?_eq, State.code?_eq, hW'.alike.method?]
      exact Option.some.inj (hc₂.symm.trans (h1.trans h.code))
    subst hcc
    have hlen : len₂ = len := by rw [hdg] at hd₂; cases hd₂; rfl
    subst hlen
    have hs₂ : s₂ = (({ U with heap := s₂.heap, slotsUsed := s₂.slotsUsed } : State).setVm s₂.vm).setTop { g with pc := g.pc + len₂, stack := v.toList ++ g.stack } := by
      refine e3.trans ?_
      rw [hf₂, State.calling_eq h.top, State.setFrames_setFrames, State.setTop_of_frames _ hr', hr]
      rfl
    have hsame : U.sameButNew ({ U with heap := s₂.heap, slotsUsed := s₂.slotsUsed } : State) L mc ms := by
      refine ⟨?_, q2, q3, q4, q5, q6⟩
      obtain ⟨t, ht, -⟩ := State.frames_cons hr
      show ({ U with heap := s₂.heap, slotsUsed := s₂.slotsUsed } : State) = { U.setFrames U.frames with heap := s₂.heap, slotsUsed := s₂.slotsUsed }
      rw [State.setFrames_self ht]
    subst hg
    refine Or.inl ⟨v, ⟨(({ U with heap := s₂.heap, slotsUsed := s₂.slotsUsed } : State).setVm s₂.vm), Ls ++ L, c0 + mc, s0 + ms⟩,
      ⟨X.admits, X.cas, X.clock, X.frames, X.room, X.hears, X.method, X.code, (X.here.setHeapUsed s₂.heap s₂.slotsUsed).setVm hW'.alike, X.tail, State.WarmedH.trans X.warmed hW', X.limits, X.bytes, X.same.trans (hsame.setVm s.vm)⟩,
      ⟨g, mk, s₂, L, rfl, rfl, hqc, rfl, hL, rfl, rfl⟩, ?_⟩
    show Steps p.tables e below _ ((({ U with heap := s₂.heap, slotsUsed := s₂.slotsUsed } : State).setVm s₂.vm).setTop { g with pc := g.pc + len₂, stack := v.toList ++ g.stack })
    rw [← hs₂]
    exact hsteps
  · obtain ⟨e2, q2, q3, q4, q5, q6⟩ := id hsm
    have e3 : s₂ = ({ (U.calling g mk a).setFrames s₂.frames with heap := s₂.heap, slotsUsed := s₂.slotsUsed } : State).setVm s₂.vm := by
      have : s₂ = ({ s₂ with vm := (U.calling g mk a).vm } : State).setVm s₂.vm := rfl
      rw [e2] at this
      exact this
    have hf₂ : s₂.frames = .throwing q :: .java g :: U.frames.tail := hend
    have hW' : U.WarmedH s₂.vm := hW₂
    have hs₂ : s₂ = ((({ U with heap := s₂.heap, slotsUsed := s₂.slotsUsed } : State).setVm s₂.vm).setTop g).pushFrame (.throwing q) := by
      refine e3.trans ?_
      rw [hf₂, State.calling_eq h.top, State.setFrames_setFrames, State.pushFrame, State.frames_setTop _ hr', State.setTop_of_frames _ hr', State.setFrames_setFrames, hr]
      rfl
    have hsame : U.sameButNew ({ U with heap := s₂.heap, slotsUsed := s₂.slotsUsed } : State) L mc ms := by
      refine ⟨?_, q2, q3, q4, q5, q6⟩
      obtain ⟨t, ht, -⟩ := State.frames_cons hr
      show ({ U with heap := s₂.heap, slotsUsed := s₂.slotsUsed } : State) = { U.setFrames U.frames with heap := s₂.heap, slotsUsed := s₂.slotsUsed }
      rw [State.setFrames_self ht]
    subst hg
    refine Or.inr ⟨q, ⟨(({ U with heap := s₂.heap, slotsUsed := s₂.slotsUsed } : State).setVm s₂.vm), Ls ++ L, c0 + mc, s0 + ms⟩,
      ⟨X.admits, X.cas, X.clock, X.frames, X.room, X.hears, X.method, X.code, (X.here.setHeapUsed s₂.heap s₂.slotsUsed).setVm hW'.alike, X.tail, State.WarmedH.trans X.warmed hW', X.limits, X.bytes, X.same.trans (hsame.setVm s.vm)⟩,
      ⟨g, mk, s₂, L, E, ce, rfl, rfl, hx, hce, hcv, hcl, rfl, hL, rfl, rfl⟩, ?_⟩
    show Steps p.tables e below _ (((({ U with heap := s₂.heap, slotsUsed := s₂.slotsUsed } : State).setVm s₂.vm).setTop g).pushFrame (.throwing q))
    rw [← hs₂]
    exact hsteps
end
variable {p : Program} {l : Launch} {e : Env} {R : Room} {s : State} {m : MethodId} {args : Array Value} {below : List Frame} {meth : Method} {c : Code} {T : State} {H : Heap} {locs : List Loc} {cells slots : Nat}
theorem vx_callVX (X : Stand p l e R s m args below meth c T locs cells slots) (hexec : p.tables.exec = Jvm.exec) {own C : String} {index : Nat} {y : MethodName} {bytes : ByteArray} {maxL : Nat} {ret : Option FieldType} {hh : List (Nat × Nat × Nat × Nat)}
    (hown : s.vm.findClass own = some m.cls) (hlink : (Cond.methodLink own index y).before args s = true) (hinst : (Cond.instanceMethod y).before args s = true) (hsel : (Cond.selects C y y).before args s = true)
    (hcode : (Cond.codeWith y bytes maxL ret hh).before args s = true) (hy : y.cls ≠ "java/lang/invoke/MethodHandle" ∧ y.cls ≠ "java/lang/invoke/VarHandle")
    {W9 : Nat} {Pre : Pt → Array Value → Prop} {Post : Pt → Array Value → Option Value → Pt → Prop} {PostX : Pt → Array Value → Addr → Pt → Prop} (hK : vx_Back l R p e below s args y 3 W9 Pre Post PostX)
    {b : Addr} {cellB : Cell} (hcell : T.heap[b]? = some cellB) (hobj : cellB.vm.isStatics = false) (hcls : s.vm.findClass C = some cellB.cls)
    {g : JFrame} (hg : g.method = m) (hsize : g.locals.size = c.maxLocals) {argsL rest : List Value} (hlen : ∀ sig, parseMethodDescriptor y.desc = some sig → argsL.length = sig.parameters.length)
    (hstack : g.stack = argsL.reverse ++ .ref b :: rest) (hW : 2 * g.monitorRoom + (rest.map fun v => v.category).sum ≤ W9) (hdg : decode c.code g.pc = .ok (.invokevirtual index, 3))
    (hpre : ∀ vm₁, s.WarmedH vm₁ → Pre ⟨T.setVm vm₁, locs, cells, slots⟩ (Value.ref b :: argsL).toArray) :
    (∃ (v : Option Value) (vm₁ : Vm) (B : Pt), s.WarmedH vm₁ ∧ Stand p l e R s m args below meth c B.U B.locs B.cells B.slots ∧ Post ⟨T.setVm vm₁, locs, cells, slots⟩ (Value.ref b :: argsL).toArray v B ∧
      ∀ target, Steps p.tables e below (B.U.setTop { g with pc := g.pc + 3, stack := v.toList ++ rest }) target → Steps p.tables e below (T.setTop g) target) ∨
    (∃ (q : Addr) (vm₁ : Vm) (B : Pt), s.WarmedH vm₁ ∧ Stand p l e R s m args below meth c B.U B.locs B.cells B.slots ∧ PostX ⟨T.setVm vm₁, locs, cells, slots⟩ (Value.ref b :: argsL).toArray q B ∧
      Steps p.tables e below (T.setTop g) ((B.U.setTop { g with stack := rest }).pushFrame (.throwing q))) := by
  obtain ⟨mk, methM, hnamed, hmethM, hstM, habM⟩ := Cond.instanceMethod_spec hinst
  obtain ⟨m8, methM', cM, hn8, hmethM', -, -, -, -, -, -, hsigM⟩ := Cond.codeWith_spec hcode
  cases Option.some.inj (hn8.symm.trans hnamed)
  cases hmethM.symm.trans hmethM'
  obtain ⟨c2, r2, m2, q1, q2, q3, q4, kP, hkP, hkPi⟩ := Cond.selects_spec hsel
  cases hcls.symm.trans q1
  cases (State.methodFound?_of_named hnamed hy).symm.trans q2
  cases hnamed.symm.trans q3
  have hselP : selectMethod e.platform s.vm cellB.cls mk = .method mk := by rw [Launch.admits_selectMethod X.admits]; exact q4
  obtain ⟨vm₁, X₁, hstep₁⟩ := X.invokevirtual hexec hown hlink hnamed hmethM hstM hkP hkPi hy (a := b) (cell := cellB) hcell
    (fun z h => by rw [h] at hobj; cases hobj) hselP hmethM habM hkP hkPi (g := g) hg (argsL := argsL) (rest := rest) (hlen _ hsigM) hstack hdg
  rcases hK m meth c ⟨T.setVm vm₁, locs, cells, slots⟩ { g with stack := rest } (.invokevirtual index) mk (Value.ref b :: argsL).toArray X₁ hg hsize hdg hW (X₁.named hnamed) (hpre vm₁ X₁.warmed) with ⟨v, B, X', hpost, hsteps⟩ | ⟨q, B, X', hpost, hsteps⟩
  · exact Or.inl ⟨v, vm₁, B, X₁.warmed, X', hpost, fun target h => hstep₁ _ fun acts => by rw [doInvoke_state]; exact hsteps.trans h⟩
  · exact Or.inr ⟨q, vm₁, B, X₁.warmed, X', hpost, hstep₁ _ fun acts => by rw [doInvoke_state]; exact hsteps⟩
theorem vx_callSX (X : Stand p l e R s m args below meth c T locs cells slots) (hexec : p.tables.exec = Jvm.exec) {own : String} {index : Nat} {y : MethodName} {bytes : ByteArray} {maxL : Nat} {ret : Option FieldType} {hh : List (Nat × Nat × Nat × Nat)}
    (hown : s.vm.findClass own = some m.cls) (hlink : (Cond.methodLink own index y).before args s = true) (hstat : (Cond.static y).before args s = true) (hinit : (Cond.initialized y.cls).before args s = true)
    (hcode : (Cond.codeWith y bytes maxL ret hh).before args s = true) (hy : y.cls ≠ "java/lang/invoke/MethodHandle" ∧ y.cls ≠ "java/lang/invoke/VarHandle")
    {W9 : Nat} {Pre : Pt → Array Value → Prop} {Post : Pt → Array Value → Option Value → Pt → Prop} {PostX : Pt → Array Value → Addr → Pt → Prop} (hK : vx_Back l R p e below s args y 3 W9 Pre Post PostX)
    {g : JFrame} (hg : g.method = m) (hsize : g.locals.size = c.maxLocals) {argsL rest : List Value} (hlen : ∀ sig, parseMethodDescriptor y.desc = some sig → argsL.length = sig.parameters.length)
    (hstack : g.stack = argsL.reverse ++ rest) (hW : 2 * g.monitorRoom + (rest.map fun v => v.category).sum ≤ W9) (hdg : decode c.code g.pc = .ok (.invokestatic index, 3))
    (hpre : ∀ vm₁, s.WarmedH vm₁ → Pre ⟨T.setVm vm₁, locs, cells, slots⟩ argsL.toArray) :
    (∃ (v : Option Value) (vm₁ : Vm) (B : Pt), s.WarmedH vm₁ ∧ Stand p l e R s m args below meth c B.U B.locs B.cells B.slots ∧ Post ⟨T.setVm vm₁, locs, cells, slots⟩ argsL.toArray v B ∧
      ∀ target, Steps p.tables e below (B.U.setTop { g with pc := g.pc + 3, stack := v.toList ++ rest }) target → Steps p.tables e below (T.setTop g) target) ∨
    (∃ (q : Addr) (vm₁ : Vm) (B : Pt), s.WarmedH vm₁ ∧ Stand p l e R s m args below meth c B.U B.locs B.cells B.slots ∧ PostX ⟨T.setVm vm₁, locs, cells, slots⟩ argsL.toArray q B ∧
      Steps p.tables e below (T.setTop g) ((B.U.setTop { g with stack := rest }).pushFrame (.throwing q))) := by
  obtain ⟨mk, methM, cM, hnamed, hmethM, -, -, -, -, -, -, hsigM⟩ := Cond.codeWith_spec hcode
  have hstatic : methM.isStatic = true := Cond.static_spec hnamed hmethM hstat
  obtain ⟨kP, hkP, -⟩ := className_of_methodNamed hnamed
  have hinitP : kP.init = .initialized := Cond.initialized_spec (findClass_of_methodNamed hnamed) hkP hinit
  obtain ⟨vm₁, X₁, hstep₁⟩ := X.invokestatic hexec hown hlink hnamed hmethM hstatic hkP hinitP hy (g := g) hg (argsL := argsL) (rest := rest) (hlen _ hsigM) hstack hdg
  rcases hK m meth c ⟨T.setVm vm₁, locs, cells, slots⟩ { g with stack := rest } (.invokestatic index) mk argsL.toArray X₁ hg hsize hdg hW (X₁.named hnamed) (hpre vm₁ X₁.warmed) with ⟨v, B, X', hpost, hsteps⟩ | ⟨q, B, X', hpost, hsteps⟩
  · exact Or.inl ⟨v, vm₁, B, X₁.warmed, X', hpost, fun target h => hstep₁ _ fun acts => by rw [doInvoke_state]; exact hsteps.trans h⟩
  · exact Or.inr ⟨q, vm₁, B, X₁.warmed, X', hpost, hstep₁ _ fun acts => by rw [doInvoke_state]; exact hsteps⟩
theorem vx_callVW (X : Stand p l e R s m args below meth c T locs cells slots) (hexec : p.tables.exec = Jvm.exec) {own C : String} {index : Nat} {y : MethodName} {bytes : ByteArray} {maxL : Nat} {ret : Option FieldType} {hh : List (Nat × Nat × Nat × Nat)}
    (hown : s.vm.findClass own = some m.cls) (hlink : (Cond.methodLink own index y).before args s = true) (hinst : (Cond.instanceMethod y).before args s = true) (hsel : (Cond.selects C y y).before args s = true)
    (hcode : (Cond.codeWith y bytes maxL ret hh).before args s = true) (hy : y.cls ≠ "java/lang/invoke/MethodHandle" ∧ y.cls ≠ "java/lang/invoke/VarHandle")
    {W9 : Nat} {Pre : Pt → Array Value → Prop} {Post : Pt → Array Value → Option Value → Pt → Prop} (hK : Back l R p e below s args y 3 W9 Pre Post)
    {b : Addr} {cellB : Cell} (hcell : T.heap[b]? = some cellB) (hobj : cellB.vm.isStatics = false) (hcls : s.vm.findClass C = some cellB.cls)
    {g : JFrame} (hg : g.method = m) (hsize : g.locals.size = c.maxLocals) {argsL rest : List Value} (hlen : ∀ sig, parseMethodDescriptor y.desc = some sig → argsL.length = sig.parameters.length)
    (hstack : g.stack = argsL.reverse ++ .ref b :: rest) (hW : 2 * g.monitorRoom + (rest.map fun v => v.category).sum ≤ W9) (hdg : decode c.code g.pc = .ok (.invokevirtual index, 3))
    (hpre : ∀ vm₁, s.WarmedH vm₁ → Pre ⟨T.setVm vm₁, locs, cells, slots⟩ (Value.ref b :: argsL).toArray) :
    ∃ (v : Option Value) (vm₁ : Vm) (B : Pt), s.WarmedH vm₁ ∧ Stand p l e R s m args below meth c B.U B.locs B.cells B.slots ∧ Post ⟨T.setVm vm₁, locs, cells, slots⟩ (Value.ref b :: argsL).toArray v B ∧
      ∀ target, Steps p.tables e below (B.U.setTop { g with pc := g.pc + 3, stack := v.toList ++ rest }) target → Steps p.tables e below (T.setTop g) target := by
  obtain ⟨mk, methM, hnamed, hmethM, hstM, habM⟩ := Cond.instanceMethod_spec hinst
  obtain ⟨m8, methM', cM, hn8, hmethM', -, -, -, -, -, -, hsigM⟩ := Cond.codeWith_spec hcode
  cases Option.some.inj (hn8.symm.trans hnamed)
  cases hmethM.symm.trans hmethM'
  obtain ⟨c2, r2, m2, q1, q2, q3, q4, kP, hkP, hkPi⟩ := Cond.selects_spec hsel
  cases hcls.symm.trans q1
  cases (State.methodFound?_of_named hnamed hy).symm.trans q2
  cases hnamed.symm.trans q3
  have hselP : selectMethod e.platform s.vm cellB.cls mk = .method mk := by rw [Launch.admits_selectMethod X.admits]; exact q4
  obtain ⟨vm₁, X₁, hstep₁⟩ := X.invokevirtual hexec hown hlink hnamed hmethM hstM hkP hkPi hy (a := b) (cell := cellB) hcell
    (fun z h => by rw [h] at hobj; cases hobj) hselP hmethM habM hkP hkPi (g := g) hg (argsL := argsL) (rest := rest) (hlen _ hsigM) hstack hdg
  obtain ⟨v, B, X', hpost, hsteps⟩ := hK m meth c ⟨T.setVm vm₁, locs, cells, slots⟩ { g with stack := rest } (.invokevirtual index) mk (Value.ref b :: argsL).toArray X₁ hg hsize hdg hW (X₁.named hnamed) (hpre vm₁ X₁.warmed)
  exact ⟨v, vm₁, B, X₁.warmed, X', hpost, fun target h => hstep₁ _ fun acts => by rw [doInvoke_state]; exact hsteps.trans h⟩
abbrev vx_CVW (R : Room) (s : State) (args : Array Value) (own C : String) (index : Nat) (y : MethodName) (bytes : ByteArray) (maxL : Nat) (ret : Option FieldType) (hh : List (Nat × Nat × Nat × Nat)) (ws : List Cond) (rm : Room) (mc ms n : Nat) : Prop :=
  (rm.cells = mc ∧ rm.slots = ms ∧ rm.frames + 1 ≤ R.frames ∧ 8 + (maxL + 11) + rm.locals ≤ R.locals ∧ (∀ w ∈ ws, ∀ (a' : Array Value) (U : State), s.WarmedH U.vm → w.before a' U = true) ∧ Cond.codeWith y bytes maxL ret hh ∈ ws) ∧
  (Cond.codeWith y bytes maxL ret hh).before args s = true ∧ (Cond.initialized y.cls).before args s = true ∧ (y.cls ≠ "java/lang/invoke/MethodHandle" ∧ y.cls ≠ "java/lang/invoke/VarHandle") ∧
  (∀ sig, parseMethodDescriptor y.desc = some sig → n = sig.parameters.length) ∧ (Cond.methodLink own index y).before args s = true ∧ (Cond.instanceMethod y).before args s = true ∧ (Cond.selects C y y).before args s = true
theorem vx_cwVW {own C : String} {index maxL mc ms : Nat} {y : MethodName} {bytes : ByteArray} {ret : Option FieldType} {hh : List (Nat × Nat × Nat × Nat)} {Ts ws ws' : List Cond} {rm : Room} (n : Nat) (ht : ∀ w ∈ Ts, w.before args s = true) (hT : GoodIn Ts (wsV own index C y ws)) (hw : ws = Cond.codeWith y bytes maxL ret hh :: ws') (hrc : rm.cells = mc) (hrs : rm.slots = ms)
    (hd : y.cls = C ∧ y.cls ≠ "java/lang/invoke/MethodHandle" ∧ y.cls ≠ "java/lang/invoke/VarHandle" ∧ (parseMethodDescriptor y.desc).map (fun d => d.parameters.length) = some n) (hR : rm.frames + 1 ≤ R.frames ∧ 8 + (maxL + 11) + rm.locals ≤ R.locals) :
    vx_CVW R s args own C index y bytes maxL ret hh ws rm mc ms n := by
  obtain ⟨hC, hd⟩ := hd
  subst hC
  have ok : ∀ w ∈ wsV own index y.cls y ws, w.before args s = true := fun w h => ht w (hT w h).1
  have hG : GoodIn Ts ws := fun w h => hT w (by unfold wsV; exact List.mem_append_right _ h)
  have hc : Cond.codeWith y bytes maxL ret hh ∈ ws := by rw [hw]; exact List.mem_cons_self
  refine ⟨⟨hrc, hrs, hR.1, hR.2, pay_in ht hG, hc⟩, ht _ (hG _ hc).1, ok _ (by simp [wsV]), ⟨hd.1, hd.2.1⟩, fun sig h => ?_, ok _ (by simp [wsV]), ok _ (by simp [wsV]), ok _ (by simp [wsV])⟩
  have h2 := hd.2.2
  rw [h] at h2
  exact (Option.some.inj h2).symm
theorem vx_runVW {y : MethodName} {bytes cc : ByteArray} {maxL nL mc ms n index : Nat} {ret : Option FieldType} {hh : List (Nat × Nat × Nat × Nat)} {ws : List Cond} {rm : Room} {Pc : Array Value → State → Prop} {Qc : Array Value → State → Outcome → State → Prop} {free : Addr → Prop} {Ts : List Cond} {own C : String} {b : Addr} {As rest : List Value} {g : JFrame}
    (S : CallFix p m c cc nL s args Ts own) (hM : Met l y ws rm Pc Qc mc ms free) (cw : vx_CVW R s args own C index y bytes maxL ret hh ws rm mc ms n) (hp : PreV s H C b Pc As)
    (hg : g.method = m) (hn : As.length = n) (hsize : g.locals.size = nL) (hstack : g.stack = As.reverse ++ .ref b :: rest) (hW : 2 * g.monitorRoom + (rest.map fun v => v.category).sum ≤ 8) (hdg : decode cc g.pc = .ok (.invokevirtual index, 3)) (hf : cells + mc ≤ R.cells ∧ slots + ms ≤ R.slots) :
    va_Run p l e R s m args below meth c H locs cells slots mc ms g rest (Qc (Value.ref b :: As).toArray) free := by
  obtain ⟨⟨hrc, hrs, hfr, hlo, hws, hcw⟩, hcode, hini, hy, hlen, hl, hin, hse⟩ := cw
  have hK : Back l R p e below s args y 3 8 (PreOf R mc ms Pc) (PostOf Qc mc ms free) := va_backW (hh := hh) (bytes := bytes) (maxL := maxL) (ret := ret) hM hp.1 hrc hrs hfr hlo hws hcw (fun a' U hW => word_at hW (Or.inl (by first | rfl | simp [Cond.onTables, Cond.keeps, Cond.steady])) hini)
  obtain ⟨hx, hb, hml, ho, -⟩ := S
  obtain ⟨-, ⟨cellB, hcB, hoB, hclB⟩, hPc⟩ := hp
  intro T hT X
  obtain ⟨v, vm₁, ⟨U', l2, c2, s2⟩, hW₁, X', ⟨g', mk, t, L, e1, e2, hq, h1, hL, h2, h3⟩, st⟩ := vx_callVW X hx (C := C) (hh := hh) (bytes := bytes) (maxL := maxL) (ret := ret) ho hl hin hse hcode hy hK (by rw [hT]; exact hcB) hoB hclB hg (hsize.trans hml.symm) (argsL := As) (rest := rest) (fun sig h => hn.trans (hlen sig h)) hstack hW (by rw [hb]; exact hdg)
    (fun vm₁ hW₁ => ⟨hf.1, hf.2, hPc (T.setVm vm₁) hT hW₁⟩)
  dsimp only [Pt.U, Pt.locs, Pt.cells, Pt.slots] at X' e1 e2 h1 h2 h3 st
  subst h1; subst h2; subst h3
  exact ⟨v, (T.setVm vm₁).calling g' mk (Value.ref b :: As).toArray, t, U', L, hT, X', hL, e1, e2, hq, st⟩
section
variable {y : MethodName} {bytes cc : ByteArray} {maxL nL mc ms n index : Nat} {ret : Option FieldType} {ws : List Cond} {rm : Room} {Pc : Array Value → State → Prop} {Qc : Array Value → State → Outcome → State → Prop} {XC : String → State → State → Prop} {free : Addr → Prop} {Ts : List Cond} {own C : String} {b : Addr} {As rest : List Value} {g : JFrame}
theorem vx_runVX {hh : List (Nat × Nat × Nat × Nat)} (S : CallFix p m c cc nL s args Ts own) (hM : vx_Met l y ws rm Pc Qc XC mc ms free) (cw : vx_CVW R s args own C index y bytes maxL ret hh ws rm mc ms n) (hp : PreV s H C b Pc As)
    (hg : g.method = m) (hn : As.length = n) (hsize : g.locals.size = nL) (hstack : g.stack = As.reverse ++ .ref b :: rest) (hW : 2 * g.monitorRoom + (rest.map fun v => v.category).sum ≤ 8) (hdg : decode cc g.pc = .ok (.invokevirtual index, 3)) (hf : cells + mc ≤ R.cells ∧ slots + ms ≤ R.slots) :
    vx_Run p l e R s m args below meth c H locs cells slots mc ms g rest (Qc (Value.ref b :: As).toArray) XC free := by
  obtain ⟨⟨hrc, hrs, hfr, hlo, hws, hcw⟩, hcode, hini, hy, hlen, hl, hin, hse⟩ := cw
  have hK : vx_Back l R p e below s args y 3 8 (PreOf R mc ms Pc) (PostOf Qc mc ms free) (vx_Post XC mc ms free) := vx_backW (hh := hh) (bytes := bytes) (maxL := maxL) (ret := ret) hM hp.1 hrc hrs hfr hlo hws hcw (fun a' U hW => word_at hW (Or.inl (by first | rfl | simp [Cond.onTables, Cond.keeps, Cond.steady])) hini)
  obtain ⟨hx, hb, hml, ho, -⟩ := S
  obtain ⟨-, ⟨cellB, hcB, hoB, hclB⟩, hPc⟩ := hp
  intro T hT X
  rcases vx_callVX X hx (C := C) (hh := hh) (bytes := bytes) (maxL := maxL) (ret := ret) ho hl hin hse hcode hy hK (by rw [hT]; exact hcB) hoB hclB hg (hsize.trans hml.symm) (argsL := As) (rest := rest) (fun sig h => hn.trans (hlen sig h)) hstack hW (by rw [hb]; exact hdg)
    (fun vm₁ hW₁ => ⟨hf.1, hf.2, hPc (T.setVm vm₁) hT hW₁⟩) with ⟨v, vm₁, ⟨U', l2, c2, s2⟩, hW₁, X', ⟨g', mk, t, L, e1, e2, hq, h1, hL, h2, h3⟩, st⟩ | ⟨q, vm₁, ⟨U', l2, c2, s2⟩, hW₁, X', ⟨g', mk, t, L, E, ce, e1, e2, hq, hce, hcv, hcl, h1, hL, h2, h3⟩, st⟩
  · dsimp only [Pt.U, Pt.locs, Pt.cells, Pt.slots] at X' e1 e2 h1 h2 h3 st
    subst h1; subst h2; subst h3
    exact Or.inl ⟨v, (T.setVm vm₁).calling g' mk (Value.ref b :: As).toArray, t, U', L, hT, X', hL, e1, e2, hq, st⟩
  · dsimp only [Pt.U, Pt.locs, Pt.cells, Pt.slots] at X' e1 e2 h1 h2 h3 st hcl
    subst h1; subst h2; subst h3
    exact Or.inr ⟨q, (T.setVm vm₁).calling g' mk (Value.ref b :: As).toArray, t, U', L, E, ce, hT, X', hL, e1, e2, hq, hce, hcv, vx_cls hW₁ hcl, st⟩
theorem vx_runSX {hh : List (Nat × Nat × Nat × Nat)} (S : CallFix p m c cc nL s args Ts own) (hM : vx_Met l y ws rm Pc Qc XC mc ms free) (cw : vx_CSW R s args own index y bytes maxL ret hh ws rm mc ms n) (hp : PreS s H Pc As)
    (hg : g.method = m) (hn : As.length = n) (hsize : g.locals.size = nL) (hstack : g.stack = As.reverse ++ rest) (hW : 2 * g.monitorRoom + (rest.map fun v => v.category).sum ≤ 8) (hdg : decode cc g.pc = .ok (.invokestatic index, 3)) (hf : cells + mc ≤ R.cells ∧ slots + ms ≤ R.slots) :
    vx_Run p l e R s m args below meth c H locs cells slots mc ms g rest (Qc As.toArray) XC free := by
  obtain ⟨⟨hrc, hrs, hfr, hlo, hws, hcw⟩, hcode, hini, hy, hlen, hl, hstt⟩ := cw
  have hK : vx_Back l R p e below s args y 3 8 (PreOf R mc ms Pc) (PostOf Qc mc ms free) (vx_Post XC mc ms free) := vx_backW (hh := hh) (bytes := bytes) (maxL := maxL) (ret := ret) hM hp.1 hrc hrs hfr hlo hws hcw (fun a' U hW => word_at hW (Or.inl (by first | rfl | simp [Cond.onTables, Cond.keeps, Cond.steady])) hini)
  obtain ⟨hx, hb, hml, ho, -⟩ := S
  intro T hT X
  rcases vx_callSX X hx (hh := hh) (bytes := bytes) (maxL := maxL) (ret := ret) ho hl hstt hini hcode hy hK hg (hsize.trans hml.symm) (argsL := As) (rest := rest) (fun sig h => hn.trans (hlen sig h)) hstack hW (by rw [hb]; exact hdg)
    (fun vm₁ hW₁ => ⟨hf.1, hf.2, hp.2 (T.setVm vm₁) hT hW₁⟩) with ⟨v, vm₁, ⟨U', l2, c2, s2⟩, hW₁, X', ⟨g', mk, t, L, e1, e2, hq, h1, hL, h2, h3⟩, st⟩ | ⟨q, vm₁, ⟨U', l2, c2, s2⟩, hW₁, X', ⟨g', mk, t, L, E, ce, e1, e2, hq, hce, hcv, hcl, h1, hL, h2, h3⟩, st⟩
  · dsimp only [Pt.U, Pt.locs, Pt.cells, Pt.slots] at X' e1 e2 h1 h2 h3 st
    subst h1; subst h2; subst h3
    exact Or.inl ⟨v, (T.setVm vm₁).calling g' mk As.toArray, t, U', L, hT, X', hL, e1, e2, hq, st⟩
  · dsimp only [Pt.U, Pt.locs, Pt.cells, Pt.slots] at X' e1 e2 h1 h2 h3 st hcl
    subst h1; subst h2; subst h3
    exact Or.inr ⟨q, (T.setVm vm₁).calling g' mk As.toArray, t, U', L, E, ce, hT, X', hL, e1, e2, hq, hce, hcv, vx_cls hW₁ hcl, st⟩
end
end VXH
theorem vx_ofWH {l : Launch} {y : MethodName} {ws ws' : List Cond} {rm : Room} {Pc : Array Value → State → Prop} {Qc : Array Value → State → Outcome → State → Prop} {XC : String → State → State → Prop} {mc ms : Nat} {free : Addr → Prop} {cc : ByteArray} {maxL : Nat} {ret : Option FieldType} {hh : List (Nat × Nat × Nat × Nat)}
    (hy : plainName y.cls = true) (hw : ws = Cond.codeWith y cc maxL ret hh :: ws')
    (body : ∀ p e s m args below meth c s₁, BodyLoose p l y (headSpec ws rm) cc maxL ret e s m args below meth c s₁ → c.maxLocals = maxL → Pc args s →
      W p l e (headSpec ws rm).room s m args below meth c s.heap [] 0 0 (vx_MQ below Qc XC args s mc ms free) (entryFrame m args maxL)) : vx_Met l y ws rm Pc Qc XC mc ms free := by
  refine MetFree.of_bodyS (code := cc) (maxLocals := maxL) (ret := ret) hy ?_ ?_
  · intro args s m h hn
    obtain ⟨m9, meth, c, hn9, h1, h2, h3, h4, -, h5, h6, -⟩ := Cond.codeWith_spec (atoms_spec (ws := ws) h _ (by rw [hw]; exact List.mem_cons_self))
    cases hn.symm.trans hn9
    exact ⟨meth, c, h1, h2, h3, h4, h5, h6⟩
  · intro p e s m args below meth c s₁ B hml hP _
    have hh0 : s₁.heap = s.heap := by rw [B.state]; rfl
    obtain ⟨t, a1, o, b1, b2, b3⟩ := body p e s m args below meth c s₁ B hml hP s₁ hh0 (Stand.of_body B)
    exact ⟨t, o, a1, b1, b2, b3⟩
/-! ===== END ===== -/
end
section
/-! ===== BEGIN printed: names, fields, word lists, decode rows ===== -/
def RX0 : String := "BackwardSearch$Ends"
def TX0 : u_T := fun k => match k with
  | 0 => ("BackwardSearch$Ends", "borderOf", "[I", true)
  | 1 => ("BackwardSearch$Ends", "skipOf", "[I", true)
  | _ => ("BackwardSearch$Ends", "length", "I", false)
def tyX0 : Nat → FieldType := fun k => match k with
  | 0 => .array .int
  | 1 => .array .int
  | _ => .int
abbrev wsX00 : List Cond := u_ws RX0 TX0 3
theorem nmX0 : ∀ a, a < 3 → ∀ b, b < 3 → a ≠ b → (TX0 a).2.1 ≠ (TX0 b).2.1 := by decide +kernel
theorem tyX0_ok : ∀ k, k < 3 → parseFieldDescriptor (TX0 k).2.2.1 = some (tyX0 k) := by decide +kernel
abbrev cX0_init : ByteArray := prog_2_method_1_code
def yX0_init : MethodName := ⟨RX0, "<init>", "()V"⟩
abbrev cX0_study : ByteArray := prog_2_method_2_code
def yX0_study : MethodName := ⟨RX0, "study", "(LBackwardSearch$Row;)V"⟩
abbrev cX0_skipAt : ByteArray := prog_2_method_3_code
def yX0_skipAt : MethodName := ⟨RX0, "skipAt", "(I)I"⟩
abbrev cX0_wordPeriod : ByteArray := prog_2_method_4_code
def yX0_wordPeriod : MethodName := ⟨RX0, "wordPeriod", "()I"⟩
abbrev cX0_findBorders : ByteArray := prog_2_method_5_code
def yX0_findBorders : MethodName := ⟨RX0, "findBorders", "(LBackwardSearch$Row;)V"⟩
abbrev cX0_borderThatGrows : ByteArray := prog_2_method_6_code
def yX0_borderThatGrows : MethodName := ⟨RX0, "borderThatGrows", "(LBackwardSearch$Row;II)I"⟩
abbrev cX0_skipToBordersOfTheWord : ByteArray := prog_2_method_7_code
def yX0_skipToBordersOfTheWord : MethodName := ⟨RX0, "skipToBordersOfTheWord", "()V"⟩
def RX1 : String := "BackwardSearch$History"
def TX1 : u_T := fun k => match k with
  | 0 => ("BackwardSearch$History", "kept", "[LBackwardSearch$State;", true)
  | 1 => ("BackwardSearch$History", "next", "I", false)
  | _ => ("BackwardSearch$History", "count", "I", false)
def tyX1 : Nat → FieldType := fun k => match k with
  | 0 => .array (.object "BackwardSearch$State")
  | 1 => .int
  | _ => .int
abbrev wsX10 : List Cond := u_ws RX1 TX1 3
theorem nmX1 : ∀ a, a < 3 → ∀ b, b < 3 → a ≠ b → (TX1 a).2.1 ≠ (TX1 b).2.1 := by decide +kernel
theorem tyX1_ok : ∀ k, k < 3 → parseFieldDescriptor (TX1 k).2.2.1 = some (tyX1 k) := by decide +kernel
abbrev cX1_init : ByteArray := prog_3_method_1_code
def yX1_init : MethodName := ⟨RX1, "<init>", "()V"⟩
abbrev cX1_size : ByteArray := prog_3_method_2_code
def yX1_size : MethodName := ⟨RX1, "size", "()I"⟩
abbrev cX1_keep : ByteArray := prog_3_method_3_code
def yX1_keep : MethodName := ⟨RX1, "keep", "(LBackwardSearch$State;)V"⟩
abbrev cX1_giveBack : ByteArray := prog_3_method_4_code
def yX1_giveBack : MethodName := ⟨RX1, "giveBack", "(LBackwardSearch$State;)V"⟩
def RX2 : String := "BackwardSearch$Row"
def TX2 : u_T := fun k => match k with
  | 0 => ("BackwardSearch$Row", "numbers", "[I", true)
  | _ => ("BackwardSearch$Row", "length", "I", false)
def tyX2 : Nat → FieldType := fun k => match k with
  | 0 => .array .int
  | _ => .int
abbrev wsX20 : List Cond := u_ws RX2 TX2 2
theorem nmX2 : ∀ a, a < 2 → ∀ b, b < 2 → a ≠ b → (TX2 a).2.1 ≠ (TX2 b).2.1 := by decide +kernel
theorem tyX2_ok : ∀ k, k < 2 → parseFieldDescriptor (TX2 k).2.2.1 = some (tyX2 k) := by decide +kernel
abbrev cX2_init : ByteArray := prog_4_method_1_code
def yX2_init : MethodName := ⟨RX2, "<init>", "(I)V"⟩
abbrev cX2_size : ByteArray := prog_4_method_2_code
def yX2_size : MethodName := ⟨RX2, "size", "()I"⟩
abbrev cX2_isEmpty : ByteArray := prog_4_method_3_code
def yX2_isEmpty : MethodName := ⟨RX2, "isEmpty", "()Z"⟩
abbrev cX2_has : ByteArray := prog_4_method_4_code
def yX2_has : MethodName := ⟨RX2, "has", "(I)Z"⟩
abbrev cX2_at : ByteArray := prog_4_method_5_code
def yX2_at : MethodName := ⟨RX2, "at", "(I)I"⟩
abbrev cX2_put : ByteArray := prog_4_method_6_code
def yX2_put : MethodName := ⟨RX2, "put", "(II)V"⟩
abbrev cX2_add : ByteArray := prog_4_method_7_code
def yX2_add : MethodName := ⟨RX2, "add", "(I)V"⟩
abbrev cX2_clear : ByteArray := prog_4_method_8_code
def yX2_clear : MethodName := ⟨RX2, "clear", "()V"⟩
abbrev cX2_copy : ByteArray := prog_4_method_9_code
def yX2_copy : MethodName := ⟨RX2, "copy", "(LBackwardSearch$Row;)V"⟩
abbrev cX2_lastPlaceWith : ByteArray := prog_4_method_10_code
def yX2_lastPlaceWith : MethodName := ⟨RX2, "lastPlaceWith", "(I)I"⟩
def RX3 : String := "BackwardSearch$State"
def TX3 : u_T := fun k => match k with
  | 0 => ("BackwardSearch$State", "line", "LBackwardSearch$Row;", true)
  | 1 => ("BackwardSearch$State", "word", "LBackwardSearch$Row;", true)
  | 2 => ("BackwardSearch$State", "found", "LBackwardSearch$Row;", true)
  | 3 => ("BackwardSearch$State", "letterRule", "Z", false)
  | 4 => ("BackwardSearch$State", "endRule", "Z", false)
  | 5 => ("BackwardSearch$State", "place", "I", false)
  | 6 => ("BackwardSearch$State", "looks", "I", false)
  | _ => ("BackwardSearch$State", "compared", "I", false)
def tyX3 : Nat → FieldType := fun k => match k with
  | 0 => .object "BackwardSearch$Row"
  | 1 => .object "BackwardSearch$Row"
  | 2 => .object "BackwardSearch$Row"
  | 3 => .boolean
  | 4 => .boolean
  | 5 => .int
  | 6 => .int
  | _ => .int
abbrev wsX30 : List Cond := u_ws RX3 TX3 8
theorem nmX3 : ∀ a, a < 8 → ∀ b, b < 8 → a ≠ b → (TX3 a).2.1 ≠ (TX3 b).2.1 := by decide +kernel
theorem tyX3_ok : ∀ k, k < 8 → parseFieldDescriptor (TX3 k).2.2.1 = some (tyX3 k) := by decide +kernel
abbrev cX3_init : ByteArray := prog_5_method_1_code
def yX3_init : MethodName := ⟨RX3, "<init>", "()V"⟩
abbrev cX3_copy : ByteArray := prog_5_method_2_code
def yX3_copy : MethodName := ⟨RX3, "copy", "(LBackwardSearch$State;)V"⟩
abbrev cX3_beginAnew : ByteArray := prog_5_method_3_code
def yX3_beginAnew : MethodName := ⟨RX3, "beginAnew", "()V"⟩
abbrev cX3_useRules : ByteArray := prog_5_method_4_code
def yX3_useRules : MethodName := ⟨RX3, "useRules", "(ZZ)V"⟩
abbrev cX3_rulesOn : ByteArray := prog_5_method_5_code
def yX3_rulesOn : MethodName := ⟨RX3, "rulesOn", "()I"⟩
abbrev cX3_beginnings : ByteArray := prog_5_method_6_code
def yX3_beginnings : MethodName := ⟨RX3, "beginnings", "()I"⟩
abbrev cX3_hasEnded : ByteArray := prog_5_method_7_code
def yX3_hasEnded : MethodName := ⟨RX3, "hasEnded", "()Z"⟩
abbrev cX3_lookToTheEnd : ByteArray := prog_5_method_8_code
def yX3_lookToTheEnd : MethodName := ⟨RX3, "lookToTheEnd", "(LBackwardSearch$Ends;)I"⟩
abbrev cX3_lookOnce : ByteArray := prog_5_method_9_code
def yX3_lookOnce : MethodName := ⟨RX3, "lookOnce", "(LBackwardSearch$Ends;)I"⟩
abbrev cX3_lastDifferenceAt : ByteArray := prog_5_method_10_code
def yX3_lastDifferenceAt : MethodName := ⟨RX3, "lastDifferenceAt", "(I)I"⟩
abbrev cX3_skipBehind : ByteArray := prog_5_method_11_code
def yX3_skipBehind : MethodName := ⟨RX3, "skipBehind", "(ILBackwardSearch$Ends;)I"⟩
abbrev cX3_skipByLetter : ByteArray := prog_5_method_12_code
def yX3_skipByLetter : MethodName := ⟨RX3, "skipByLetter", "(II)I"⟩
def RX4 : String := "BackwardSearch"
def TX4 : u_T := fun k => match k with
  | 0 => ("BackwardSearch", "state", "LBackwardSearch$State;", true)
  | 1 => ("BackwardSearch", "trial", "LBackwardSearch$State;", true)
  | 2 => ("BackwardSearch", "ends", "LBackwardSearch$Ends;", true)
  | 3 => ("BackwardSearch", "history", "LBackwardSearch$History;", true)
  | 4 => ("BackwardSearch", "slots", "[LBackwardSearch$State;", true)
  | 5 => ("BackwardSearch", "saved", "[Z", true)
  | _ => ("BackwardSearch", "text", "LBackwardSearch$Row;", true)
def tyX4 : Nat → FieldType := fun k => match k with
  | 0 => .object "BackwardSearch$State"
  | 1 => .object "BackwardSearch$State"
  | 2 => .object "BackwardSearch$Ends"
  | 3 => .object "BackwardSearch$History"
  | 4 => .array (.object "BackwardSearch$State")
  | 5 => .array .boolean
  | _ => .object "BackwardSearch$Row"
abbrev wsX40 : List Cond := u_ws RX4 TX4 7
theorem nmX4 : ∀ a, a < 7 → ∀ b, b < 7 → a ≠ b → (TX4 a).2.1 ≠ (TX4 b).2.1 := by decide +kernel
theorem tyX4_ok : ∀ k, k < 7 → parseFieldDescriptor (TX4 k).2.2.1 = some (tyX4 k) := by decide +kernel
abbrev cX4_init : ByteArray := prog_1_method_1_code
def yX4_init : MethodName := ⟨RX4, "<init>", "()V"⟩
abbrev cX4_takeLine : ByteArray := prog_1_method_2_code
def yX4_takeLine : MethodName := ⟨RX4, "takeLine", "()I"⟩
abbrev cX4_takeWord : ByteArray := prog_1_method_3_code
def yX4_takeWord : MethodName := ⟨RX4, "takeWord", "()I"⟩
abbrev cX4_setRules : ByteArray := prog_1_method_4_code
def yX4_setRules : MethodName := ⟨RX4, "setRules", "(ZZ)I"⟩
abbrev cX4_look : ByteArray := prog_1_method_5_code
def yX4_look : MethodName := ⟨RX4, "look", "()I"⟩
abbrev cX4_finish : ByteArray := prog_1_method_6_code
def yX4_finish : MethodName := ⟨RX4, "finish", "()I"⟩
abbrev cX4_rewind : ByteArray := prog_1_method_7_code
def yX4_rewind : MethodName := ⟨RX4, "rewind", "()I"⟩
abbrev cX4_setLetter : ByteArray := prog_1_method_8_code
def yX4_setLetter : MethodName := ⟨RX4, "setLetter", "(II)I"⟩
abbrev cX4_lineLength : ByteArray := prog_1_method_9_code
def yX4_lineLength : MethodName := ⟨RX4, "lineLength", "()I"⟩
abbrev cX4_wordLength : ByteArray := prog_1_method_10_code
def yX4_wordLength : MethodName := ⟨RX4, "wordLength", "()I"⟩
abbrev cX4_lineLetter : ByteArray := prog_1_method_11_code
def yX4_lineLetter : MethodName := ⟨RX4, "lineLetter", "(I)I"⟩
abbrev cX4_wordLetter : ByteArray := prog_1_method_12_code
def yX4_wordLetter : MethodName := ⟨RX4, "wordLetter", "(I)I"⟩
abbrev cX4_place : ByteArray := prog_1_method_13_code
def yX4_place : MethodName := ⟨RX4, "place", "()I"⟩
abbrev cX4_isOver : ByteArray := prog_1_method_14_code
def yX4_isOver : MethodName := ⟨RX4, "isOver", "()Z"⟩
abbrev cX4_lookCount : ByteArray := prog_1_method_15_code
def yX4_lookCount : MethodName := ⟨RX4, "lookCount", "()I"⟩
abbrev cX4_comparedCount : ByteArray := prog_1_method_16_code
def yX4_comparedCount : MethodName := ⟨RX4, "comparedCount", "()I"⟩
abbrev cX4_foundCount : ByteArray := prog_1_method_17_code
def yX4_foundCount : MethodName := ⟨RX4, "foundCount", "()I"⟩
abbrev cX4_foundPlace : ByteArray := prog_1_method_18_code
def yX4_foundPlace : MethodName := ⟨RX4, "foundPlace", "(I)I"⟩
abbrev cX4_skippedPlaces : ByteArray := prog_1_method_19_code
def yX4_skippedPlaces : MethodName := ⟨RX4, "skippedPlaces", "()I"⟩
abbrev cX4_lastPlaceOf : ByteArray := prog_1_method_20_code
def yX4_lastPlaceOf : MethodName := ⟨RX4, "lastPlaceOf", "(I)I"⟩
abbrev cX4_letterSkip : ByteArray := prog_1_method_21_code
def yX4_letterSkip : MethodName := ⟨RX4, "letterSkip", "(II)I"⟩
abbrev cX4_endSkip : ByteArray := prog_1_method_22_code
def yX4_endSkip : MethodName := ⟨RX4, "endSkip", "(I)I"⟩
abbrev cX4_endSkipByTrying : ByteArray := prog_1_method_23_code
def yX4_endSkipByTrying : MethodName := ⟨RX4, "endSkipByTrying", "(I)I"⟩
abbrev cX4_border : ByteArray := prog_1_method_24_code
def yX4_border : MethodName := ⟨RX4, "border", "()I"⟩
abbrev cX4_period : ByteArray := prog_1_method_25_code
def yX4_period : MethodName := ⟨RX4, "period", "()I"⟩
abbrev cX4_occurrences : ByteArray := prog_1_method_26_code
def yX4_occurrences : MethodName := ⟨RX4, "occurrences", "()I"⟩
abbrev cX4_occurrencesByTrying : ByteArray := prog_1_method_27_code
def yX4_occurrencesByTrying : MethodName := ⟨RX4, "occurrencesByTrying", "()I"⟩
abbrev cX4_comparedWith : ByteArray := prog_1_method_28_code
def yX4_comparedWith : MethodName := ⟨RX4, "comparedWith", "(ZZ)I"⟩
abbrev cX4_differenceAt : ByteArray := prog_1_method_29_code
def yX4_differenceAt : MethodName := ⟨RX4, "differenceAt", "(I)I"⟩
abbrev cX4_appendText : ByteArray := prog_1_method_30_code
def yX4_appendText : MethodName := ⟨RX4, "appendText", "(J)I"⟩
abbrev cX4_clearText : ByteArray := prog_1_method_31_code
def yX4_clearText : MethodName := ⟨RX4, "clearText", "()I"⟩
abbrev cX4_textLength : ByteArray := prog_1_method_32_code
def yX4_textLength : MethodName := ⟨RX4, "textLength", "()I"⟩
abbrev cX4_textError : ByteArray := prog_1_method_33_code
def yX4_textError : MethodName := ⟨RX4, "textError", "()I"⟩
abbrev cX4_undo : ByteArray := prog_1_method_34_code
def yX4_undo : MethodName := ⟨RX4, "undo", "()I"⟩
abbrev cX4_undoCount : ByteArray := prog_1_method_35_code
def yX4_undoCount : MethodName := ⟨RX4, "undoCount", "()I"⟩
abbrev cX4_saveState : ByteArray := prog_1_method_36_code
def yX4_saveState : MethodName := ⟨RX4, "saveState", "(I)I"⟩
abbrev cX4_loadState : ByteArray := prog_1_method_37_code
def yX4_loadState : MethodName := ⟨RX4, "loadState", "(I)I"⟩
abbrev cX4_refuseUnlessIn : ByteArray := prog_1_method_38_code
def yX4_refuseUnlessIn : MethodName := ⟨RX4, "refuseUnlessIn", "(LBackwardSearch$Row;I)V"⟩
abbrev cX4_refuseUnlessLetter : ByteArray := prog_1_method_39_code
def yX4_refuseUnlessLetter : MethodName := ⟨RX4, "refuseUnlessLetter", "(I)V"⟩
abbrev cX4_refuseUnlessSlot : ByteArray := prog_1_method_40_code
def yX4_refuseUnlessSlot : MethodName := ⟨RX4, "refuseUnlessSlot", "(I)V"⟩
abbrev cX4_refuseTextUnlessLetters : ByteArray := prog_1_method_41_code
def yX4_refuseTextUnlessLetters : MethodName := ⟨RX4, "refuseTextUnlessLetters", "(I)V"⟩
abbrev cX4_moveText : ByteArray := prog_1_method_42_code
def yX4_moveText : MethodName := ⟨RX4, "moveText", "(LBackwardSearch$Row;)V"⟩
abbrev cX4_codeOf : ByteArray := prog_1_method_43_code
def yX4_codeOf : MethodName := ⟨RX4, "codeOf", "(JI)I"⟩
abbrev cX4_countCharacters : ByteArray := prog_1_method_44_code
def yX4_countCharacters : MethodName := ⟨RX4, "countCharacters", "(J)I"⟩
abbrev cX4_isZeroFrom : ByteArray := prog_1_method_45_code
def yX4_isZeroFrom : MethodName := ⟨RX4, "isZeroFrom", "(JI)Z"⟩
abbrev cX4_tryToTheEnd : ByteArray := prog_1_method_46_code
def yX4_tryToTheEnd : MethodName := ⟨RX4, "tryToTheEnd", "(ZZ)V"⟩
abbrev cX4_wordStandsAt : ByteArray := prog_1_method_47_code
def yX4_wordStandsAt : MethodName := ⟨RX4, "wordStandsAt", "(I)Z"⟩
abbrev cX4_endFits : ByteArray := prog_1_method_48_code
def yX4_endFits : MethodName := ⟨RX4, "endFits", "(LBackwardSearch$Row;II)Z"⟩
def RX5 : String := "BackwardSearchModel"
def TX5 : u_T := fun k => match k with
  | 0 => ("BackwardSearchModel", "all", "[I", true)
  | 1 => ("BackwardSearchModel", "history", "[I", true)
  | 2 => ("BackwardSearchModel", "historyLong", "I", false)
  | 3 => ("BackwardSearchModel", "slots", "[I", true)
  | 4 => ("BackwardSearchModel", "isSaved", "[I", true)
  | 5 => ("BackwardSearchModel", "thrown", "I", false)
  | 6 => ("BackwardSearchModel", "text", "[I", true)
  | _ => ("BackwardSearchModel", "textLong", "I", false)
def tyX5 : Nat → FieldType := fun k => match k with
  | 0 => .array .int
  | 1 => .array .int
  | 2 => .int
  | 3 => .array .int
  | 4 => .array .int
  | 5 => .int
  | 6 => .array .int
  | _ => .int
abbrev wsX50 : List Cond := u_ws RX5 TX5 8
theorem nmX5 : ∀ a, a < 8 → ∀ b, b < 8 → a ≠ b → (TX5 a).2.1 ≠ (TX5 b).2.1 := by decide +kernel
theorem tyX5_ok : ∀ k, k < 8 → parseFieldDescriptor (TX5 k).2.2.1 = some (tyX5 k) := by decide +kernel
abbrev cX5_init : ByteArray := prog_7_method_1_code
def yX5_init : MethodName := ⟨RX5, "<init>", "()V"⟩
abbrev cX5_thrown : ByteArray := prog_7_method_2_code
def yX5_thrown : MethodName := ⟨RX5, "thrown", "()I"⟩
abbrev cX5_fails : ByteArray := prog_7_method_3_code
def yX5_fails : MethodName := ⟨RX5, "fails", "(I)I"⟩
abbrev cX5_in : ByteArray := prog_7_method_4_code
def yX5_in : MethodName := ⟨RX5, "in", "(JJJ)Z"⟩
abbrev cX5_changes : ByteArray := prog_7_method_5_code
def yX5_changes : MethodName := ⟨RX5, "changes", "()V"⟩
abbrev cX5_told : ByteArray := prog_7_method_6_code
def yX5_told : MethodName := ⟨RX5, "told", "(I)I"⟩
abbrev cX5_isLetter : ByteArray := prog_7_method_7_code
def yX5_isLetter : MethodName := ⟨RX5, "isLetter", "(I)Z"⟩
abbrev cX5_isInWord : ByteArray := prog_7_method_8_code
def yX5_isInWord : MethodName := ⟨RX5, "isInWord", "(I)Z"⟩
abbrev cX5_isInLine : ByteArray := prog_7_method_9_code
def yX5_isInLine : MethodName := ⟨RX5, "isInLine", "(I)Z"⟩
abbrev cX5_lastOf : ByteArray := prog_7_method_10_code
def yX5_lastOf : MethodName := ⟨RX5, "lastOf", "(I)I"⟩
abbrev cX5_fits : ByteArray := prog_7_method_11_code
def yX5_fits : MethodName := ⟨RX5, "fits", "(II)Z"⟩
abbrev cX5_endSkipOf : ByteArray := prog_7_method_12_code
def yX5_endSkipOf : MethodName := ⟨RX5, "endSkipOf", "(I)I"⟩
abbrev cX5_periodNow : ByteArray := prog_7_method_13_code
def yX5_periodNow : MethodName := ⟨RX5, "periodNow", "()I"⟩
abbrev cX5_difference : ByteArray := prog_7_method_14_code
def yX5_difference : MethodName := ⟨RX5, "difference", "(I)I"⟩
abbrev cX5_skipBy : ByteArray := prog_7_method_15_code
def yX5_skipBy : MethodName := ⟨RX5, "skipBy", "(IIZZ)I"⟩
abbrev cX5_isOverAt : ByteArray := prog_7_method_16_code
def yX5_isOverAt : MethodName := ⟨RX5, "isOverAt", "(I)Z"⟩
abbrev cX5_begins : ByteArray := prog_7_method_17_code
def yX5_begins : MethodName := ⟨RX5, "begins", "()V"⟩
abbrev cX5_canTake : ByteArray := prog_7_method_18_code
def yX5_canTake : MethodName := ⟨RX5, "canTake", "(I)Z"⟩
abbrev cX5_takes : ByteArray := prog_7_method_19_code
def yX5_takes : MethodName := ⟨RX5, "takes", "(II)I"⟩
abbrev cX5_takeLine : ByteArray := prog_7_method_20_code
def yX5_takeLine : MethodName := ⟨RX5, "takeLine", "()I"⟩
abbrev cX5_takeWord : ByteArray := prog_7_method_21_code
def yX5_takeWord : MethodName := ⟨RX5, "takeWord", "()I"⟩
abbrev cX5_setRules : ByteArray := prog_7_method_22_code
def yX5_setRules : MethodName := ⟨RX5, "setRules", "(ZZ)I"⟩
abbrev cX5_looks : ByteArray := prog_7_method_23_code
def yX5_looks : MethodName := ⟨RX5, "looks", "()I"⟩
abbrev cX5_look : ByteArray := prog_7_method_24_code
def yX5_look : MethodName := ⟨RX5, "look", "()I"⟩
abbrev cX5_finish : ByteArray := prog_7_method_25_code
def yX5_finish : MethodName := ⟨RX5, "finish", "()I"⟩
abbrev cX5_rewind : ByteArray := prog_7_method_26_code
def yX5_rewind : MethodName := ⟨RX5, "rewind", "()I"⟩
abbrev cX5_setLetter : ByteArray := prog_7_method_27_code
def yX5_setLetter : MethodName := ⟨RX5, "setLetter", "(II)I"⟩
abbrev cX5_lineLength : ByteArray := prog_7_method_28_code
def yX5_lineLength : MethodName := ⟨RX5, "lineLength", "()I"⟩
abbrev cX5_wordLength : ByteArray := prog_7_method_29_code
def yX5_wordLength : MethodName := ⟨RX5, "wordLength", "()I"⟩
abbrev cX5_lineLetter : ByteArray := prog_7_method_30_code
def yX5_lineLetter : MethodName := ⟨RX5, "lineLetter", "(I)I"⟩
abbrev cX5_wordLetter : ByteArray := prog_7_method_31_code
def yX5_wordLetter : MethodName := ⟨RX5, "wordLetter", "(I)I"⟩
abbrev cX5_place : ByteArray := prog_7_method_32_code
def yX5_place : MethodName := ⟨RX5, "place", "()I"⟩
abbrev cX5_isOver : ByteArray := prog_7_method_33_code
def yX5_isOver : MethodName := ⟨RX5, "isOver", "()Z"⟩
abbrev cX5_lookCount : ByteArray := prog_7_method_34_code
def yX5_lookCount : MethodName := ⟨RX5, "lookCount", "()I"⟩
abbrev cX5_comparedCount : ByteArray := prog_7_method_35_code
def yX5_comparedCount : MethodName := ⟨RX5, "comparedCount", "()I"⟩
abbrev cX5_foundCount : ByteArray := prog_7_method_36_code
def yX5_foundCount : MethodName := ⟨RX5, "foundCount", "()I"⟩
abbrev cX5_foundPlace : ByteArray := prog_7_method_37_code
def yX5_foundPlace : MethodName := ⟨RX5, "foundPlace", "(I)I"⟩
abbrev cX5_skippedPlaces : ByteArray := prog_7_method_38_code
def yX5_skippedPlaces : MethodName := ⟨RX5, "skippedPlaces", "()I"⟩
abbrev cX5_lastPlaceOf : ByteArray := prog_7_method_39_code
def yX5_lastPlaceOf : MethodName := ⟨RX5, "lastPlaceOf", "(I)I"⟩
abbrev cX5_letterSkip : ByteArray := prog_7_method_40_code
def yX5_letterSkip : MethodName := ⟨RX5, "letterSkip", "(II)I"⟩
abbrev cX5_endSkip : ByteArray := prog_7_method_41_code
def yX5_endSkip : MethodName := ⟨RX5, "endSkip", "(I)I"⟩
abbrev cX5_endSkipByTrying : ByteArray := prog_7_method_42_code
def yX5_endSkipByTrying : MethodName := ⟨RX5, "endSkipByTrying", "(I)I"⟩
abbrev cX5_border : ByteArray := prog_7_method_43_code
def yX5_border : MethodName := ⟨RX5, "border", "()I"⟩
abbrev cX5_period : ByteArray := prog_7_method_44_code
def yX5_period : MethodName := ⟨RX5, "period", "()I"⟩
abbrev cX5_stands : ByteArray := prog_7_method_45_code
def yX5_stands : MethodName := ⟨RX5, "stands", "()I"⟩
abbrev cX5_occurrences : ByteArray := prog_7_method_46_code
def yX5_occurrences : MethodName := ⟨RX5, "occurrences", "()I"⟩
abbrev cX5_occurrencesByTrying : ByteArray := prog_7_method_47_code
def yX5_occurrencesByTrying : MethodName := ⟨RX5, "occurrencesByTrying", "()I"⟩
abbrev cX5_comparedWith : ByteArray := prog_7_method_48_code
def yX5_comparedWith : MethodName := ⟨RX5, "comparedWith", "(ZZ)I"⟩
abbrev cX5_differenceAt : ByteArray := prog_7_method_49_code
def yX5_differenceAt : MethodName := ⟨RX5, "differenceAt", "(I)I"⟩
abbrev cX5_appendText : ByteArray := prog_7_method_50_code
def yX5_appendText : MethodName := ⟨RX5, "appendText", "(J)I"⟩
abbrev cX5_clearText : ByteArray := prog_7_method_51_code
def yX5_clearText : MethodName := ⟨RX5, "clearText", "()I"⟩
abbrev cX5_textLength : ByteArray := prog_7_method_52_code
def yX5_textLength : MethodName := ⟨RX5, "textLength", "()I"⟩
abbrev cX5_errorOfText : ByteArray := prog_7_method_53_code
def yX5_errorOfText : MethodName := ⟨RX5, "errorOfText", "()I"⟩
abbrev cX5_textError : ByteArray := prog_7_method_54_code
def yX5_textError : MethodName := ⟨RX5, "textError", "()I"⟩
abbrev cX5_undo : ByteArray := prog_7_method_55_code
def yX5_undo : MethodName := ⟨RX5, "undo", "()I"⟩
abbrev cX5_undoCount : ByteArray := prog_7_method_56_code
def yX5_undoCount : MethodName := ⟨RX5, "undoCount", "()I"⟩
abbrev cX5_isSlot : ByteArray := prog_7_method_57_code
def yX5_isSlot : MethodName := ⟨RX5, "isSlot", "(I)Z"⟩
abbrev cX5_saveState : ByteArray := prog_7_method_58_code
def yX5_saveState : MethodName := ⟨RX5, "saveState", "(I)I"⟩
abbrev cX5_loadState : ByteArray := prog_7_method_59_code
def yX5_loadState : MethodName := ⟨RX5, "loadState", "(I)I"⟩
def RJ9 : String := "java/lang/Math"
def TJ9 : u_T := fun k => match k with
  | _ => ("", "", "", false)
def tyJ9 : Nat → FieldType := fun k => match k with
  | _ => .int
abbrev wsJ90 : List Cond := u_ws RJ9 TJ9 0
theorem nmJ9 : ∀ a, a < 0 → ∀ b, b < 0 → a ≠ b → (TJ9 a).2.1 ≠ (TJ9 b).2.1 := by decide +kernel
theorem tyJ9_ok : ∀ k, k < 0 → parseFieldDescriptor (TJ9 k).2.2.1 = some (tyJ9 k) := by decide +kernel
abbrev cJ9_max_7cf53 : ByteArray := prog_12_method_65_code
def yJ9_max_7cf53 : MethodName := ⟨RJ9, "max", "(II)I"⟩
abbrev cJ9_min_7cf53 : ByteArray := prog_12_method_69_code
def yJ9_min_7cf53 : MethodName := ⟨RJ9, "min", "(II)I"⟩
def RJ0 : String := "java/lang/String"
def TJ0 : u_T := fun k => match k with
  | _ => ("", "", "", false)
def tyJ0 : Nat → FieldType := fun k => match k with
  | _ => .int
abbrev wsJ00 : List Cond := u_ws RJ0 TJ0 0
theorem nmJ0 : ∀ a, a < 0 → ∀ b, b < 0 → a ≠ b → (TJ0 a).2.1 ≠ (TJ0 b).2.1 := by decide +kernel
theorem tyJ0_ok : ∀ k, k < 0 → parseFieldDescriptor (TJ0 k).2.2.1 = some (tyJ0 k) := by decide +kernel
def RL : String := "BackwardSearchLaw"
abbrev cL_takeLine : ByteArray := method_3_code
def yL_takeLine : MethodName := ⟨RL, "takeLine", "(LBackwardSearch;[J)I"⟩
abbrev cL_takeWord : ByteArray := method_4_code
def yL_takeWord : MethodName := ⟨RL, "takeWord", "(LBackwardSearch;[J)I"⟩
abbrev cL_look : ByteArray := method_5_code
def yL_look : MethodName := ⟨RL, "look", "(LBackwardSearch;[J)I"⟩
abbrev cL_setLetter : ByteArray := method_6_code
def yL_setLetter : MethodName := ⟨RL, "setLetter", "(LBackwardSearch;II[J)I"⟩
abbrev cL_lineLetter : ByteArray := method_7_code
def yL_lineLetter : MethodName := ⟨RL, "lineLetter", "(LBackwardSearch;I[J)I"⟩
abbrev cL_wordLetter : ByteArray := method_8_code
def yL_wordLetter : MethodName := ⟨RL, "wordLetter", "(LBackwardSearch;I[J)I"⟩
abbrev cL_foundPlace : ByteArray := method_9_code
def yL_foundPlace : MethodName := ⟨RL, "foundPlace", "(LBackwardSearch;I[J)I"⟩
abbrev cL_lastPlaceOf : ByteArray := method_10_code
def yL_lastPlaceOf : MethodName := ⟨RL, "lastPlaceOf", "(LBackwardSearch;I[J)I"⟩
abbrev cL_letterSkip : ByteArray := method_11_code
def yL_letterSkip : MethodName := ⟨RL, "letterSkip", "(LBackwardSearch;II[J)I"⟩
abbrev cL_endSkip : ByteArray := method_12_code
def yL_endSkip : MethodName := ⟨RL, "endSkip", "(LBackwardSearch;I[J)I"⟩
abbrev cL_endSkipByTrying : ByteArray := method_13_code
def yL_endSkipByTrying : MethodName := ⟨RL, "endSkipByTrying", "(LBackwardSearch;I[J)I"⟩
abbrev cL_differenceAt : ByteArray := method_14_code
def yL_differenceAt : MethodName := ⟨RL, "differenceAt", "(LBackwardSearch;I[J)I"⟩
abbrev cL_appendText : ByteArray := method_15_code
def yL_appendText : MethodName := ⟨RL, "appendText", "(LBackwardSearch;J[J)I"⟩
abbrev cL_undo : ByteArray := method_16_code
def yL_undo : MethodName := ⟨RL, "undo", "(LBackwardSearch;[J)I"⟩
abbrev cL_saveState : ByteArray := method_17_code
def yL_saveState : MethodName := ⟨RL, "saveState", "(LBackwardSearch;I[J)I"⟩
abbrev cL_loadState : ByteArray := method_18_code
def yL_loadState : MethodName := ⟨RL, "loadState", "(LBackwardSearch;I[J)I"⟩
abbrev cL_law : ByteArray := code
def yL_law : MethodName := ⟨RL, "law", "([I)Z"⟩
def wsX0_init : List Cond := .code yX0_init cX0_init 1 none :: ([.methodLink RX0 3 objectInit, .instanceMethod objectInit, .code objectInit ⟨#[0xb1]⟩ 1 none, .arrayClass .int, .fieldLink RX0 9 "BackwardSearch$Ends" "borderOf" "[I", .fieldLink RX0 15 "BackwardSearch$Ends" "skipOf" "[I"] ++ wsX00)
def wsX2_size : List Cond := .code yX2_size cX2_size 1 (some .int) :: ([.fieldLink RX2 21 "BackwardSearch$Row" "length" "I"] ++ wsX20)
def wsX2_has : List Cond := .code yX2_has cX2_has 2 (some .boolean) :: ([.fieldLink RX2 21 "BackwardSearch$Row" "length" "I"] ++ wsX20)
def wsX2_at : List Cond := .code yX2_at cX2_at 2 (some .int) :: ([.fieldLink RX2 15 "BackwardSearch$Row" "numbers" "[I", .methodLink RX2 25 yX2_has, .instanceMethod yX2_has, .selects RX2 yX2_has yX2_has, .initialized RX2, .code yX2_has cX2_has 2 (some .boolean), .fieldLink RX2 21 "BackwardSearch$Row" "length" "I"] ++ wsX20)
def wsX0_borderThatGrows : List Cond := .code yX0_borderThatGrows cX0_borderThatGrows 6 (some .int) :: ([.fieldLink RX0 30 "BackwardSearch$Ends" "length" "I", .fieldLink RX0 15 "BackwardSearch$Ends" "skipOf" "[I", .fieldLink RX0 9 "BackwardSearch$Ends" "borderOf" "[I", .methodLink RX0 45 yX2_at, .instanceMethod yX2_at, .selects RX2 yX2_at yX2_at, .initialized RX2, .code yX2_at cX2_at 2 (some .int), .fieldLink RX2 15 "BackwardSearch$Row" "numbers" "[I", .methodLink RX2 25 yX2_has, .instanceMethod yX2_has, .selects RX2 yX2_has yX2_has, .code yX2_has cX2_has 2 (some .boolean), .fieldLink RX2 21 "BackwardSearch$Row" "length" "I"] ++ wsX00 ++ wsX20)
def wsX0_findBorders : List Cond := .code yX0_findBorders cX0_findBorders 4 none :: ([.fieldLink RX0 30 "BackwardSearch$Ends" "length" "I", .fieldLink RX0 9 "BackwardSearch$Ends" "borderOf" "[I", .methodLink RX0 41 yX0_borderThatGrows, .instanceMethod yX0_borderThatGrows, .selects RX0 yX0_borderThatGrows yX0_borderThatGrows, .initialized RX0, .code yX0_borderThatGrows cX0_borderThatGrows 6 (some .int), .fieldLink RX0 15 "BackwardSearch$Ends" "skipOf" "[I", .methodLink RX0 45 yX2_at, .instanceMethod yX2_at, .selects RX2 yX2_at yX2_at, .initialized RX2, .code yX2_at cX2_at 2 (some .int), .fieldLink RX2 15 "BackwardSearch$Row" "numbers" "[I", .methodLink RX2 25 yX2_has, .instanceMethod yX2_has, .selects RX2 yX2_has yX2_has, .code yX2_has cX2_has 2 (some .boolean), .fieldLink RX2 21 "BackwardSearch$Row" "length" "I"] ++ wsX00 ++ wsX20)
def wsX0_skipToBordersOfTheWord : List Cond := .code yX0_skipToBordersOfTheWord cX0_skipToBordersOfTheWord 3 none :: ([.fieldLink RX0 9 "BackwardSearch$Ends" "borderOf" "[I", .fieldLink RX0 30 "BackwardSearch$Ends" "length" "I", .fieldLink RX0 15 "BackwardSearch$Ends" "skipOf" "[I"] ++ wsX00)
def wsX0_study_r1 : List Cond := [Cond.methodLink RX0 24 Lib.Math.min.name, Cond.static Lib.Math.min.name, Cond.initialized "java/lang/Math", Cond.code Lib.Math.min.name Lib.Math.min.code 2 (some .int), Cond.fieldLink RX0 30 "BackwardSearch$Ends" "length" "I", Cond.fieldLink RX0 15 "BackwardSearch$Ends" "skipOf" "[I", Cond.methodLink RX0 18 yX2_size, Cond.instanceMethod yX2_size, Cond.selects RX2 yX2_size yX2_size, Cond.initialized RX2, Cond.code yX2_size cX2_size 1 (some .int), Cond.fieldLink RX2 21 "BackwardSearch$Row" "length" "I", Cond.methodLink RX0 34 yX0_findBorders, Cond.instanceMethod yX0_findBorders, Cond.selects RX0 yX0_findBorders yX0_findBorders, Cond.initialized RX0, Cond.code yX0_findBorders cX0_findBorders 4 none, Cond.fieldLink RX0 9 "BackwardSearch$Ends" "borderOf" "[I", Cond.methodLink RX0 41 yX0_borderThatGrows, Cond.instanceMethod yX0_borderThatGrows, Cond.selects RX0 yX0_borderThatGrows yX0_borderThatGrows, Cond.code yX0_borderThatGrows cX0_borderThatGrows 6 (some .int), Cond.methodLink RX0 45 yX2_at, Cond.instanceMethod yX2_at]
def wsX0_study_r2 : List Cond := [Cond.selects RX2 yX2_at yX2_at, Cond.code yX2_at cX2_at 2 (some .int), Cond.fieldLink RX2 15 "BackwardSearch$Row" "numbers" "[I", Cond.methodLink RX2 25 yX2_has, Cond.instanceMethod yX2_has, Cond.selects RX2 yX2_has yX2_has, Cond.code yX2_has cX2_has 2 (some .boolean), Cond.methodLink RX0 38 yX0_skipToBordersOfTheWord, Cond.instanceMethod yX0_skipToBordersOfTheWord, Cond.selects RX0 yX0_skipToBordersOfTheWord yX0_skipToBordersOfTheWord, Cond.code yX0_skipToBordersOfTheWord cX0_skipToBordersOfTheWord 3 none]
def wsX0_study : List Cond := .code yX0_study cX0_study 3 none :: ((wsX0_study_r1 ++ wsX0_study_r2) ++ wsX00 ++ wsX20)
def wsX0_skipAt : List Cond := .code yX0_skipAt cX0_skipAt 2 (some .int) :: ([.fieldLink RX0 30 "BackwardSearch$Ends" "length" "I", .fieldLink RX0 15 "BackwardSearch$Ends" "skipOf" "[I"] ++ wsX00)
def wsX0_wordPeriod : List Cond := .code yX0_wordPeriod cX0_wordPeriod 1 (some .int) :: ([.fieldLink RX0 30 "BackwardSearch$Ends" "length" "I", .fieldLink RX0 9 "BackwardSearch$Ends" "borderOf" "[I"] ++ wsX00)
def wsX2_init : List Cond := .code yX2_init cX2_init 2 none :: ([.methodLink RX2 3 objectInit, .instanceMethod objectInit, .code objectInit ⟨#[0xb1]⟩ 1 none, .methodLink RX2 9 Lib.Math.max.name, .static Lib.Math.max.name, .initialized "java/lang/Math", .code Lib.Math.max.name Lib.Math.max.code 2 (some .int), .arrayClass .int, .fieldLink RX2 15 "BackwardSearch$Row" "numbers" "[I"] ++ wsX20)
def wsX3_init : List Cond := .code yX3_init cX3_init 1 none :: ([.methodLink RX3 3 objectInit, .instanceMethod objectInit, .code objectInit ⟨#[0xb1]⟩ 1 none, .classLink RX3 9 RX2, .instantiable RX2 2, .initialized RX2, .fieldLink RX3 14 "BackwardSearch$State" "line" "LBackwardSearch$Row;", .fieldLink RX3 20 "BackwardSearch$State" "word" "LBackwardSearch$Row;", .fieldLink RX3 23 "BackwardSearch$State" "found" "LBackwardSearch$Row;", .fieldLink RX3 26 "BackwardSearch$State" "letterRule" "Z", .fieldLink RX3 30 "BackwardSearch$State" "endRule" "Z", .methodLink RX3 11 yX2_init, .instanceMethod yX2_init, .code yX2_init cX2_init 2 none, .methodLink RX2 3 objectInit, .methodLink RX2 9 Lib.Math.max.name, .static Lib.Math.max.name, .initialized "java/lang/Math", .code Lib.Math.max.name Lib.Math.max.code 2 (some .int), .arrayClass .int, .fieldLink RX2 15 "BackwardSearch$Row" "numbers" "[I"] ++ wsX20 ++ wsX30)
def wsX1_init_r1 : List Cond := [Cond.methodLink RX1 3 objectInit, Cond.instanceMethod objectInit, Cond.code objectInit ⟨#[0xb1]⟩ 1 none, Cond.classLink RX1 9 RX3, Cond.fieldLink RX1 11 "BackwardSearch$History" "kept" "[LBackwardSearch$State;", Cond.instantiable RX3 8, Cond.initialized RX3, Cond.instanceMethod yX3_init, Cond.code yX3_init cX3_init 1 none, Cond.methodLink RX3 3 objectInit, Cond.classLink RX3 9 RX2, Cond.instantiable RX2 2, Cond.initialized RX2, Cond.fieldLink RX3 14 "BackwardSearch$State" "line" "LBackwardSearch$Row;", Cond.fieldLink RX3 20 "BackwardSearch$State" "word" "LBackwardSearch$Row;", Cond.fieldLink RX3 23 "BackwardSearch$State" "found" "LBackwardSearch$Row;", Cond.fieldLink RX3 26 "BackwardSearch$State" "letterRule" "Z", Cond.fieldLink RX3 30 "BackwardSearch$State" "endRule" "Z", Cond.methodLink RX3 11 yX2_init, Cond.instanceMethod yX2_init, Cond.code yX2_init cX2_init 2 none, Cond.methodLink RX2 3 objectInit, Cond.methodLink RX2 9 Lib.Math.max.name, Cond.static Lib.Math.max.name]
def wsX1_init_r2 : List Cond := [Cond.initialized "java/lang/Math", Cond.code Lib.Math.max.name Lib.Math.max.code 2 (some .int), Cond.arrayClass .int, Cond.fieldLink RX2 15 "BackwardSearch$Row" "numbers" "[I"]
def wsX1_init : List Cond := .code yX1_init cX1_init 2 none :: ((wsX1_init_r1 ++ wsX1_init_r2) ++ wsX10 ++ wsX30 ++ wsX20)
def wsX1_size : List Cond := .code yX1_size cX1_size 1 (some .int) :: ([.fieldLink RX1 18 "BackwardSearch$History" "count" "I"] ++ wsX10)
def wsX2_clear : List Cond := .code yX2_clear cX2_clear 1 none :: ([.fieldLink RX2 21 "BackwardSearch$Row" "length" "I"] ++ wsX20)
def wsX2_add : List Cond := .code yX2_add cX2_add 2 none :: ([.fieldLink RX2 21 "BackwardSearch$Row" "length" "I", .fieldLink RX2 15 "BackwardSearch$Row" "numbers" "[I"] ++ wsX20)
def wsX2_copy : List Cond := .code yX2_copy cX2_copy 3 none :: ([.fieldLink RX2 21 "BackwardSearch$Row" "length" "I", .fieldLink RX2 15 "BackwardSearch$Row" "numbers" "[I", .methodLink RX2 29 yX2_clear, .instanceMethod yX2_clear, .selects RX2 yX2_clear yX2_clear, .initialized RX2, .code yX2_clear cX2_clear 1 none, .methodLink RX2 32 yX2_add, .instanceMethod yX2_add, .selects RX2 yX2_add yX2_add, .code yX2_add cX2_add 2 none] ++ wsX20)
def wsX3_copy : List Cond := .code yX3_copy cX3_copy 2 none :: ([.fieldLink RX3 14 "BackwardSearch$State" "line" "LBackwardSearch$Row;", .fieldLink RX3 20 "BackwardSearch$State" "word" "LBackwardSearch$Row;", .fieldLink RX3 23 "BackwardSearch$State" "found" "LBackwardSearch$Row;", .fieldLink RX3 26 "BackwardSearch$State" "letterRule" "Z", .fieldLink RX3 30 "BackwardSearch$State" "endRule" "Z", .fieldLink RX3 37 "BackwardSearch$State" "place" "I", .fieldLink RX3 41 "BackwardSearch$State" "looks" "I", .fieldLink RX3 44 "BackwardSearch$State" "compared" "I", .methodLink RX3 33 yX2_copy, .instanceMethod yX2_copy, .selects RX2 yX2_copy yX2_copy, .initialized RX2, .code yX2_copy cX2_copy 3 none, .fieldLink RX2 21 "BackwardSearch$Row" "length" "I", .fieldLink RX2 15 "BackwardSearch$Row" "numbers" "[I", .methodLink RX2 29 yX2_clear, .instanceMethod yX2_clear, .selects RX2 yX2_clear yX2_clear, .code yX2_clear cX2_clear 1 none, .methodLink RX2 32 yX2_add, .instanceMethod yX2_add, .selects RX2 yX2_add yX2_add, .code yX2_add cX2_add 2 none] ++ wsX30 ++ wsX20)
def wsX1_keep_r1 : List Cond := [Cond.fieldLink RX1 11 "BackwardSearch$History" "kept" "[LBackwardSearch$State;", Cond.fieldLink RX1 22 "BackwardSearch$History" "next" "I", Cond.fieldLink RX1 18 "BackwardSearch$History" "count" "I", Cond.methodLink RX1 29 Lib.Math.min.name, Cond.static Lib.Math.min.name, Cond.initialized "java/lang/Math", Cond.code Lib.Math.min.name Lib.Math.min.code 2 (some .int), Cond.methodLink RX1 25 yX3_copy, Cond.instanceMethod yX3_copy, Cond.selects RX3 yX3_copy yX3_copy, Cond.initialized RX3, Cond.code yX3_copy cX3_copy 2 none, Cond.fieldLink RX3 14 "BackwardSearch$State" "line" "LBackwardSearch$Row;", Cond.fieldLink RX3 20 "BackwardSearch$State" "word" "LBackwardSearch$Row;", Cond.fieldLink RX3 23 "BackwardSearch$State" "found" "LBackwardSearch$Row;", Cond.fieldLink RX3 26 "BackwardSearch$State" "letterRule" "Z", Cond.fieldLink RX3 30 "BackwardSearch$State" "endRule" "Z", Cond.fieldLink RX3 37 "BackwardSearch$State" "place" "I", Cond.fieldLink RX3 41 "BackwardSearch$State" "looks" "I", Cond.fieldLink RX3 44 "BackwardSearch$State" "compared" "I", Cond.methodLink RX3 33 yX2_copy, Cond.instanceMethod yX2_copy, Cond.selects RX2 yX2_copy yX2_copy, Cond.initialized RX2]
def wsX1_keep_r2 : List Cond := [Cond.code yX2_copy cX2_copy 3 none, Cond.fieldLink RX2 21 "BackwardSearch$Row" "length" "I", Cond.fieldLink RX2 15 "BackwardSearch$Row" "numbers" "[I", Cond.methodLink RX2 29 yX2_clear, Cond.instanceMethod yX2_clear, Cond.selects RX2 yX2_clear yX2_clear, Cond.code yX2_clear cX2_clear 1 none, Cond.methodLink RX2 32 yX2_add, Cond.instanceMethod yX2_add, Cond.selects RX2 yX2_add yX2_add, Cond.code yX2_add cX2_add 2 none]
def wsX1_keep : List Cond := .code yX1_keep cX1_keep 2 none :: ((wsX1_keep_r1 ++ wsX1_keep_r2) ++ wsX10 ++ wsX30 ++ wsX20)
def wsX1_giveBack_r1 : List Cond := [Cond.fieldLink RX1 18 "BackwardSearch$History" "count" "I", Cond.fieldLink RX1 22 "BackwardSearch$History" "next" "I", Cond.fieldLink RX1 11 "BackwardSearch$History" "kept" "[LBackwardSearch$State;", Cond.methodLink RX1 25 yX3_copy, Cond.instanceMethod yX3_copy, Cond.selects RX3 yX3_copy yX3_copy, Cond.initialized RX3, Cond.code yX3_copy cX3_copy 2 none, Cond.fieldLink RX3 14 "BackwardSearch$State" "line" "LBackwardSearch$Row;", Cond.fieldLink RX3 20 "BackwardSearch$State" "word" "LBackwardSearch$Row;", Cond.fieldLink RX3 23 "BackwardSearch$State" "found" "LBackwardSearch$Row;", Cond.fieldLink RX3 26 "BackwardSearch$State" "letterRule" "Z", Cond.fieldLink RX3 30 "BackwardSearch$State" "endRule" "Z", Cond.fieldLink RX3 37 "BackwardSearch$State" "place" "I", Cond.fieldLink RX3 41 "BackwardSearch$State" "looks" "I", Cond.fieldLink RX3 44 "BackwardSearch$State" "compared" "I", Cond.methodLink RX3 33 yX2_copy, Cond.instanceMethod yX2_copy, Cond.selects RX2 yX2_copy yX2_copy, Cond.initialized RX2, Cond.code yX2_copy cX2_copy 3 none, Cond.fieldLink RX2 21 "BackwardSearch$Row" "length" "I", Cond.fieldLink RX2 15 "BackwardSearch$Row" "numbers" "[I", Cond.methodLink RX2 29 yX2_clear]
def wsX1_giveBack_r2 : List Cond := [Cond.instanceMethod yX2_clear, Cond.selects RX2 yX2_clear yX2_clear, Cond.code yX2_clear cX2_clear 1 none, Cond.methodLink RX2 32 yX2_add, Cond.instanceMethod yX2_add, Cond.selects RX2 yX2_add yX2_add, Cond.code yX2_add cX2_add 2 none]
def wsX1_giveBack : List Cond := .code yX1_giveBack cX1_giveBack 2 none :: ((wsX1_giveBack_r1 ++ wsX1_giveBack_r2) ++ wsX10 ++ wsX30 ++ wsX20)
def wsX2_isEmpty : List Cond := .code yX2_isEmpty cX2_isEmpty 1 (some .boolean) :: ([.fieldLink RX2 21 "BackwardSearch$Row" "length" "I"] ++ wsX20)
def wsX2_put : List Cond := .code yX2_put cX2_put 3 none :: ([.fieldLink RX2 15 "BackwardSearch$Row" "numbers" "[I", .methodLink RX2 25 yX2_has, .instanceMethod yX2_has, .selects RX2 yX2_has yX2_has, .initialized RX2, .code yX2_has cX2_has 2 (some .boolean), .fieldLink RX2 21 "BackwardSearch$Row" "length" "I"] ++ wsX20)
def wsX2_lastPlaceWith : List Cond := .code yX2_lastPlaceWith cX2_lastPlaceWith 3 (some .int) :: ([.fieldLink RX2 21 "BackwardSearch$Row" "length" "I", .fieldLink RX2 15 "BackwardSearch$Row" "numbers" "[I"] ++ wsX20)
def wsX3_beginAnew : List Cond := .code yX3_beginAnew cX3_beginAnew 1 none :: ([.fieldLink RX3 37 "BackwardSearch$State" "place" "I", .fieldLink RX3 41 "BackwardSearch$State" "looks" "I", .fieldLink RX3 44 "BackwardSearch$State" "compared" "I", .fieldLink RX3 23 "BackwardSearch$State" "found" "LBackwardSearch$Row;", .methodLink RX3 47 yX2_clear, .instanceMethod yX2_clear, .selects RX2 yX2_clear yX2_clear, .initialized RX2, .code yX2_clear cX2_clear 1 none, .fieldLink RX2 21 "BackwardSearch$Row" "length" "I"] ++ wsX30 ++ wsX20)
def wsX3_useRules : List Cond := .code yX3_useRules cX3_useRules 3 none :: ([.fieldLink RX3 26 "BackwardSearch$State" "letterRule" "Z", .fieldLink RX3 30 "BackwardSearch$State" "endRule" "Z"] ++ wsX30)
def wsX3_rulesOn : List Cond := .code yX3_rulesOn cX3_rulesOn 1 (some .int) :: ([.fieldLink RX3 26 "BackwardSearch$State" "letterRule" "Z", .fieldLink RX3 30 "BackwardSearch$State" "endRule" "Z"] ++ wsX30)
def wsX3_beginnings : List Cond := .code yX3_beginnings cX3_beginnings 1 (some .int) :: ([.fieldLink RX3 14 "BackwardSearch$State" "line" "LBackwardSearch$Row;", .fieldLink RX3 20 "BackwardSearch$State" "word" "LBackwardSearch$Row;", .methodLink RX3 54 Lib.Math.max.name, .static Lib.Math.max.name, .initialized "java/lang/Math", .code Lib.Math.max.name Lib.Math.max.code 2 (some .int), .methodLink RX3 50 yX2_size, .instanceMethod yX2_size, .selects RX2 yX2_size yX2_size, .initialized RX2, .code yX2_size cX2_size 1 (some .int), .fieldLink RX2 21 "BackwardSearch$Row" "length" "I"] ++ wsX30 ++ wsX20)
def wsX3_hasEnded : List Cond := .code yX3_hasEnded cX3_hasEnded 1 (some .boolean) :: ([.fieldLink RX3 20 "BackwardSearch$State" "word" "LBackwardSearch$Row;", .fieldLink RX3 37 "BackwardSearch$State" "place" "I", .methodLink RX3 60 yX2_isEmpty, .instanceMethod yX2_isEmpty, .selects RX2 yX2_isEmpty yX2_isEmpty, .initialized RX2, .code yX2_isEmpty cX2_isEmpty 1 (some .boolean), .fieldLink RX2 21 "BackwardSearch$Row" "length" "I", .methodLink RX3 64 yX3_beginnings, .instanceMethod yX3_beginnings, .selects RX3 yX3_beginnings yX3_beginnings, .initialized RX3, .code yX3_beginnings cX3_beginnings 1 (some .int), .fieldLink RX3 14 "BackwardSearch$State" "line" "LBackwardSearch$Row;", .methodLink RX3 54 Lib.Math.max.name, .static Lib.Math.max.name, .initialized "java/lang/Math", .code Lib.Math.max.name Lib.Math.max.code 2 (some .int), .methodLink RX3 50 yX2_size, .instanceMethod yX2_size, .selects RX2 yX2_size yX2_size, .code yX2_size cX2_size 1 (some .int)] ++ wsX30 ++ wsX20)
def wsX3_lastDifferenceAt : List Cond := .code yX3_lastDifferenceAt cX3_lastDifferenceAt 3 (some .int) :: ([.fieldLink RX3 20 "BackwardSearch$State" "word" "LBackwardSearch$Row;", .fieldLink RX3 14 "BackwardSearch$State" "line" "LBackwardSearch$Row;", .methodLink RX3 50 yX2_size, .instanceMethod yX2_size, .selects RX2 yX2_size yX2_size, .initialized RX2, .code yX2_size cX2_size 1 (some .int), .fieldLink RX2 21 "BackwardSearch$Row" "length" "I", .methodLink RX3 85 yX2_at, .instanceMethod yX2_at, .selects RX2 yX2_at yX2_at, .code yX2_at cX2_at 2 (some .int), .fieldLink RX2 15 "BackwardSearch$Row" "numbers" "[I", .methodLink RX2 25 yX2_has, .instanceMethod yX2_has, .selects RX2 yX2_has yX2_has, .code yX2_has cX2_has 2 (some .boolean)] ++ wsX30 ++ wsX20)
def wsX3_skipByLetter : List Cond := .code yX3_skipByLetter cX3_skipByLetter 3 (some .int) :: ([.fieldLink RX3 20 "BackwardSearch$State" "word" "LBackwardSearch$Row;", .methodLink RX3 99 yX2_lastPlaceWith, .instanceMethod yX2_lastPlaceWith, .selects RX2 yX2_lastPlaceWith yX2_lastPlaceWith, .initialized RX2, .code yX2_lastPlaceWith cX2_lastPlaceWith 3 (some .int), .fieldLink RX2 21 "BackwardSearch$Row" "length" "I", .fieldLink RX2 15 "BackwardSearch$Row" "numbers" "[I"] ++ wsX30 ++ wsX20)
def wsX3_skipBehind_r1 : List Cond := [Cond.fieldLink RX3 26 "BackwardSearch$State" "letterRule" "Z", Cond.fieldLink RX3 14 "BackwardSearch$State" "line" "LBackwardSearch$Row;", Cond.fieldLink RX3 37 "BackwardSearch$State" "place" "I", Cond.methodLink RX3 54 Lib.Math.max.name, Cond.static Lib.Math.max.name, Cond.initialized "java/lang/Math", Cond.code Lib.Math.max.name Lib.Math.max.code 2 (some .int), Cond.fieldLink RX3 30 "BackwardSearch$State" "endRule" "Z", Cond.methodLink RX3 88 yX0_wordPeriod, Cond.instanceMethod yX0_wordPeriod, Cond.selects RX0 yX0_wordPeriod yX0_wordPeriod, Cond.initialized RX0, Cond.code yX0_wordPeriod cX0_wordPeriod 1 (some .int), Cond.fieldLink RX0 30 "BackwardSearch$Ends" "length" "I", Cond.fieldLink RX0 9 "BackwardSearch$Ends" "borderOf" "[I", Cond.methodLink RX3 85 yX2_at, Cond.instanceMethod yX2_at, Cond.selects RX2 yX2_at yX2_at, Cond.initialized RX2, Cond.code yX2_at cX2_at 2 (some .int), Cond.fieldLink RX2 15 "BackwardSearch$Row" "numbers" "[I", Cond.methodLink RX2 25 yX2_has, Cond.instanceMethod yX2_has, Cond.selects RX2 yX2_has yX2_has]
def wsX3_skipBehind_r2 : List Cond := [Cond.code yX2_has cX2_has 2 (some .boolean), Cond.fieldLink RX2 21 "BackwardSearch$Row" "length" "I", Cond.methodLink RX3 93 yX3_skipByLetter, Cond.instanceMethod yX3_skipByLetter, Cond.selects RX3 yX3_skipByLetter yX3_skipByLetter, Cond.initialized RX3, Cond.code yX3_skipByLetter cX3_skipByLetter 3 (some .int), Cond.fieldLink RX3 20 "BackwardSearch$State" "word" "LBackwardSearch$Row;", Cond.methodLink RX3 99 yX2_lastPlaceWith, Cond.instanceMethod yX2_lastPlaceWith, Cond.selects RX2 yX2_lastPlaceWith yX2_lastPlaceWith, Cond.code yX2_lastPlaceWith cX2_lastPlaceWith 3 (some .int), Cond.methodLink RX3 96 yX0_skipAt, Cond.instanceMethod yX0_skipAt, Cond.selects RX0 yX0_skipAt yX0_skipAt, Cond.code yX0_skipAt cX0_skipAt 2 (some .int), Cond.fieldLink RX0 15 "BackwardSearch$Ends" "skipOf" "[I"]
def wsX3_skipBehind : List Cond := .code yX3_skipBehind cX3_skipBehind 4 (some .int) :: ((wsX3_skipBehind_r1 ++ wsX3_skipBehind_r2) ++ wsX30 ++ wsX00 ++ wsX20)
def wsX3_lookOnce_r1 : List Cond := [Cond.fieldLink RX3 37 "BackwardSearch$State" "place" "I", Cond.fieldLink RX3 41 "BackwardSearch$State" "looks" "I", Cond.fieldLink RX3 44 "BackwardSearch$State" "compared" "I", Cond.fieldLink RX3 20 "BackwardSearch$State" "word" "LBackwardSearch$Row;", Cond.methodLink RX3 54 Lib.Math.max.name, Cond.static Lib.Math.max.name, Cond.initialized "java/lang/Math", Cond.code Lib.Math.max.name Lib.Math.max.code 2 (some .int), Cond.fieldLink RX3 23 "BackwardSearch$State" "found" "LBackwardSearch$Row;", Cond.methodLink RX3 74 yX3_lastDifferenceAt, Cond.instanceMethod yX3_lastDifferenceAt, Cond.selects RX3 yX3_lastDifferenceAt yX3_lastDifferenceAt, Cond.initialized RX3, Cond.code yX3_lastDifferenceAt cX3_lastDifferenceAt 3 (some .int), Cond.fieldLink RX3 14 "BackwardSearch$State" "line" "LBackwardSearch$Row;", Cond.methodLink RX3 50 yX2_size, Cond.instanceMethod yX2_size, Cond.selects RX2 yX2_size yX2_size, Cond.initialized RX2, Cond.code yX2_size cX2_size 1 (some .int), Cond.fieldLink RX2 21 "BackwardSearch$Row" "length" "I", Cond.methodLink RX3 85 yX2_at, Cond.instanceMethod yX2_at, Cond.selects RX2 yX2_at yX2_at]
def wsX3_lookOnce_r2 : List Cond := [Cond.code yX2_at cX2_at 2 (some .int), Cond.fieldLink RX2 15 "BackwardSearch$Row" "numbers" "[I", Cond.methodLink RX2 25 yX2_has, Cond.instanceMethod yX2_has, Cond.selects RX2 yX2_has yX2_has, Cond.code yX2_has cX2_has 2 (some .boolean), Cond.methodLink RX3 78 yX3_skipBehind, Cond.instanceMethod yX3_skipBehind, Cond.selects RX3 yX3_skipBehind yX3_skipBehind, Cond.code yX3_skipBehind cX3_skipBehind 4 (some .int), Cond.fieldLink RX3 26 "BackwardSearch$State" "letterRule" "Z", Cond.fieldLink RX3 30 "BackwardSearch$State" "endRule" "Z", Cond.methodLink RX3 88 yX0_wordPeriod, Cond.instanceMethod yX0_wordPeriod, Cond.selects RX0 yX0_wordPeriod yX0_wordPeriod, Cond.initialized RX0, Cond.code yX0_wordPeriod cX0_wordPeriod 1 (some .int), Cond.fieldLink RX0 30 "BackwardSearch$Ends" "length" "I", Cond.fieldLink RX0 9 "BackwardSearch$Ends" "borderOf" "[I", Cond.methodLink RX3 93 yX3_skipByLetter, Cond.instanceMethod yX3_skipByLetter, Cond.selects RX3 yX3_skipByLetter yX3_skipByLetter, Cond.code yX3_skipByLetter cX3_skipByLetter 3 (some .int), Cond.methodLink RX3 99 yX2_lastPlaceWith]
def wsX3_lookOnce_r3 : List Cond := [Cond.instanceMethod yX2_lastPlaceWith, Cond.selects RX2 yX2_lastPlaceWith yX2_lastPlaceWith, Cond.code yX2_lastPlaceWith cX2_lastPlaceWith 3 (some .int), Cond.methodLink RX3 96 yX0_skipAt, Cond.instanceMethod yX0_skipAt, Cond.selects RX0 yX0_skipAt yX0_skipAt, Cond.code yX0_skipAt cX0_skipAt 2 (some .int), Cond.fieldLink RX0 15 "BackwardSearch$Ends" "skipOf" "[I", Cond.methodLink RX3 82 yX2_add, Cond.instanceMethod yX2_add, Cond.selects RX2 yX2_add yX2_add, Cond.code yX2_add cX2_add 2 none]
def wsX3_lookOnce : List Cond := .code yX3_lookOnce cX3_lookOnce 4 (some .int) :: ((wsX3_lookOnce_r1 ++ (wsX3_lookOnce_r2 ++ wsX3_lookOnce_r3)) ++ wsX30 ++ wsX20 ++ wsX00)
def wsX3_lookToTheEnd_r1 : List Cond := [Cond.methodLink RX3 67 yX3_hasEnded, Cond.instanceMethod yX3_hasEnded, Cond.selects RX3 yX3_hasEnded yX3_hasEnded, Cond.initialized RX3, Cond.code yX3_hasEnded cX3_hasEnded 1 (some .boolean), Cond.fieldLink RX3 20 "BackwardSearch$State" "word" "LBackwardSearch$Row;", Cond.fieldLink RX3 37 "BackwardSearch$State" "place" "I", Cond.methodLink RX3 60 yX2_isEmpty, Cond.instanceMethod yX2_isEmpty, Cond.selects RX2 yX2_isEmpty yX2_isEmpty, Cond.initialized RX2, Cond.code yX2_isEmpty cX2_isEmpty 1 (some .boolean), Cond.fieldLink RX2 21 "BackwardSearch$Row" "length" "I", Cond.methodLink RX3 64 yX3_beginnings, Cond.instanceMethod yX3_beginnings, Cond.selects RX3 yX3_beginnings yX3_beginnings, Cond.code yX3_beginnings cX3_beginnings 1 (some .int), Cond.fieldLink RX3 14 "BackwardSearch$State" "line" "LBackwardSearch$Row;", Cond.methodLink RX3 54 Lib.Math.max.name, Cond.static Lib.Math.max.name, Cond.initialized "java/lang/Math", Cond.code Lib.Math.max.name Lib.Math.max.code 2 (some .int), Cond.methodLink RX3 50 yX2_size, Cond.instanceMethod yX2_size]
def wsX3_lookToTheEnd_r2 : List Cond := [Cond.selects RX2 yX2_size yX2_size, Cond.code yX2_size cX2_size 1 (some .int), Cond.methodLink RX3 70 yX3_lookOnce, Cond.instanceMethod yX3_lookOnce, Cond.selects RX3 yX3_lookOnce yX3_lookOnce, Cond.code yX3_lookOnce cX3_lookOnce 4 (some .int), Cond.fieldLink RX3 41 "BackwardSearch$State" "looks" "I", Cond.fieldLink RX3 44 "BackwardSearch$State" "compared" "I", Cond.fieldLink RX3 23 "BackwardSearch$State" "found" "LBackwardSearch$Row;", Cond.methodLink RX3 74 yX3_lastDifferenceAt, Cond.instanceMethod yX3_lastDifferenceAt, Cond.selects RX3 yX3_lastDifferenceAt yX3_lastDifferenceAt, Cond.code yX3_lastDifferenceAt cX3_lastDifferenceAt 3 (some .int), Cond.methodLink RX3 85 yX2_at, Cond.instanceMethod yX2_at, Cond.selects RX2 yX2_at yX2_at, Cond.code yX2_at cX2_at 2 (some .int), Cond.fieldLink RX2 15 "BackwardSearch$Row" "numbers" "[I", Cond.methodLink RX2 25 yX2_has, Cond.instanceMethod yX2_has, Cond.selects RX2 yX2_has yX2_has, Cond.code yX2_has cX2_has 2 (some .boolean), Cond.methodLink RX3 78 yX3_skipBehind, Cond.instanceMethod yX3_skipBehind]
def wsX3_lookToTheEnd_r3 : List Cond := [Cond.selects RX3 yX3_skipBehind yX3_skipBehind, Cond.code yX3_skipBehind cX3_skipBehind 4 (some .int), Cond.fieldLink RX3 26 "BackwardSearch$State" "letterRule" "Z", Cond.fieldLink RX3 30 "BackwardSearch$State" "endRule" "Z", Cond.methodLink RX3 88 yX0_wordPeriod, Cond.instanceMethod yX0_wordPeriod, Cond.selects RX0 yX0_wordPeriod yX0_wordPeriod, Cond.initialized RX0, Cond.code yX0_wordPeriod cX0_wordPeriod 1 (some .int), Cond.fieldLink RX0 30 "BackwardSearch$Ends" "length" "I", Cond.fieldLink RX0 9 "BackwardSearch$Ends" "borderOf" "[I", Cond.methodLink RX3 93 yX3_skipByLetter, Cond.instanceMethod yX3_skipByLetter, Cond.selects RX3 yX3_skipByLetter yX3_skipByLetter, Cond.code yX3_skipByLetter cX3_skipByLetter 3 (some .int), Cond.methodLink RX3 99 yX2_lastPlaceWith, Cond.instanceMethod yX2_lastPlaceWith, Cond.selects RX2 yX2_lastPlaceWith yX2_lastPlaceWith, Cond.code yX2_lastPlaceWith cX2_lastPlaceWith 3 (some .int), Cond.methodLink RX3 96 yX0_skipAt, Cond.instanceMethod yX0_skipAt, Cond.selects RX0 yX0_skipAt yX0_skipAt, Cond.code yX0_skipAt cX0_skipAt 2 (some .int), Cond.fieldLink RX0 15 "BackwardSearch$Ends" "skipOf" "[I"]
def wsX3_lookToTheEnd_r4 : List Cond := [Cond.methodLink RX3 82 yX2_add, Cond.instanceMethod yX2_add, Cond.selects RX2 yX2_add yX2_add, Cond.code yX2_add cX2_add 2 none]
def wsX3_lookToTheEnd : List Cond := .code yX3_lookToTheEnd cX3_lookToTheEnd 3 (some .int) :: ((wsX3_lookToTheEnd_r1 ++ (wsX3_lookToTheEnd_r2 ++ (wsX3_lookToTheEnd_r3 ++ wsX3_lookToTheEnd_r4))) ++ wsX30 ++ wsX20 ++ wsX00)
def wsX4_init_r1 : List Cond := [Cond.methodLink RX4 1 objectInit, Cond.instanceMethod objectInit, Cond.code objectInit ⟨#[0xb1]⟩ 1 none, Cond.classLink RX4 7 RX3, Cond.instantiable RX3 8, Cond.initialized RX3, Cond.fieldLink RX4 10 "BackwardSearch" "state" "LBackwardSearch$State;", Cond.fieldLink RX4 16 "BackwardSearch" "trial" "LBackwardSearch$State;", Cond.classLink RX4 19 RX0, Cond.instantiable RX0 3, Cond.initialized RX0, Cond.fieldLink RX4 22 "BackwardSearch" "ends" "LBackwardSearch$Ends;", Cond.classLink RX4 26 RX1, Cond.instantiable RX1 3, Cond.initialized RX1, Cond.fieldLink RX4 29 "BackwardSearch" "history" "LBackwardSearch$History;", Cond.fieldLink RX4 33 "BackwardSearch" "slots" "[LBackwardSearch$State;", Cond.arrayClass .boolean, Cond.fieldLink RX4 37 "BackwardSearch" "saved" "[Z", Cond.classLink RX4 41 RX2, Cond.instantiable RX2 2, Cond.initialized RX2, Cond.fieldLink RX4 46 "BackwardSearch" "text" "LBackwardSearch$Row;", Cond.instanceMethod yX3_init]
def wsX4_init_r2 : List Cond := [Cond.code yX3_init cX3_init 1 none, Cond.methodLink RX3 3 objectInit, Cond.classLink RX3 9 RX2, Cond.fieldLink RX3 14 "BackwardSearch$State" "line" "LBackwardSearch$Row;", Cond.fieldLink RX3 20 "BackwardSearch$State" "word" "LBackwardSearch$Row;", Cond.fieldLink RX3 23 "BackwardSearch$State" "found" "LBackwardSearch$Row;", Cond.fieldLink RX3 26 "BackwardSearch$State" "letterRule" "Z", Cond.fieldLink RX3 30 "BackwardSearch$State" "endRule" "Z", Cond.methodLink RX3 11 yX2_init, Cond.instanceMethod yX2_init, Cond.code yX2_init cX2_init 2 none, Cond.methodLink RX2 3 objectInit, Cond.methodLink RX2 9 Lib.Math.max.name, Cond.static Lib.Math.max.name, Cond.initialized "java/lang/Math", Cond.code Lib.Math.max.name Lib.Math.max.code 2 (some .int), Cond.arrayClass .int, Cond.fieldLink RX2 15 "BackwardSearch$Row" "numbers" "[I", Cond.instanceMethod yX0_init, Cond.code yX0_init cX0_init 1 none, Cond.methodLink RX0 3 objectInit, Cond.fieldLink RX0 9 "BackwardSearch$Ends" "borderOf" "[I", Cond.fieldLink RX0 15 "BackwardSearch$Ends" "skipOf" "[I", Cond.methodLink RX4 28 yX1_init]
def wsX4_init_r3 : List Cond := [Cond.instanceMethod yX1_init, Cond.code yX1_init cX1_init 2 none, Cond.methodLink RX1 3 objectInit, Cond.classLink RX1 9 RX3, Cond.fieldLink RX1 11 "BackwardSearch$History" "kept" "[LBackwardSearch$State;", Cond.methodLink RX4 43 yX2_init]
def wsX4_init : List Cond := .code yX4_init cX4_init 2 none :: ((wsX4_init_r1 ++ (wsX4_init_r2 ++ wsX4_init_r3)) ++ wsX30 ++ wsX40 ++ wsX00 ++ wsX10 ++ wsX20)
def wsX4_textError : List Cond := .code yX4_textError cX4_textError 3 (some .int) :: ([.fieldLink RX4 46 "BackwardSearch" "text" "LBackwardSearch$Row;", .methodLink RX4 67 yX2_size, .instanceMethod yX2_size, .selects RX2 yX2_size yX2_size, .initialized RX2, .code yX2_size cX2_size 1 (some .int), .fieldLink RX2 21 "BackwardSearch$Row" "length" "I", .methodLink RX4 113 yX2_at, .instanceMethod yX2_at, .selects RX2 yX2_at yX2_at, .code yX2_at cX2_at 2 (some .int), .fieldLink RX2 15 "BackwardSearch$Row" "numbers" "[I", .methodLink RX2 25 yX2_has, .instanceMethod yX2_has, .selects RX2 yX2_has yX2_has, .code yX2_has cX2_has 2 (some .boolean)] ++ wsX40 ++ wsX20)
def wsX4_refuseTextUnlessLetters : List Cond := .code yX4_refuseTextUnlessLetters cX4_refuseTextUnlessLetters 2 none :: ([.classLink RX4 85 "java/lang/IllegalStateException", .initialized "java/lang/IllegalStateException", .fieldLink RX4 46 "BackwardSearch" "text" "LBackwardSearch$Row;", .methodLink RX4 219 yX4_textError, .instanceMethod yX4_textError, .selects RX4 yX4_textError yX4_textError, .initialized RX4, .code yX4_textError cX4_textError 3 (some .int), .methodLink RX4 67 yX2_size, .instanceMethod yX2_size, .selects RX2 yX2_size yX2_size, .initialized RX2, .code yX2_size cX2_size 1 (some .int), .fieldLink RX2 21 "BackwardSearch$Row" "length" "I", .methodLink RX4 113 yX2_at, .instanceMethod yX2_at, .selects RX2 yX2_at yX2_at, .code yX2_at cX2_at 2 (some .int), .fieldLink RX2 15 "BackwardSearch$Row" "numbers" "[I", .methodLink RX2 25 yX2_has, .instanceMethod yX2_has, .selects RX2 yX2_has yX2_has, .code yX2_has cX2_has 2 (some .boolean)] ++ wsX40 ++ wsX20 ++ (vx_atS RX4 89 "java/lang/IllegalStateException" ["java/lang/RuntimeException", "java/lang/Exception"]).filter goodWord)
def wsX4_moveText : List Cond := .code yX4_moveText cX4_moveText 3 none :: ([.fieldLink RX4 46 "BackwardSearch" "text" "LBackwardSearch$Row;", .methodLink RX4 193 yX2_clear, .instanceMethod yX2_clear, .selects RX2 yX2_clear yX2_clear, .initialized RX2, .code yX2_clear cX2_clear 1 none, .fieldLink RX2 21 "BackwardSearch$Row" "length" "I", .methodLink RX4 67 yX2_size, .instanceMethod yX2_size, .selects RX2 yX2_size yX2_size, .code yX2_size cX2_size 1 (some .int), .methodLink RX4 113 yX2_at, .instanceMethod yX2_at, .selects RX2 yX2_at yX2_at, .code yX2_at cX2_at 2 (some .int), .fieldLink RX2 15 "BackwardSearch$Row" "numbers" "[I", .methodLink RX2 25 yX2_has, .instanceMethod yX2_has, .selects RX2 yX2_has yX2_has, .code yX2_has cX2_has 2 (some .boolean), .methodLink RX4 190 yX2_add, .instanceMethod yX2_add, .selects RX2 yX2_add yX2_add, .code yX2_add cX2_add 2 none] ++ wsX40 ++ wsX20)
def wsX4_takeLine_r1 : List Cond := [Cond.fieldLink RX4 29 "BackwardSearch" "history" "LBackwardSearch$History;", Cond.fieldLink RX4 10 "BackwardSearch" "state" "LBackwardSearch$State;", Cond.methodLink RX4 50 yX4_refuseTextUnlessLetters, Cond.instanceMethod yX4_refuseTextUnlessLetters, Cond.selects RX4 yX4_refuseTextUnlessLetters yX4_refuseTextUnlessLetters, Cond.initialized RX4, Cond.code yX4_refuseTextUnlessLetters cX4_refuseTextUnlessLetters 2 none, Cond.classLink RX4 85 "java/lang/IllegalStateException", Cond.initialized "java/lang/IllegalStateException", Cond.fieldLink RX4 46 "BackwardSearch" "text" "LBackwardSearch$Row;", Cond.methodLink RX4 219 yX4_textError, Cond.instanceMethod yX4_textError, Cond.selects RX4 yX4_textError yX4_textError, Cond.code yX4_textError cX4_textError 3 (some .int), Cond.methodLink RX4 67 yX2_size, Cond.instanceMethod yX2_size, Cond.selects RX2 yX2_size yX2_size, Cond.initialized RX2, Cond.code yX2_size cX2_size 1 (some .int), Cond.fieldLink RX2 21 "BackwardSearch$Row" "length" "I", Cond.methodLink RX4 113 yX2_at, Cond.instanceMethod yX2_at, Cond.selects RX2 yX2_at yX2_at, Cond.code yX2_at cX2_at 2 (some .int)]
def wsX4_takeLine_r2 : List Cond := [Cond.fieldLink RX2 15 "BackwardSearch$Row" "numbers" "[I", Cond.methodLink RX2 25 yX2_has, Cond.instanceMethod yX2_has, Cond.selects RX2 yX2_has yX2_has, Cond.code yX2_has cX2_has 2 (some .boolean), Cond.methodLink RX4 53 yX1_keep, Cond.instanceMethod yX1_keep, Cond.selects RX1 yX1_keep yX1_keep, Cond.initialized RX1, Cond.code yX1_keep cX1_keep 2 none, Cond.fieldLink RX1 11 "BackwardSearch$History" "kept" "[LBackwardSearch$State;", Cond.fieldLink RX1 22 "BackwardSearch$History" "next" "I", Cond.fieldLink RX1 18 "BackwardSearch$History" "count" "I", Cond.methodLink RX1 29 Lib.Math.min.name, Cond.static Lib.Math.min.name, Cond.initialized "java/lang/Math", Cond.code Lib.Math.min.name Lib.Math.min.code 2 (some .int), Cond.methodLink RX1 25 yX3_copy, Cond.instanceMethod yX3_copy, Cond.selects RX3 yX3_copy yX3_copy, Cond.initialized RX3, Cond.code yX3_copy cX3_copy 2 none, Cond.fieldLink RX3 14 "BackwardSearch$State" "line" "LBackwardSearch$Row;", Cond.fieldLink RX3 20 "BackwardSearch$State" "word" "LBackwardSearch$Row;"]
def wsX4_takeLine_r3 : List Cond := [Cond.fieldLink RX3 23 "BackwardSearch$State" "found" "LBackwardSearch$Row;", Cond.fieldLink RX3 26 "BackwardSearch$State" "letterRule" "Z", Cond.fieldLink RX3 30 "BackwardSearch$State" "endRule" "Z", Cond.fieldLink RX3 37 "BackwardSearch$State" "place" "I", Cond.fieldLink RX3 41 "BackwardSearch$State" "looks" "I", Cond.fieldLink RX3 44 "BackwardSearch$State" "compared" "I", Cond.methodLink RX3 33 yX2_copy, Cond.instanceMethod yX2_copy, Cond.selects RX2 yX2_copy yX2_copy, Cond.code yX2_copy cX2_copy 3 none, Cond.methodLink RX2 29 yX2_clear, Cond.instanceMethod yX2_clear, Cond.selects RX2 yX2_clear yX2_clear, Cond.code yX2_clear cX2_clear 1 none, Cond.methodLink RX2 32 yX2_add, Cond.instanceMethod yX2_add, Cond.selects RX2 yX2_add yX2_add, Cond.code yX2_add cX2_add 2 none, Cond.methodLink RX4 60 yX4_moveText, Cond.instanceMethod yX4_moveText, Cond.selects RX4 yX4_moveText yX4_moveText, Cond.code yX4_moveText cX4_moveText 3 none, Cond.methodLink RX4 193 yX2_clear, Cond.methodLink RX4 190 yX2_add]
def wsX4_takeLine_r4 : List Cond := [Cond.methodLink RX4 64 yX3_beginAnew, Cond.instanceMethod yX3_beginAnew, Cond.selects RX3 yX3_beginAnew yX3_beginAnew, Cond.code yX3_beginAnew cX3_beginAnew 1 none, Cond.methodLink RX3 47 yX2_clear]
def wsX4_takeLine : List Cond := .code yX4_takeLine cX4_takeLine 1 (some .int) :: ((wsX4_takeLine_r1 ++ (wsX4_takeLine_r2 ++ (wsX4_takeLine_r3 ++ wsX4_takeLine_r4))) ++ wsX40 ++ wsX30 ++ wsX20 ++ wsX10 ++ (vx_atS RX4 89 "java/lang/IllegalStateException" ["java/lang/RuntimeException", "java/lang/Exception"]).filter goodWord)
def wsX4_takeWord_r1 : List Cond := [Cond.fieldLink RX4 29 "BackwardSearch" "history" "LBackwardSearch$History;", Cond.fieldLink RX4 10 "BackwardSearch" "state" "LBackwardSearch$State;", Cond.methodLink RX4 50 yX4_refuseTextUnlessLetters, Cond.instanceMethod yX4_refuseTextUnlessLetters, Cond.selects RX4 yX4_refuseTextUnlessLetters yX4_refuseTextUnlessLetters, Cond.initialized RX4, Cond.code yX4_refuseTextUnlessLetters cX4_refuseTextUnlessLetters 2 none, Cond.classLink RX4 85 "java/lang/IllegalStateException", Cond.initialized "java/lang/IllegalStateException", Cond.fieldLink RX4 46 "BackwardSearch" "text" "LBackwardSearch$Row;", Cond.methodLink RX4 219 yX4_textError, Cond.instanceMethod yX4_textError, Cond.selects RX4 yX4_textError yX4_textError, Cond.code yX4_textError cX4_textError 3 (some .int), Cond.methodLink RX4 67 yX2_size, Cond.instanceMethod yX2_size, Cond.selects RX2 yX2_size yX2_size, Cond.initialized RX2, Cond.code yX2_size cX2_size 1 (some .int), Cond.fieldLink RX2 21 "BackwardSearch$Row" "length" "I", Cond.methodLink RX4 113 yX2_at, Cond.instanceMethod yX2_at, Cond.selects RX2 yX2_at yX2_at, Cond.code yX2_at cX2_at 2 (some .int)]
def wsX4_takeWord_r2 : List Cond := [Cond.fieldLink RX2 15 "BackwardSearch$Row" "numbers" "[I", Cond.methodLink RX2 25 yX2_has, Cond.instanceMethod yX2_has, Cond.selects RX2 yX2_has yX2_has, Cond.code yX2_has cX2_has 2 (some .boolean), Cond.methodLink RX4 53 yX1_keep, Cond.instanceMethod yX1_keep, Cond.selects RX1 yX1_keep yX1_keep, Cond.initialized RX1, Cond.code yX1_keep cX1_keep 2 none, Cond.fieldLink RX1 11 "BackwardSearch$History" "kept" "[LBackwardSearch$State;", Cond.fieldLink RX1 22 "BackwardSearch$History" "next" "I", Cond.fieldLink RX1 18 "BackwardSearch$History" "count" "I", Cond.methodLink RX1 29 Lib.Math.min.name, Cond.static Lib.Math.min.name, Cond.initialized "java/lang/Math", Cond.code Lib.Math.min.name Lib.Math.min.code 2 (some .int), Cond.methodLink RX1 25 yX3_copy, Cond.instanceMethod yX3_copy, Cond.selects RX3 yX3_copy yX3_copy, Cond.initialized RX3, Cond.code yX3_copy cX3_copy 2 none, Cond.fieldLink RX3 14 "BackwardSearch$State" "line" "LBackwardSearch$Row;", Cond.fieldLink RX3 20 "BackwardSearch$State" "word" "LBackwardSearch$Row;"]
def wsX4_takeWord_r3 : List Cond := [Cond.fieldLink RX3 23 "BackwardSearch$State" "found" "LBackwardSearch$Row;", Cond.fieldLink RX3 26 "BackwardSearch$State" "letterRule" "Z", Cond.fieldLink RX3 30 "BackwardSearch$State" "endRule" "Z", Cond.fieldLink RX3 37 "BackwardSearch$State" "place" "I", Cond.fieldLink RX3 41 "BackwardSearch$State" "looks" "I", Cond.fieldLink RX3 44 "BackwardSearch$State" "compared" "I", Cond.methodLink RX3 33 yX2_copy, Cond.instanceMethod yX2_copy, Cond.selects RX2 yX2_copy yX2_copy, Cond.code yX2_copy cX2_copy 3 none, Cond.methodLink RX2 29 yX2_clear, Cond.instanceMethod yX2_clear, Cond.selects RX2 yX2_clear yX2_clear, Cond.code yX2_clear cX2_clear 1 none, Cond.methodLink RX2 32 yX2_add, Cond.instanceMethod yX2_add, Cond.selects RX2 yX2_add yX2_add, Cond.code yX2_add cX2_add 2 none, Cond.methodLink RX4 60 yX4_moveText, Cond.instanceMethod yX4_moveText, Cond.selects RX4 yX4_moveText yX4_moveText, Cond.code yX4_moveText cX4_moveText 3 none, Cond.methodLink RX4 193 yX2_clear, Cond.methodLink RX4 190 yX2_add]
def wsX4_takeWord_r4 : List Cond := [Cond.methodLink RX4 64 yX3_beginAnew, Cond.instanceMethod yX3_beginAnew, Cond.selects RX3 yX3_beginAnew yX3_beginAnew, Cond.code yX3_beginAnew cX3_beginAnew 1 none, Cond.methodLink RX3 47 yX2_clear]
def wsX4_takeWord : List Cond := .code yX4_takeWord cX4_takeWord 1 (some .int) :: ((wsX4_takeWord_r1 ++ (wsX4_takeWord_r2 ++ (wsX4_takeWord_r3 ++ wsX4_takeWord_r4))) ++ wsX40 ++ wsX30 ++ wsX20 ++ wsX10 ++ (vx_atS RX4 89 "java/lang/IllegalStateException" ["java/lang/RuntimeException", "java/lang/Exception"]).filter goodWord)
def wsX4_setRules_r1 : List Cond := [Cond.fieldLink RX4 29 "BackwardSearch" "history" "LBackwardSearch$History;", Cond.fieldLink RX4 10 "BackwardSearch" "state" "LBackwardSearch$State;", Cond.methodLink RX4 53 yX1_keep, Cond.instanceMethod yX1_keep, Cond.selects RX1 yX1_keep yX1_keep, Cond.initialized RX1, Cond.code yX1_keep cX1_keep 2 none, Cond.fieldLink RX1 11 "BackwardSearch$History" "kept" "[LBackwardSearch$State;", Cond.fieldLink RX1 22 "BackwardSearch$History" "next" "I", Cond.fieldLink RX1 18 "BackwardSearch$History" "count" "I", Cond.methodLink RX1 29 Lib.Math.min.name, Cond.static Lib.Math.min.name, Cond.initialized "java/lang/Math", Cond.code Lib.Math.min.name Lib.Math.min.code 2 (some .int), Cond.methodLink RX1 25 yX3_copy, Cond.instanceMethod yX3_copy, Cond.selects RX3 yX3_copy yX3_copy, Cond.initialized RX3, Cond.code yX3_copy cX3_copy 2 none, Cond.fieldLink RX3 14 "BackwardSearch$State" "line" "LBackwardSearch$Row;", Cond.fieldLink RX3 20 "BackwardSearch$State" "word" "LBackwardSearch$Row;", Cond.fieldLink RX3 23 "BackwardSearch$State" "found" "LBackwardSearch$Row;", Cond.fieldLink RX3 26 "BackwardSearch$State" "letterRule" "Z", Cond.fieldLink RX3 30 "BackwardSearch$State" "endRule" "Z"]
def wsX4_setRules_r2 : List Cond := [Cond.fieldLink RX3 37 "BackwardSearch$State" "place" "I", Cond.fieldLink RX3 41 "BackwardSearch$State" "looks" "I", Cond.fieldLink RX3 44 "BackwardSearch$State" "compared" "I", Cond.methodLink RX3 33 yX2_copy, Cond.instanceMethod yX2_copy, Cond.selects RX2 yX2_copy yX2_copy, Cond.initialized RX2, Cond.code yX2_copy cX2_copy 3 none, Cond.fieldLink RX2 21 "BackwardSearch$Row" "length" "I", Cond.fieldLink RX2 15 "BackwardSearch$Row" "numbers" "[I", Cond.methodLink RX2 29 yX2_clear, Cond.instanceMethod yX2_clear, Cond.selects RX2 yX2_clear yX2_clear, Cond.code yX2_clear cX2_clear 1 none, Cond.methodLink RX2 32 yX2_add, Cond.instanceMethod yX2_add, Cond.selects RX2 yX2_add yX2_add, Cond.code yX2_add cX2_add 2 none, Cond.methodLink RX4 74 yX3_rulesOn, Cond.instanceMethod yX3_rulesOn, Cond.selects RX3 yX3_rulesOn yX3_rulesOn, Cond.code yX3_rulesOn cX3_rulesOn 1 (some .int), Cond.methodLink RX4 77 yX3_useRules, Cond.instanceMethod yX3_useRules]
def wsX4_setRules_r3 : List Cond := [Cond.selects RX3 yX3_useRules yX3_useRules, Cond.code yX3_useRules cX3_useRules 3 none, Cond.methodLink RX4 64 yX3_beginAnew, Cond.instanceMethod yX3_beginAnew, Cond.selects RX3 yX3_beginAnew yX3_beginAnew, Cond.code yX3_beginAnew cX3_beginAnew 1 none, Cond.methodLink RX3 47 yX2_clear]
def wsX4_setRules : List Cond := .code yX4_setRules cX4_setRules 4 (some .int) :: ((wsX4_setRules_r1 ++ (wsX4_setRules_r2 ++ wsX4_setRules_r3)) ++ wsX40 ++ wsX10 ++ wsX30 ++ wsX20)
def wsX4_look_r1 : List Cond := [Cond.classLink RX4 85 "java/lang/IllegalStateException", Cond.initialized "java/lang/IllegalStateException", Cond.fieldLink RX4 10 "BackwardSearch" "state" "LBackwardSearch$State;", Cond.fieldLink RX4 29 "BackwardSearch" "history" "LBackwardSearch$History;", Cond.fieldLink RX4 22 "BackwardSearch" "ends" "LBackwardSearch$Ends;", Cond.methodLink RX4 81 yX3_hasEnded, Cond.instanceMethod yX3_hasEnded, Cond.selects RX3 yX3_hasEnded yX3_hasEnded, Cond.initialized RX3, Cond.code yX3_hasEnded cX3_hasEnded 1 (some .boolean), Cond.fieldLink RX3 20 "BackwardSearch$State" "word" "LBackwardSearch$Row;", Cond.fieldLink RX3 37 "BackwardSearch$State" "place" "I", Cond.methodLink RX3 60 yX2_isEmpty, Cond.instanceMethod yX2_isEmpty, Cond.selects RX2 yX2_isEmpty yX2_isEmpty, Cond.initialized RX2, Cond.code yX2_isEmpty cX2_isEmpty 1 (some .boolean), Cond.fieldLink RX2 21 "BackwardSearch$Row" "length" "I", Cond.methodLink RX3 64 yX3_beginnings, Cond.instanceMethod yX3_beginnings, Cond.selects RX3 yX3_beginnings yX3_beginnings, Cond.code yX3_beginnings cX3_beginnings 1 (some .int), Cond.fieldLink RX3 14 "BackwardSearch$State" "line" "LBackwardSearch$Row;", Cond.methodLink RX3 54 Lib.Math.max.name]
def wsX4_look_r2 : List Cond := [Cond.static Lib.Math.max.name, Cond.initialized "java/lang/Math", Cond.code Lib.Math.max.name Lib.Math.max.code 2 (some .int), Cond.methodLink RX3 50 yX2_size, Cond.instanceMethod yX2_size, Cond.selects RX2 yX2_size yX2_size, Cond.code yX2_size cX2_size 1 (some .int), Cond.methodLink RX4 53 yX1_keep, Cond.instanceMethod yX1_keep, Cond.selects RX1 yX1_keep yX1_keep, Cond.initialized RX1, Cond.code yX1_keep cX1_keep 2 none, Cond.fieldLink RX1 11 "BackwardSearch$History" "kept" "[LBackwardSearch$State;", Cond.fieldLink RX1 22 "BackwardSearch$History" "next" "I", Cond.fieldLink RX1 18 "BackwardSearch$History" "count" "I", Cond.methodLink RX1 29 Lib.Math.min.name, Cond.static Lib.Math.min.name, Cond.code Lib.Math.min.name Lib.Math.min.code 2 (some .int), Cond.methodLink RX1 25 yX3_copy, Cond.instanceMethod yX3_copy, Cond.selects RX3 yX3_copy yX3_copy, Cond.code yX3_copy cX3_copy 2 none, Cond.fieldLink RX3 23 "BackwardSearch$State" "found" "LBackwardSearch$Row;", Cond.fieldLink RX3 26 "BackwardSearch$State" "letterRule" "Z"]
def wsX4_look_r3 : List Cond := [Cond.fieldLink RX3 30 "BackwardSearch$State" "endRule" "Z", Cond.fieldLink RX3 41 "BackwardSearch$State" "looks" "I", Cond.fieldLink RX3 44 "BackwardSearch$State" "compared" "I", Cond.methodLink RX3 33 yX2_copy, Cond.instanceMethod yX2_copy, Cond.selects RX2 yX2_copy yX2_copy, Cond.code yX2_copy cX2_copy 3 none, Cond.fieldLink RX2 15 "BackwardSearch$Row" "numbers" "[I", Cond.methodLink RX2 29 yX2_clear, Cond.instanceMethod yX2_clear, Cond.selects RX2 yX2_clear yX2_clear, Cond.code yX2_clear cX2_clear 1 none, Cond.methodLink RX2 32 yX2_add, Cond.instanceMethod yX2_add, Cond.selects RX2 yX2_add yX2_add, Cond.code yX2_add cX2_add 2 none, Cond.methodLink RX4 92 yX0_study, Cond.instanceMethod yX0_study, Cond.selects RX0 yX0_study yX0_study, Cond.initialized RX0, Cond.code yX0_study cX0_study 3 none, Cond.methodLink RX0 24 Lib.Math.min.name, Cond.fieldLink RX0 30 "BackwardSearch$Ends" "length" "I", Cond.fieldLink RX0 15 "BackwardSearch$Ends" "skipOf" "[I"]
def wsX4_look_r4 : List Cond := [Cond.methodLink RX0 18 yX2_size, Cond.methodLink RX0 34 yX0_findBorders, Cond.instanceMethod yX0_findBorders, Cond.selects RX0 yX0_findBorders yX0_findBorders, Cond.code yX0_findBorders cX0_findBorders 4 none, Cond.fieldLink RX0 9 "BackwardSearch$Ends" "borderOf" "[I", Cond.methodLink RX0 41 yX0_borderThatGrows, Cond.instanceMethod yX0_borderThatGrows, Cond.selects RX0 yX0_borderThatGrows yX0_borderThatGrows, Cond.code yX0_borderThatGrows cX0_borderThatGrows 6 (some .int), Cond.methodLink RX0 45 yX2_at, Cond.instanceMethod yX2_at, Cond.selects RX2 yX2_at yX2_at, Cond.code yX2_at cX2_at 2 (some .int), Cond.methodLink RX2 25 yX2_has, Cond.instanceMethod yX2_has, Cond.selects RX2 yX2_has yX2_has, Cond.code yX2_has cX2_has 2 (some .boolean), Cond.methodLink RX0 38 yX0_skipToBordersOfTheWord, Cond.instanceMethod yX0_skipToBordersOfTheWord, Cond.selects RX0 yX0_skipToBordersOfTheWord yX0_skipToBordersOfTheWord, Cond.code yX0_skipToBordersOfTheWord cX0_skipToBordersOfTheWord 3 none, Cond.methodLink RX4 95 yX3_lookOnce, Cond.instanceMethod yX3_lookOnce]
def wsX4_look_r5 : List Cond := [Cond.selects RX3 yX3_lookOnce yX3_lookOnce, Cond.code yX3_lookOnce cX3_lookOnce 4 (some .int), Cond.methodLink RX3 74 yX3_lastDifferenceAt, Cond.instanceMethod yX3_lastDifferenceAt, Cond.selects RX3 yX3_lastDifferenceAt yX3_lastDifferenceAt, Cond.code yX3_lastDifferenceAt cX3_lastDifferenceAt 3 (some .int), Cond.methodLink RX3 85 yX2_at, Cond.methodLink RX3 78 yX3_skipBehind, Cond.instanceMethod yX3_skipBehind, Cond.selects RX3 yX3_skipBehind yX3_skipBehind, Cond.code yX3_skipBehind cX3_skipBehind 4 (some .int), Cond.methodLink RX3 88 yX0_wordPeriod, Cond.instanceMethod yX0_wordPeriod, Cond.selects RX0 yX0_wordPeriod yX0_wordPeriod, Cond.code yX0_wordPeriod cX0_wordPeriod 1 (some .int), Cond.methodLink RX3 93 yX3_skipByLetter, Cond.instanceMethod yX3_skipByLetter, Cond.selects RX3 yX3_skipByLetter yX3_skipByLetter, Cond.code yX3_skipByLetter cX3_skipByLetter 3 (some .int), Cond.methodLink RX3 99 yX2_lastPlaceWith, Cond.instanceMethod yX2_lastPlaceWith, Cond.selects RX2 yX2_lastPlaceWith yX2_lastPlaceWith, Cond.code yX2_lastPlaceWith cX2_lastPlaceWith 3 (some .int), Cond.methodLink RX3 96 yX0_skipAt]
def wsX4_look_r6 : List Cond := [Cond.instanceMethod yX0_skipAt, Cond.selects RX0 yX0_skipAt yX0_skipAt, Cond.code yX0_skipAt cX0_skipAt 2 (some .int), Cond.methodLink RX3 82 yX2_add]
def wsX4_look : List Cond := .code yX4_look cX4_look 1 (some .int) :: ((wsX4_look_r1 ++ (wsX4_look_r2 ++ (wsX4_look_r3 ++ (wsX4_look_r4 ++ (wsX4_look_r5 ++ wsX4_look_r6))))) ++ wsX40 ++ wsX30 ++ wsX20 ++ wsX10 ++ wsX00 ++ (vx_atS RX4 89 "java/lang/IllegalStateException" ["java/lang/RuntimeException", "java/lang/Exception"]).filter goodWord)
def wsX4_finish_r1 : List Cond := [Cond.fieldLink RX4 29 "BackwardSearch" "history" "LBackwardSearch$History;", Cond.fieldLink RX4 10 "BackwardSearch" "state" "LBackwardSearch$State;", Cond.fieldLink RX4 22 "BackwardSearch" "ends" "LBackwardSearch$Ends;", Cond.methodLink RX4 53 yX1_keep, Cond.instanceMethod yX1_keep, Cond.selects RX1 yX1_keep yX1_keep, Cond.initialized RX1, Cond.code yX1_keep cX1_keep 2 none, Cond.fieldLink RX1 11 "BackwardSearch$History" "kept" "[LBackwardSearch$State;", Cond.fieldLink RX1 22 "BackwardSearch$History" "next" "I", Cond.fieldLink RX1 18 "BackwardSearch$History" "count" "I", Cond.methodLink RX1 29 Lib.Math.min.name, Cond.static Lib.Math.min.name, Cond.initialized "java/lang/Math", Cond.code Lib.Math.min.name Lib.Math.min.code 2 (some .int), Cond.methodLink RX1 25 yX3_copy, Cond.instanceMethod yX3_copy, Cond.selects RX3 yX3_copy yX3_copy, Cond.initialized RX3, Cond.code yX3_copy cX3_copy 2 none, Cond.fieldLink RX3 14 "BackwardSearch$State" "line" "LBackwardSearch$Row;", Cond.fieldLink RX3 20 "BackwardSearch$State" "word" "LBackwardSearch$Row;", Cond.fieldLink RX3 23 "BackwardSearch$State" "found" "LBackwardSearch$Row;", Cond.fieldLink RX3 26 "BackwardSearch$State" "letterRule" "Z"]
def wsX4_finish_r2 : List Cond := [Cond.fieldLink RX3 30 "BackwardSearch$State" "endRule" "Z", Cond.fieldLink RX3 37 "BackwardSearch$State" "place" "I", Cond.fieldLink RX3 41 "BackwardSearch$State" "looks" "I", Cond.fieldLink RX3 44 "BackwardSearch$State" "compared" "I", Cond.methodLink RX3 33 yX2_copy, Cond.instanceMethod yX2_copy, Cond.selects RX2 yX2_copy yX2_copy, Cond.initialized RX2, Cond.code yX2_copy cX2_copy 3 none, Cond.fieldLink RX2 21 "BackwardSearch$Row" "length" "I", Cond.fieldLink RX2 15 "BackwardSearch$Row" "numbers" "[I", Cond.methodLink RX2 29 yX2_clear, Cond.instanceMethod yX2_clear, Cond.selects RX2 yX2_clear yX2_clear, Cond.code yX2_clear cX2_clear 1 none, Cond.methodLink RX2 32 yX2_add, Cond.instanceMethod yX2_add, Cond.selects RX2 yX2_add yX2_add, Cond.code yX2_add cX2_add 2 none, Cond.methodLink RX4 92 yX0_study, Cond.instanceMethod yX0_study, Cond.selects RX0 yX0_study yX0_study, Cond.initialized RX0, Cond.code yX0_study cX0_study 3 none]
def wsX4_finish_r3 : List Cond := [Cond.methodLink RX0 24 Lib.Math.min.name, Cond.fieldLink RX0 30 "BackwardSearch$Ends" "length" "I", Cond.fieldLink RX0 15 "BackwardSearch$Ends" "skipOf" "[I", Cond.methodLink RX0 18 yX2_size, Cond.instanceMethod yX2_size, Cond.selects RX2 yX2_size yX2_size, Cond.code yX2_size cX2_size 1 (some .int), Cond.methodLink RX0 34 yX0_findBorders, Cond.instanceMethod yX0_findBorders, Cond.selects RX0 yX0_findBorders yX0_findBorders, Cond.code yX0_findBorders cX0_findBorders 4 none, Cond.fieldLink RX0 9 "BackwardSearch$Ends" "borderOf" "[I", Cond.methodLink RX0 41 yX0_borderThatGrows, Cond.instanceMethod yX0_borderThatGrows, Cond.selects RX0 yX0_borderThatGrows yX0_borderThatGrows, Cond.code yX0_borderThatGrows cX0_borderThatGrows 6 (some .int), Cond.methodLink RX0 45 yX2_at, Cond.instanceMethod yX2_at, Cond.selects RX2 yX2_at yX2_at, Cond.code yX2_at cX2_at 2 (some .int), Cond.methodLink RX2 25 yX2_has, Cond.instanceMethod yX2_has, Cond.selects RX2 yX2_has yX2_has, Cond.code yX2_has cX2_has 2 (some .boolean)]
def wsX4_finish_r4 : List Cond := [Cond.methodLink RX0 38 yX0_skipToBordersOfTheWord, Cond.instanceMethod yX0_skipToBordersOfTheWord, Cond.selects RX0 yX0_skipToBordersOfTheWord yX0_skipToBordersOfTheWord, Cond.code yX0_skipToBordersOfTheWord cX0_skipToBordersOfTheWord 3 none, Cond.methodLink RX4 99 yX3_lookToTheEnd, Cond.instanceMethod yX3_lookToTheEnd, Cond.selects RX3 yX3_lookToTheEnd yX3_lookToTheEnd, Cond.code yX3_lookToTheEnd cX3_lookToTheEnd 3 (some .int), Cond.methodLink RX3 67 yX3_hasEnded, Cond.instanceMethod yX3_hasEnded, Cond.selects RX3 yX3_hasEnded yX3_hasEnded, Cond.code yX3_hasEnded cX3_hasEnded 1 (some .boolean), Cond.methodLink RX3 60 yX2_isEmpty, Cond.instanceMethod yX2_isEmpty, Cond.selects RX2 yX2_isEmpty yX2_isEmpty, Cond.code yX2_isEmpty cX2_isEmpty 1 (some .boolean), Cond.methodLink RX3 64 yX3_beginnings, Cond.instanceMethod yX3_beginnings, Cond.selects RX3 yX3_beginnings yX3_beginnings, Cond.code yX3_beginnings cX3_beginnings 1 (some .int), Cond.methodLink RX3 54 Lib.Math.max.name, Cond.static Lib.Math.max.name, Cond.code Lib.Math.max.name Lib.Math.max.code 2 (some .int), Cond.methodLink RX3 50 yX2_size]
def wsX4_finish_r5 : List Cond := [Cond.methodLink RX3 70 yX3_lookOnce, Cond.instanceMethod yX3_lookOnce, Cond.selects RX3 yX3_lookOnce yX3_lookOnce, Cond.code yX3_lookOnce cX3_lookOnce 4 (some .int), Cond.methodLink RX3 74 yX3_lastDifferenceAt, Cond.instanceMethod yX3_lastDifferenceAt, Cond.selects RX3 yX3_lastDifferenceAt yX3_lastDifferenceAt, Cond.code yX3_lastDifferenceAt cX3_lastDifferenceAt 3 (some .int), Cond.methodLink RX3 85 yX2_at, Cond.methodLink RX3 78 yX3_skipBehind, Cond.instanceMethod yX3_skipBehind, Cond.selects RX3 yX3_skipBehind yX3_skipBehind, Cond.code yX3_skipBehind cX3_skipBehind 4 (some .int), Cond.methodLink RX3 88 yX0_wordPeriod, Cond.instanceMethod yX0_wordPeriod, Cond.selects RX0 yX0_wordPeriod yX0_wordPeriod, Cond.code yX0_wordPeriod cX0_wordPeriod 1 (some .int), Cond.methodLink RX3 93 yX3_skipByLetter, Cond.instanceMethod yX3_skipByLetter, Cond.selects RX3 yX3_skipByLetter yX3_skipByLetter, Cond.code yX3_skipByLetter cX3_skipByLetter 3 (some .int), Cond.methodLink RX3 99 yX2_lastPlaceWith, Cond.instanceMethod yX2_lastPlaceWith, Cond.selects RX2 yX2_lastPlaceWith yX2_lastPlaceWith]
def wsX4_finish_r6 : List Cond := [Cond.code yX2_lastPlaceWith cX2_lastPlaceWith 3 (some .int), Cond.methodLink RX3 96 yX0_skipAt, Cond.instanceMethod yX0_skipAt, Cond.selects RX0 yX0_skipAt yX0_skipAt, Cond.code yX0_skipAt cX0_skipAt 2 (some .int), Cond.methodLink RX3 82 yX2_add]
def wsX4_finish : List Cond := .code yX4_finish cX4_finish 1 (some .int) :: ((wsX4_finish_r1 ++ (wsX4_finish_r2 ++ (wsX4_finish_r3 ++ (wsX4_finish_r4 ++ (wsX4_finish_r5 ++ wsX4_finish_r6))))) ++ wsX40 ++ wsX30 ++ wsX10 ++ wsX20 ++ wsX00)
def wsX4_rewind_r1 : List Cond := [Cond.fieldLink RX4 29 "BackwardSearch" "history" "LBackwardSearch$History;", Cond.fieldLink RX4 10 "BackwardSearch" "state" "LBackwardSearch$State;", Cond.methodLink RX4 53 yX1_keep, Cond.instanceMethod yX1_keep, Cond.selects RX1 yX1_keep yX1_keep, Cond.initialized RX1, Cond.code yX1_keep cX1_keep 2 none, Cond.fieldLink RX1 11 "BackwardSearch$History" "kept" "[LBackwardSearch$State;", Cond.fieldLink RX1 22 "BackwardSearch$History" "next" "I", Cond.fieldLink RX1 18 "BackwardSearch$History" "count" "I", Cond.methodLink RX1 29 Lib.Math.min.name, Cond.static Lib.Math.min.name, Cond.initialized "java/lang/Math", Cond.code Lib.Math.min.name Lib.Math.min.code 2 (some .int), Cond.methodLink RX1 25 yX3_copy, Cond.instanceMethod yX3_copy, Cond.selects RX3 yX3_copy yX3_copy, Cond.initialized RX3, Cond.code yX3_copy cX3_copy 2 none, Cond.fieldLink RX3 14 "BackwardSearch$State" "line" "LBackwardSearch$Row;", Cond.fieldLink RX3 20 "BackwardSearch$State" "word" "LBackwardSearch$Row;", Cond.fieldLink RX3 23 "BackwardSearch$State" "found" "LBackwardSearch$Row;", Cond.fieldLink RX3 26 "BackwardSearch$State" "letterRule" "Z", Cond.fieldLink RX3 30 "BackwardSearch$State" "endRule" "Z"]
def wsX4_rewind_r2 : List Cond := [Cond.fieldLink RX3 37 "BackwardSearch$State" "place" "I", Cond.fieldLink RX3 41 "BackwardSearch$State" "looks" "I", Cond.fieldLink RX3 44 "BackwardSearch$State" "compared" "I", Cond.methodLink RX3 33 yX2_copy, Cond.instanceMethod yX2_copy, Cond.selects RX2 yX2_copy yX2_copy, Cond.initialized RX2, Cond.code yX2_copy cX2_copy 3 none, Cond.fieldLink RX2 21 "BackwardSearch$Row" "length" "I", Cond.fieldLink RX2 15 "BackwardSearch$Row" "numbers" "[I", Cond.methodLink RX2 29 yX2_clear, Cond.instanceMethod yX2_clear, Cond.selects RX2 yX2_clear yX2_clear, Cond.code yX2_clear cX2_clear 1 none, Cond.methodLink RX2 32 yX2_add, Cond.instanceMethod yX2_add, Cond.selects RX2 yX2_add yX2_add, Cond.code yX2_add cX2_add 2 none, Cond.methodLink RX4 64 yX3_beginAnew, Cond.instanceMethod yX3_beginAnew, Cond.selects RX3 yX3_beginAnew yX3_beginAnew, Cond.code yX3_beginAnew cX3_beginAnew 1 none, Cond.methodLink RX3 47 yX2_clear]
def wsX4_rewind : List Cond := .code yX4_rewind cX4_rewind 2 (some .int) :: ((wsX4_rewind_r1 ++ wsX4_rewind_r2) ++ wsX40 ++ wsX30 ++ wsX10 ++ wsX20)
def wsX4_refuseUnlessIn : List Cond := .code yX4_refuseUnlessIn cX4_refuseUnlessIn 2 none :: ([.classLink RX4 165 "java/lang/IndexOutOfBoundsException", .initialized "java/lang/IndexOutOfBoundsException", .methodLink RX4 210 yX2_has, .instanceMethod yX2_has, .selects RX2 yX2_has yX2_has, .initialized RX2, .code yX2_has cX2_has 2 (some .boolean), .fieldLink RX2 21 "BackwardSearch$Row" "length" "I"] ++ wsX20 ++ (vx_atS RX4 169 "java/lang/IndexOutOfBoundsException" ["java/lang/RuntimeException", "java/lang/Exception"]).filter goodWord)
def wsX4_refuseUnlessLetter : List Cond := .code yX4_refuseUnlessLetter cX4_refuseUnlessLetter 1 none :: ([.classLink RX4 179 "java/lang/IllegalArgumentException", .initialized "java/lang/IllegalArgumentException"] ++ (vx_atS RX4 183 "java/lang/IllegalArgumentException" ["java/lang/RuntimeException", "java/lang/Exception"]).filter goodWord)
def wsX4_setLetter_r1 : List Cond := [Cond.fieldLink RX4 10 "BackwardSearch" "state" "LBackwardSearch$State;", Cond.fieldLink RX4 29 "BackwardSearch" "history" "LBackwardSearch$History;", Cond.methodLink RX4 106 yX4_refuseUnlessIn, Cond.static yX4_refuseUnlessIn, Cond.initialized RX4, Cond.code yX4_refuseUnlessIn cX4_refuseUnlessIn 2 none, Cond.classLink RX4 165 "java/lang/IndexOutOfBoundsException", Cond.initialized "java/lang/IndexOutOfBoundsException", Cond.methodLink RX4 210 yX2_has, Cond.instanceMethod yX2_has, Cond.selects RX2 yX2_has yX2_has, Cond.initialized RX2, Cond.code yX2_has cX2_has 2 (some .boolean), Cond.fieldLink RX2 21 "BackwardSearch$Row" "length" "I", Cond.methodLink RX4 110 yX4_refuseUnlessLetter, Cond.static yX4_refuseUnlessLetter, Cond.code yX4_refuseUnlessLetter cX4_refuseUnlessLetter 1 none, Cond.classLink RX4 179 "java/lang/IllegalArgumentException", Cond.initialized "java/lang/IllegalArgumentException", Cond.methodLink RX4 53 yX1_keep, Cond.instanceMethod yX1_keep, Cond.selects RX1 yX1_keep yX1_keep, Cond.initialized RX1, Cond.code yX1_keep cX1_keep 2 none]
def wsX4_setLetter_r2 : List Cond := [Cond.fieldLink RX1 11 "BackwardSearch$History" "kept" "[LBackwardSearch$State;", Cond.fieldLink RX1 22 "BackwardSearch$History" "next" "I", Cond.fieldLink RX1 18 "BackwardSearch$History" "count" "I", Cond.methodLink RX1 29 Lib.Math.min.name, Cond.static Lib.Math.min.name, Cond.initialized "java/lang/Math", Cond.code Lib.Math.min.name Lib.Math.min.code 2 (some .int), Cond.methodLink RX1 25 yX3_copy, Cond.instanceMethod yX3_copy, Cond.selects RX3 yX3_copy yX3_copy, Cond.initialized RX3, Cond.code yX3_copy cX3_copy 2 none, Cond.fieldLink RX3 14 "BackwardSearch$State" "line" "LBackwardSearch$Row;", Cond.fieldLink RX3 20 "BackwardSearch$State" "word" "LBackwardSearch$Row;", Cond.fieldLink RX3 23 "BackwardSearch$State" "found" "LBackwardSearch$Row;", Cond.fieldLink RX3 26 "BackwardSearch$State" "letterRule" "Z", Cond.fieldLink RX3 30 "BackwardSearch$State" "endRule" "Z", Cond.fieldLink RX3 37 "BackwardSearch$State" "place" "I", Cond.fieldLink RX3 41 "BackwardSearch$State" "looks" "I", Cond.fieldLink RX3 44 "BackwardSearch$State" "compared" "I", Cond.methodLink RX3 33 yX2_copy, Cond.instanceMethod yX2_copy, Cond.selects RX2 yX2_copy yX2_copy, Cond.code yX2_copy cX2_copy 3 none]
def wsX4_setLetter_r3 : List Cond := [Cond.fieldLink RX2 15 "BackwardSearch$Row" "numbers" "[I", Cond.methodLink RX2 29 yX2_clear, Cond.instanceMethod yX2_clear, Cond.selects RX2 yX2_clear yX2_clear, Cond.code yX2_clear cX2_clear 1 none, Cond.methodLink RX2 32 yX2_add, Cond.instanceMethod yX2_add, Cond.selects RX2 yX2_add yX2_add, Cond.code yX2_add cX2_add 2 none, Cond.methodLink RX4 113 yX2_at, Cond.instanceMethod yX2_at, Cond.selects RX2 yX2_at yX2_at, Cond.code yX2_at cX2_at 2 (some .int), Cond.methodLink RX2 25 yX2_has, Cond.methodLink RX4 117 yX2_put, Cond.instanceMethod yX2_put, Cond.selects RX2 yX2_put yX2_put, Cond.code yX2_put cX2_put 3 none, Cond.methodLink RX4 64 yX3_beginAnew, Cond.instanceMethod yX3_beginAnew, Cond.selects RX3 yX3_beginAnew yX3_beginAnew, Cond.code yX3_beginAnew cX3_beginAnew 1 none, Cond.methodLink RX3 47 yX2_clear]
def wsX4_setLetter : List Cond := .code yX4_setLetter cX4_setLetter 4 (some .int) :: ((wsX4_setLetter_r1 ++ (wsX4_setLetter_r2 ++ wsX4_setLetter_r3)) ++ wsX40 ++ wsX30 ++ wsX20 ++ wsX10 ++ (vx_atS RX4 169 "java/lang/IndexOutOfBoundsException" ["java/lang/RuntimeException", "java/lang/Exception"]).filter goodWord ++ (vx_atS RX4 183 "java/lang/IllegalArgumentException" ["java/lang/RuntimeException", "java/lang/Exception"]).filter goodWord)
def wsX4_lineLength : List Cond := .code yX4_lineLength cX4_lineLength 1 (some .int) :: ([.fieldLink RX4 10 "BackwardSearch" "state" "LBackwardSearch$State;", .methodLink RX4 67 yX2_size, .instanceMethod yX2_size, .selects RX2 yX2_size yX2_size, .initialized RX2, .code yX2_size cX2_size 1 (some .int), .fieldLink RX2 21 "BackwardSearch$Row" "length" "I"] ++ wsX40 ++ wsX30 ++ wsX20)
def wsX4_wordLength : List Cond := .code yX4_wordLength cX4_wordLength 1 (some .int) :: ([.fieldLink RX4 10 "BackwardSearch" "state" "LBackwardSearch$State;", .methodLink RX4 67 yX2_size, .instanceMethod yX2_size, .selects RX2 yX2_size yX2_size, .initialized RX2, .code yX2_size cX2_size 1 (some .int), .fieldLink RX2 21 "BackwardSearch$Row" "length" "I"] ++ wsX40 ++ wsX30 ++ wsX20)
def wsX4_lineLetter : List Cond := .code yX4_lineLetter cX4_lineLetter 2 (some .int) :: ([.fieldLink RX4 10 "BackwardSearch" "state" "LBackwardSearch$State;", .methodLink RX4 106 yX4_refuseUnlessIn, .static yX4_refuseUnlessIn, .initialized RX4, .code yX4_refuseUnlessIn cX4_refuseUnlessIn 2 none, .classLink RX4 165 "java/lang/IndexOutOfBoundsException", .initialized "java/lang/IndexOutOfBoundsException", .methodLink RX4 210 yX2_has, .instanceMethod yX2_has, .selects RX2 yX2_has yX2_has, .initialized RX2, .code yX2_has cX2_has 2 (some .boolean), .fieldLink RX2 21 "BackwardSearch$Row" "length" "I", .methodLink RX4 113 yX2_at, .instanceMethod yX2_at, .selects RX2 yX2_at yX2_at, .code yX2_at cX2_at 2 (some .int), .fieldLink RX2 15 "BackwardSearch$Row" "numbers" "[I", .methodLink RX2 25 yX2_has] ++ wsX40 ++ wsX30 ++ wsX20 ++ (vx_atS RX4 169 "java/lang/IndexOutOfBoundsException" ["java/lang/RuntimeException", "java/lang/Exception"]).filter goodWord)
def wsX4_wordLetter : List Cond := .code yX4_wordLetter cX4_wordLetter 2 (some .int) :: ([.fieldLink RX4 10 "BackwardSearch" "state" "LBackwardSearch$State;", .methodLink RX4 106 yX4_refuseUnlessIn, .static yX4_refuseUnlessIn, .initialized RX4, .code yX4_refuseUnlessIn cX4_refuseUnlessIn 2 none, .classLink RX4 165 "java/lang/IndexOutOfBoundsException", .initialized "java/lang/IndexOutOfBoundsException", .methodLink RX4 210 yX2_has, .instanceMethod yX2_has, .selects RX2 yX2_has yX2_has, .initialized RX2, .code yX2_has cX2_has 2 (some .boolean), .fieldLink RX2 21 "BackwardSearch$Row" "length" "I", .methodLink RX4 113 yX2_at, .instanceMethod yX2_at, .selects RX2 yX2_at yX2_at, .code yX2_at cX2_at 2 (some .int), .fieldLink RX2 15 "BackwardSearch$Row" "numbers" "[I", .methodLink RX2 25 yX2_has] ++ wsX40 ++ wsX30 ++ wsX20 ++ (vx_atS RX4 169 "java/lang/IndexOutOfBoundsException" ["java/lang/RuntimeException", "java/lang/Exception"]).filter goodWord)
def wsX4_place : List Cond := .code yX4_place cX4_place 1 (some .int) :: ([.fieldLink RX4 10 "BackwardSearch" "state" "LBackwardSearch$State;"] ++ wsX40 ++ wsX30)
def wsX4_isOver_r1 : List Cond := [Cond.fieldLink RX4 10 "BackwardSearch" "state" "LBackwardSearch$State;", Cond.methodLink RX4 81 yX3_hasEnded, Cond.instanceMethod yX3_hasEnded, Cond.selects RX3 yX3_hasEnded yX3_hasEnded, Cond.initialized RX3, Cond.code yX3_hasEnded cX3_hasEnded 1 (some .boolean), Cond.fieldLink RX3 20 "BackwardSearch$State" "word" "LBackwardSearch$Row;", Cond.fieldLink RX3 37 "BackwardSearch$State" "place" "I", Cond.methodLink RX3 60 yX2_isEmpty, Cond.instanceMethod yX2_isEmpty, Cond.selects RX2 yX2_isEmpty yX2_isEmpty, Cond.initialized RX2, Cond.code yX2_isEmpty cX2_isEmpty 1 (some .boolean), Cond.fieldLink RX2 21 "BackwardSearch$Row" "length" "I", Cond.methodLink RX3 64 yX3_beginnings, Cond.instanceMethod yX3_beginnings, Cond.selects RX3 yX3_beginnings yX3_beginnings, Cond.code yX3_beginnings cX3_beginnings 1 (some .int), Cond.fieldLink RX3 14 "BackwardSearch$State" "line" "LBackwardSearch$Row;", Cond.methodLink RX3 54 Lib.Math.max.name, Cond.static Lib.Math.max.name, Cond.initialized "java/lang/Math", Cond.code Lib.Math.max.name Lib.Math.max.code 2 (some .int), Cond.methodLink RX3 50 yX2_size]
def wsX4_isOver_r2 : List Cond := [Cond.instanceMethod yX2_size, Cond.selects RX2 yX2_size yX2_size, Cond.code yX2_size cX2_size 1 (some .int)]
def wsX4_isOver : List Cond := .code yX4_isOver cX4_isOver 1 (some .boolean) :: ((wsX4_isOver_r1 ++ wsX4_isOver_r2) ++ wsX40 ++ wsX30 ++ wsX20)
def wsX4_lookCount : List Cond := .code yX4_lookCount cX4_lookCount 1 (some .int) :: ([.fieldLink RX4 10 "BackwardSearch" "state" "LBackwardSearch$State;"] ++ wsX40 ++ wsX30)
def wsX4_comparedCount : List Cond := .code yX4_comparedCount cX4_comparedCount 1 (some .int) :: ([.fieldLink RX4 10 "BackwardSearch" "state" "LBackwardSearch$State;"] ++ wsX40 ++ wsX30)
def wsX4_foundCount : List Cond := .code yX4_foundCount cX4_foundCount 1 (some .int) :: ([.fieldLink RX4 10 "BackwardSearch" "state" "LBackwardSearch$State;", .methodLink RX4 67 yX2_size, .instanceMethod yX2_size, .selects RX2 yX2_size yX2_size, .initialized RX2, .code yX2_size cX2_size 1 (some .int), .fieldLink RX2 21 "BackwardSearch$Row" "length" "I"] ++ wsX40 ++ wsX30 ++ wsX20)
def wsX4_foundPlace : List Cond := .code yX4_foundPlace cX4_foundPlace 2 (some .int) :: ([.fieldLink RX4 10 "BackwardSearch" "state" "LBackwardSearch$State;", .methodLink RX4 106 yX4_refuseUnlessIn, .static yX4_refuseUnlessIn, .initialized RX4, .code yX4_refuseUnlessIn cX4_refuseUnlessIn 2 none, .classLink RX4 165 "java/lang/IndexOutOfBoundsException", .initialized "java/lang/IndexOutOfBoundsException", .methodLink RX4 210 yX2_has, .instanceMethod yX2_has, .selects RX2 yX2_has yX2_has, .initialized RX2, .code yX2_has cX2_has 2 (some .boolean), .fieldLink RX2 21 "BackwardSearch$Row" "length" "I", .methodLink RX4 113 yX2_at, .instanceMethod yX2_at, .selects RX2 yX2_at yX2_at, .code yX2_at cX2_at 2 (some .int), .fieldLink RX2 15 "BackwardSearch$Row" "numbers" "[I", .methodLink RX2 25 yX2_has] ++ wsX40 ++ wsX30 ++ wsX20 ++ (vx_atS RX4 169 "java/lang/IndexOutOfBoundsException" ["java/lang/RuntimeException", "java/lang/Exception"]).filter goodWord)
def wsX4_skippedPlaces : List Cond := .code yX4_skippedPlaces cX4_skippedPlaces 1 (some .int) :: ([.fieldLink RX4 10 "BackwardSearch" "state" "LBackwardSearch$State;", .methodLink RX4 133 Lib.Math.min.name, .static Lib.Math.min.name, .initialized "java/lang/Math", .code Lib.Math.min.name Lib.Math.min.code 2 (some .int), .methodLink RX4 130 yX3_beginnings, .instanceMethod yX3_beginnings, .selects RX3 yX3_beginnings yX3_beginnings, .initialized RX3, .code yX3_beginnings cX3_beginnings 1 (some .int), .fieldLink RX3 14 "BackwardSearch$State" "line" "LBackwardSearch$Row;", .fieldLink RX3 20 "BackwardSearch$State" "word" "LBackwardSearch$Row;", .methodLink RX3 54 Lib.Math.max.name, .static Lib.Math.max.name, .code Lib.Math.max.name Lib.Math.max.code 2 (some .int), .methodLink RX3 50 yX2_size, .instanceMethod yX2_size, .selects RX2 yX2_size yX2_size, .initialized RX2, .code yX2_size cX2_size 1 (some .int), .fieldLink RX2 21 "BackwardSearch$Row" "length" "I"] ++ wsX40 ++ wsX30 ++ wsX20)
def wsX4_lastPlaceOf : List Cond := .code yX4_lastPlaceOf cX4_lastPlaceOf 2 (some .int) :: ([.fieldLink RX4 10 "BackwardSearch" "state" "LBackwardSearch$State;", .methodLink RX4 110 yX4_refuseUnlessLetter, .static yX4_refuseUnlessLetter, .initialized RX4, .code yX4_refuseUnlessLetter cX4_refuseUnlessLetter 1 none, .classLink RX4 179 "java/lang/IllegalArgumentException", .initialized "java/lang/IllegalArgumentException", .methodLink RX4 139 yX2_lastPlaceWith, .instanceMethod yX2_lastPlaceWith, .selects RX2 yX2_lastPlaceWith yX2_lastPlaceWith, .initialized RX2, .code yX2_lastPlaceWith cX2_lastPlaceWith 3 (some .int), .fieldLink RX2 21 "BackwardSearch$Row" "length" "I", .fieldLink RX2 15 "BackwardSearch$Row" "numbers" "[I"] ++ wsX40 ++ wsX30 ++ wsX20 ++ (vx_atS RX4 183 "java/lang/IllegalArgumentException" ["java/lang/RuntimeException", "java/lang/Exception"]).filter goodWord)
def wsX4_letterSkip_r1 : List Cond := [Cond.fieldLink RX4 10 "BackwardSearch" "state" "LBackwardSearch$State;", Cond.methodLink RX4 106 yX4_refuseUnlessIn, Cond.static yX4_refuseUnlessIn, Cond.initialized RX4, Cond.code yX4_refuseUnlessIn cX4_refuseUnlessIn 2 none, Cond.classLink RX4 165 "java/lang/IndexOutOfBoundsException", Cond.initialized "java/lang/IndexOutOfBoundsException", Cond.methodLink RX4 210 yX2_has, Cond.instanceMethod yX2_has, Cond.selects RX2 yX2_has yX2_has, Cond.initialized RX2, Cond.code yX2_has cX2_has 2 (some .boolean), Cond.fieldLink RX2 21 "BackwardSearch$Row" "length" "I", Cond.methodLink RX4 110 yX4_refuseUnlessLetter, Cond.static yX4_refuseUnlessLetter, Cond.code yX4_refuseUnlessLetter cX4_refuseUnlessLetter 1 none, Cond.classLink RX4 179 "java/lang/IllegalArgumentException", Cond.initialized "java/lang/IllegalArgumentException", Cond.methodLink RX4 142 yX3_skipByLetter, Cond.instanceMethod yX3_skipByLetter, Cond.selects RX3 yX3_skipByLetter yX3_skipByLetter, Cond.initialized RX3, Cond.code yX3_skipByLetter cX3_skipByLetter 3 (some .int), Cond.fieldLink RX3 20 "BackwardSearch$State" "word" "LBackwardSearch$Row;"]
def wsX4_letterSkip_r2 : List Cond := [Cond.methodLink RX3 99 yX2_lastPlaceWith, Cond.instanceMethod yX2_lastPlaceWith, Cond.selects RX2 yX2_lastPlaceWith yX2_lastPlaceWith, Cond.code yX2_lastPlaceWith cX2_lastPlaceWith 3 (some .int), Cond.fieldLink RX2 15 "BackwardSearch$Row" "numbers" "[I"]
def wsX4_letterSkip : List Cond := .code yX4_letterSkip cX4_letterSkip 3 (some .int) :: ((wsX4_letterSkip_r1 ++ wsX4_letterSkip_r2) ++ wsX40 ++ wsX30 ++ wsX20 ++ (vx_atS RX4 169 "java/lang/IndexOutOfBoundsException" ["java/lang/RuntimeException", "java/lang/Exception"]).filter goodWord ++ (vx_atS RX4 183 "java/lang/IllegalArgumentException" ["java/lang/RuntimeException", "java/lang/Exception"]).filter goodWord)
def wsX4_endSkip_r1 : List Cond := [Cond.fieldLink RX4 10 "BackwardSearch" "state" "LBackwardSearch$State;", Cond.fieldLink RX4 22 "BackwardSearch" "ends" "LBackwardSearch$Ends;", Cond.methodLink RX4 106 yX4_refuseUnlessIn, Cond.static yX4_refuseUnlessIn, Cond.initialized RX4, Cond.code yX4_refuseUnlessIn cX4_refuseUnlessIn 2 none, Cond.classLink RX4 165 "java/lang/IndexOutOfBoundsException", Cond.initialized "java/lang/IndexOutOfBoundsException", Cond.methodLink RX4 210 yX2_has, Cond.instanceMethod yX2_has, Cond.selects RX2 yX2_has yX2_has, Cond.initialized RX2, Cond.code yX2_has cX2_has 2 (some .boolean), Cond.fieldLink RX2 21 "BackwardSearch$Row" "length" "I", Cond.methodLink RX4 92 yX0_study, Cond.instanceMethod yX0_study, Cond.selects RX0 yX0_study yX0_study, Cond.initialized RX0, Cond.code yX0_study cX0_study 3 none, Cond.methodLink RX0 24 Lib.Math.min.name, Cond.static Lib.Math.min.name, Cond.initialized "java/lang/Math", Cond.code Lib.Math.min.name Lib.Math.min.code 2 (some .int), Cond.fieldLink RX0 30 "BackwardSearch$Ends" "length" "I"]
def wsX4_endSkip_r2 : List Cond := [Cond.fieldLink RX0 15 "BackwardSearch$Ends" "skipOf" "[I", Cond.methodLink RX0 18 yX2_size, Cond.instanceMethod yX2_size, Cond.selects RX2 yX2_size yX2_size, Cond.code yX2_size cX2_size 1 (some .int), Cond.methodLink RX0 34 yX0_findBorders, Cond.instanceMethod yX0_findBorders, Cond.selects RX0 yX0_findBorders yX0_findBorders, Cond.code yX0_findBorders cX0_findBorders 4 none, Cond.fieldLink RX0 9 "BackwardSearch$Ends" "borderOf" "[I", Cond.methodLink RX0 41 yX0_borderThatGrows, Cond.instanceMethod yX0_borderThatGrows, Cond.selects RX0 yX0_borderThatGrows yX0_borderThatGrows, Cond.code yX0_borderThatGrows cX0_borderThatGrows 6 (some .int), Cond.methodLink RX0 45 yX2_at, Cond.instanceMethod yX2_at, Cond.selects RX2 yX2_at yX2_at, Cond.code yX2_at cX2_at 2 (some .int), Cond.fieldLink RX2 15 "BackwardSearch$Row" "numbers" "[I", Cond.methodLink RX2 25 yX2_has, Cond.methodLink RX0 38 yX0_skipToBordersOfTheWord, Cond.instanceMethod yX0_skipToBordersOfTheWord, Cond.selects RX0 yX0_skipToBordersOfTheWord yX0_skipToBordersOfTheWord, Cond.code yX0_skipToBordersOfTheWord cX0_skipToBordersOfTheWord 3 none]
def wsX4_endSkip_r3 : List Cond := [Cond.methodLink RX4 145 yX0_skipAt, Cond.instanceMethod yX0_skipAt, Cond.selects RX0 yX0_skipAt yX0_skipAt, Cond.code yX0_skipAt cX0_skipAt 2 (some .int)]
def wsX4_endSkip : List Cond := .code yX4_endSkip cX4_endSkip 2 (some .int) :: ((wsX4_endSkip_r1 ++ (wsX4_endSkip_r2 ++ wsX4_endSkip_r3)) ++ wsX40 ++ wsX30 ++ wsX20 ++ wsX00 ++ (vx_atS RX4 169 "java/lang/IndexOutOfBoundsException" ["java/lang/RuntimeException", "java/lang/Exception"]).filter goodWord)
def wsX4_endFits : List Cond := .code yX4_endFits cX4_endFits 4 (some .boolean) :: ([.methodLink RX4 232 Lib.Math.max.name, .static Lib.Math.max.name, .initialized "java/lang/Math", .code Lib.Math.max.name Lib.Math.max.code 2 (some .int), .methodLink RX4 113 yX2_at, .instanceMethod yX2_at, .selects RX2 yX2_at yX2_at, .initialized RX2, .code yX2_at cX2_at 2 (some .int), .fieldLink RX2 15 "BackwardSearch$Row" "numbers" "[I", .methodLink RX2 25 yX2_has, .instanceMethod yX2_has, .selects RX2 yX2_has yX2_has, .code yX2_has cX2_has 2 (some .boolean), .fieldLink RX2 21 "BackwardSearch$Row" "length" "I", .methodLink RX4 67 yX2_size, .instanceMethod yX2_size, .selects RX2 yX2_size yX2_size, .code yX2_size cX2_size 1 (some .int)] ++ wsX20)
def wsX4_endSkipByTrying_r1 : List Cond := [Cond.fieldLink RX4 10 "BackwardSearch" "state" "LBackwardSearch$State;", Cond.methodLink RX4 106 yX4_refuseUnlessIn, Cond.static yX4_refuseUnlessIn, Cond.initialized RX4, Cond.code yX4_refuseUnlessIn cX4_refuseUnlessIn 2 none, Cond.classLink RX4 165 "java/lang/IndexOutOfBoundsException", Cond.initialized "java/lang/IndexOutOfBoundsException", Cond.methodLink RX4 210 yX2_has, Cond.instanceMethod yX2_has, Cond.selects RX2 yX2_has yX2_has, Cond.initialized RX2, Cond.code yX2_has cX2_has 2 (some .boolean), Cond.fieldLink RX2 21 "BackwardSearch$Row" "length" "I", Cond.methodLink RX4 67 yX2_size, Cond.instanceMethod yX2_size, Cond.selects RX2 yX2_size yX2_size, Cond.code yX2_size cX2_size 1 (some .int), Cond.methodLink RX4 148 yX4_endFits, Cond.static yX4_endFits, Cond.code yX4_endFits cX4_endFits 4 (some .boolean), Cond.methodLink RX4 232 Lib.Math.max.name, Cond.static Lib.Math.max.name, Cond.initialized "java/lang/Math", Cond.code Lib.Math.max.name Lib.Math.max.code 2 (some .int)]
def wsX4_endSkipByTrying_r2 : List Cond := [Cond.methodLink RX4 113 yX2_at, Cond.instanceMethod yX2_at, Cond.selects RX2 yX2_at yX2_at, Cond.code yX2_at cX2_at 2 (some .int), Cond.fieldLink RX2 15 "BackwardSearch$Row" "numbers" "[I", Cond.methodLink RX2 25 yX2_has]
def wsX4_endSkipByTrying : List Cond := .code yX4_endSkipByTrying cX4_endSkipByTrying 4 (some .int) :: ((wsX4_endSkipByTrying_r1 ++ wsX4_endSkipByTrying_r2) ++ wsX40 ++ wsX30 ++ wsX20 ++ (vx_atS RX4 169 "java/lang/IndexOutOfBoundsException" ["java/lang/RuntimeException", "java/lang/Exception"]).filter goodWord)
def wsX4_border_r1 : List Cond := [Cond.fieldLink RX4 22 "BackwardSearch" "ends" "LBackwardSearch$Ends;", Cond.fieldLink RX4 10 "BackwardSearch" "state" "LBackwardSearch$State;", Cond.methodLink RX4 92 yX0_study, Cond.instanceMethod yX0_study, Cond.selects RX0 yX0_study yX0_study, Cond.initialized RX0, Cond.code yX0_study cX0_study 3 none, Cond.methodLink RX0 24 Lib.Math.min.name, Cond.static Lib.Math.min.name, Cond.initialized "java/lang/Math", Cond.code Lib.Math.min.name Lib.Math.min.code 2 (some .int), Cond.fieldLink RX0 30 "BackwardSearch$Ends" "length" "I", Cond.fieldLink RX0 15 "BackwardSearch$Ends" "skipOf" "[I", Cond.methodLink RX0 18 yX2_size, Cond.instanceMethod yX2_size, Cond.selects RX2 yX2_size yX2_size, Cond.initialized RX2, Cond.code yX2_size cX2_size 1 (some .int), Cond.fieldLink RX2 21 "BackwardSearch$Row" "length" "I", Cond.methodLink RX0 34 yX0_findBorders, Cond.instanceMethod yX0_findBorders, Cond.selects RX0 yX0_findBorders yX0_findBorders, Cond.code yX0_findBorders cX0_findBorders 4 none, Cond.fieldLink RX0 9 "BackwardSearch$Ends" "borderOf" "[I"]
def wsX4_border_r2 : List Cond := [Cond.methodLink RX0 41 yX0_borderThatGrows, Cond.instanceMethod yX0_borderThatGrows, Cond.selects RX0 yX0_borderThatGrows yX0_borderThatGrows, Cond.code yX0_borderThatGrows cX0_borderThatGrows 6 (some .int), Cond.methodLink RX0 45 yX2_at, Cond.instanceMethod yX2_at, Cond.selects RX2 yX2_at yX2_at, Cond.code yX2_at cX2_at 2 (some .int), Cond.fieldLink RX2 15 "BackwardSearch$Row" "numbers" "[I", Cond.methodLink RX2 25 yX2_has, Cond.instanceMethod yX2_has, Cond.selects RX2 yX2_has yX2_has, Cond.code yX2_has cX2_has 2 (some .boolean), Cond.methodLink RX0 38 yX0_skipToBordersOfTheWord, Cond.instanceMethod yX0_skipToBordersOfTheWord, Cond.selects RX0 yX0_skipToBordersOfTheWord yX0_skipToBordersOfTheWord, Cond.code yX0_skipToBordersOfTheWord cX0_skipToBordersOfTheWord 3 none, Cond.methodLink RX4 67 yX2_size, Cond.methodLink RX4 152 yX0_wordPeriod, Cond.instanceMethod yX0_wordPeriod, Cond.selects RX0 yX0_wordPeriod yX0_wordPeriod, Cond.code yX0_wordPeriod cX0_wordPeriod 1 (some .int)]
def wsX4_border : List Cond := .code yX4_border cX4_border 1 (some .int) :: ((wsX4_border_r1 ++ wsX4_border_r2) ++ wsX40 ++ wsX30 ++ wsX00 ++ wsX20)
def wsX4_period_r1 : List Cond := [Cond.fieldLink RX4 22 "BackwardSearch" "ends" "LBackwardSearch$Ends;", Cond.fieldLink RX4 10 "BackwardSearch" "state" "LBackwardSearch$State;", Cond.methodLink RX4 92 yX0_study, Cond.instanceMethod yX0_study, Cond.selects RX0 yX0_study yX0_study, Cond.initialized RX0, Cond.code yX0_study cX0_study 3 none, Cond.methodLink RX0 24 Lib.Math.min.name, Cond.static Lib.Math.min.name, Cond.initialized "java/lang/Math", Cond.code Lib.Math.min.name Lib.Math.min.code 2 (some .int), Cond.fieldLink RX0 30 "BackwardSearch$Ends" "length" "I", Cond.fieldLink RX0 15 "BackwardSearch$Ends" "skipOf" "[I", Cond.methodLink RX0 18 yX2_size, Cond.instanceMethod yX2_size, Cond.selects RX2 yX2_size yX2_size, Cond.initialized RX2, Cond.code yX2_size cX2_size 1 (some .int), Cond.fieldLink RX2 21 "BackwardSearch$Row" "length" "I", Cond.methodLink RX0 34 yX0_findBorders, Cond.instanceMethod yX0_findBorders, Cond.selects RX0 yX0_findBorders yX0_findBorders, Cond.code yX0_findBorders cX0_findBorders 4 none, Cond.fieldLink RX0 9 "BackwardSearch$Ends" "borderOf" "[I"]
def wsX4_period_r2 : List Cond := [Cond.methodLink RX0 41 yX0_borderThatGrows, Cond.instanceMethod yX0_borderThatGrows, Cond.selects RX0 yX0_borderThatGrows yX0_borderThatGrows, Cond.code yX0_borderThatGrows cX0_borderThatGrows 6 (some .int), Cond.methodLink RX0 45 yX2_at, Cond.instanceMethod yX2_at, Cond.selects RX2 yX2_at yX2_at, Cond.code yX2_at cX2_at 2 (some .int), Cond.fieldLink RX2 15 "BackwardSearch$Row" "numbers" "[I", Cond.methodLink RX2 25 yX2_has, Cond.instanceMethod yX2_has, Cond.selects RX2 yX2_has yX2_has, Cond.code yX2_has cX2_has 2 (some .boolean), Cond.methodLink RX0 38 yX0_skipToBordersOfTheWord, Cond.instanceMethod yX0_skipToBordersOfTheWord, Cond.selects RX0 yX0_skipToBordersOfTheWord yX0_skipToBordersOfTheWord, Cond.code yX0_skipToBordersOfTheWord cX0_skipToBordersOfTheWord 3 none, Cond.methodLink RX4 152 yX0_wordPeriod, Cond.instanceMethod yX0_wordPeriod, Cond.selects RX0 yX0_wordPeriod yX0_wordPeriod, Cond.code yX0_wordPeriod cX0_wordPeriod 1 (some .int)]
def wsX4_period : List Cond := .code yX4_period cX4_period 1 (some .int) :: ((wsX4_period_r1 ++ wsX4_period_r2) ++ wsX40 ++ wsX30 ++ wsX00 ++ wsX20)
def wsX4_tryToTheEnd_r1 : List Cond := [Cond.fieldLink RX4 16 "BackwardSearch" "trial" "LBackwardSearch$State;", Cond.fieldLink RX4 10 "BackwardSearch" "state" "LBackwardSearch$State;", Cond.fieldLink RX4 22 "BackwardSearch" "ends" "LBackwardSearch$Ends;", Cond.methodLink RX4 205 yX3_copy, Cond.instanceMethod yX3_copy, Cond.selects RX3 yX3_copy yX3_copy, Cond.initialized RX3, Cond.code yX3_copy cX3_copy 2 none, Cond.fieldLink RX3 14 "BackwardSearch$State" "line" "LBackwardSearch$Row;", Cond.fieldLink RX3 20 "BackwardSearch$State" "word" "LBackwardSearch$Row;", Cond.fieldLink RX3 23 "BackwardSearch$State" "found" "LBackwardSearch$Row;", Cond.fieldLink RX3 26 "BackwardSearch$State" "letterRule" "Z", Cond.fieldLink RX3 30 "BackwardSearch$State" "endRule" "Z", Cond.fieldLink RX3 37 "BackwardSearch$State" "place" "I", Cond.fieldLink RX3 41 "BackwardSearch$State" "looks" "I", Cond.fieldLink RX3 44 "BackwardSearch$State" "compared" "I", Cond.methodLink RX3 33 yX2_copy, Cond.instanceMethod yX2_copy, Cond.selects RX2 yX2_copy yX2_copy, Cond.initialized RX2, Cond.code yX2_copy cX2_copy 3 none, Cond.fieldLink RX2 21 "BackwardSearch$Row" "length" "I", Cond.fieldLink RX2 15 "BackwardSearch$Row" "numbers" "[I", Cond.methodLink RX2 29 yX2_clear]
def wsX4_tryToTheEnd_r2 : List Cond := [Cond.instanceMethod yX2_clear, Cond.selects RX2 yX2_clear yX2_clear, Cond.code yX2_clear cX2_clear 1 none, Cond.methodLink RX2 32 yX2_add, Cond.instanceMethod yX2_add, Cond.selects RX2 yX2_add yX2_add, Cond.code yX2_add cX2_add 2 none, Cond.methodLink RX4 77 yX3_useRules, Cond.instanceMethod yX3_useRules, Cond.selects RX3 yX3_useRules yX3_useRules, Cond.code yX3_useRules cX3_useRules 3 none, Cond.methodLink RX4 64 yX3_beginAnew, Cond.instanceMethod yX3_beginAnew, Cond.selects RX3 yX3_beginAnew yX3_beginAnew, Cond.code yX3_beginAnew cX3_beginAnew 1 none, Cond.methodLink RX3 47 yX2_clear, Cond.methodLink RX4 92 yX0_study, Cond.instanceMethod yX0_study, Cond.selects RX0 yX0_study yX0_study, Cond.initialized RX0, Cond.code yX0_study cX0_study 3 none, Cond.methodLink RX0 24 Lib.Math.min.name, Cond.static Lib.Math.min.name, Cond.initialized "java/lang/Math"]
def wsX4_tryToTheEnd_r3 : List Cond := [Cond.code Lib.Math.min.name Lib.Math.min.code 2 (some .int), Cond.fieldLink RX0 30 "BackwardSearch$Ends" "length" "I", Cond.fieldLink RX0 15 "BackwardSearch$Ends" "skipOf" "[I", Cond.methodLink RX0 18 yX2_size, Cond.instanceMethod yX2_size, Cond.selects RX2 yX2_size yX2_size, Cond.code yX2_size cX2_size 1 (some .int), Cond.methodLink RX0 34 yX0_findBorders, Cond.instanceMethod yX0_findBorders, Cond.selects RX0 yX0_findBorders yX0_findBorders, Cond.code yX0_findBorders cX0_findBorders 4 none, Cond.fieldLink RX0 9 "BackwardSearch$Ends" "borderOf" "[I", Cond.methodLink RX0 41 yX0_borderThatGrows, Cond.instanceMethod yX0_borderThatGrows, Cond.selects RX0 yX0_borderThatGrows yX0_borderThatGrows, Cond.code yX0_borderThatGrows cX0_borderThatGrows 6 (some .int), Cond.methodLink RX0 45 yX2_at, Cond.instanceMethod yX2_at, Cond.selects RX2 yX2_at yX2_at, Cond.code yX2_at cX2_at 2 (some .int), Cond.methodLink RX2 25 yX2_has, Cond.instanceMethod yX2_has, Cond.selects RX2 yX2_has yX2_has, Cond.code yX2_has cX2_has 2 (some .boolean)]
def wsX4_tryToTheEnd_r4 : List Cond := [Cond.methodLink RX0 38 yX0_skipToBordersOfTheWord, Cond.instanceMethod yX0_skipToBordersOfTheWord, Cond.selects RX0 yX0_skipToBordersOfTheWord yX0_skipToBordersOfTheWord, Cond.code yX0_skipToBordersOfTheWord cX0_skipToBordersOfTheWord 3 none, Cond.methodLink RX4 99 yX3_lookToTheEnd, Cond.instanceMethod yX3_lookToTheEnd, Cond.selects RX3 yX3_lookToTheEnd yX3_lookToTheEnd, Cond.code yX3_lookToTheEnd cX3_lookToTheEnd 3 (some .int), Cond.methodLink RX3 67 yX3_hasEnded, Cond.instanceMethod yX3_hasEnded, Cond.selects RX3 yX3_hasEnded yX3_hasEnded, Cond.code yX3_hasEnded cX3_hasEnded 1 (some .boolean), Cond.methodLink RX3 60 yX2_isEmpty, Cond.instanceMethod yX2_isEmpty, Cond.selects RX2 yX2_isEmpty yX2_isEmpty, Cond.code yX2_isEmpty cX2_isEmpty 1 (some .boolean), Cond.methodLink RX3 64 yX3_beginnings, Cond.instanceMethod yX3_beginnings, Cond.selects RX3 yX3_beginnings yX3_beginnings, Cond.code yX3_beginnings cX3_beginnings 1 (some .int), Cond.methodLink RX3 54 Lib.Math.max.name, Cond.static Lib.Math.max.name, Cond.code Lib.Math.max.name Lib.Math.max.code 2 (some .int), Cond.methodLink RX3 50 yX2_size]
def wsX4_tryToTheEnd_r5 : List Cond := [Cond.methodLink RX3 70 yX3_lookOnce, Cond.instanceMethod yX3_lookOnce, Cond.selects RX3 yX3_lookOnce yX3_lookOnce, Cond.code yX3_lookOnce cX3_lookOnce 4 (some .int), Cond.methodLink RX3 74 yX3_lastDifferenceAt, Cond.instanceMethod yX3_lastDifferenceAt, Cond.selects RX3 yX3_lastDifferenceAt yX3_lastDifferenceAt, Cond.code yX3_lastDifferenceAt cX3_lastDifferenceAt 3 (some .int), Cond.methodLink RX3 85 yX2_at, Cond.methodLink RX3 78 yX3_skipBehind, Cond.instanceMethod yX3_skipBehind, Cond.selects RX3 yX3_skipBehind yX3_skipBehind, Cond.code yX3_skipBehind cX3_skipBehind 4 (some .int), Cond.methodLink RX3 88 yX0_wordPeriod, Cond.instanceMethod yX0_wordPeriod, Cond.selects RX0 yX0_wordPeriod yX0_wordPeriod, Cond.code yX0_wordPeriod cX0_wordPeriod 1 (some .int), Cond.methodLink RX3 93 yX3_skipByLetter, Cond.instanceMethod yX3_skipByLetter, Cond.selects RX3 yX3_skipByLetter yX3_skipByLetter, Cond.code yX3_skipByLetter cX3_skipByLetter 3 (some .int), Cond.methodLink RX3 99 yX2_lastPlaceWith, Cond.instanceMethod yX2_lastPlaceWith, Cond.selects RX2 yX2_lastPlaceWith yX2_lastPlaceWith]
def wsX4_tryToTheEnd_r6 : List Cond := [Cond.code yX2_lastPlaceWith cX2_lastPlaceWith 3 (some .int), Cond.methodLink RX3 96 yX0_skipAt, Cond.instanceMethod yX0_skipAt, Cond.selects RX0 yX0_skipAt yX0_skipAt, Cond.code yX0_skipAt cX0_skipAt 2 (some .int), Cond.methodLink RX3 82 yX2_add]
def wsX4_tryToTheEnd : List Cond := .code yX4_tryToTheEnd cX4_tryToTheEnd 3 none :: ((wsX4_tryToTheEnd_r1 ++ (wsX4_tryToTheEnd_r2 ++ (wsX4_tryToTheEnd_r3 ++ (wsX4_tryToTheEnd_r4 ++ (wsX4_tryToTheEnd_r5 ++ wsX4_tryToTheEnd_r6))))) ++ wsX40 ++ wsX30 ++ wsX20 ++ wsX00)
def wsX4_occurrences_r1 : List Cond := [Cond.fieldLink RX4 16 "BackwardSearch" "trial" "LBackwardSearch$State;", Cond.methodLink RX4 155 yX4_tryToTheEnd, Cond.instanceMethod yX4_tryToTheEnd, Cond.selects RX4 yX4_tryToTheEnd yX4_tryToTheEnd, Cond.initialized RX4, Cond.code yX4_tryToTheEnd cX4_tryToTheEnd 3 none, Cond.fieldLink RX4 10 "BackwardSearch" "state" "LBackwardSearch$State;", Cond.fieldLink RX4 22 "BackwardSearch" "ends" "LBackwardSearch$Ends;", Cond.methodLink RX4 205 yX3_copy, Cond.instanceMethod yX3_copy, Cond.selects RX3 yX3_copy yX3_copy, Cond.initialized RX3, Cond.code yX3_copy cX3_copy 2 none, Cond.fieldLink RX3 14 "BackwardSearch$State" "line" "LBackwardSearch$Row;", Cond.fieldLink RX3 20 "BackwardSearch$State" "word" "LBackwardSearch$Row;", Cond.fieldLink RX3 23 "BackwardSearch$State" "found" "LBackwardSearch$Row;", Cond.fieldLink RX3 26 "BackwardSearch$State" "letterRule" "Z", Cond.fieldLink RX3 30 "BackwardSearch$State" "endRule" "Z", Cond.fieldLink RX3 37 "BackwardSearch$State" "place" "I", Cond.fieldLink RX3 41 "BackwardSearch$State" "looks" "I", Cond.fieldLink RX3 44 "BackwardSearch$State" "compared" "I", Cond.methodLink RX3 33 yX2_copy, Cond.instanceMethod yX2_copy, Cond.selects RX2 yX2_copy yX2_copy]
def wsX4_occurrences_r2 : List Cond := [Cond.initialized RX2, Cond.code yX2_copy cX2_copy 3 none, Cond.fieldLink RX2 21 "BackwardSearch$Row" "length" "I", Cond.fieldLink RX2 15 "BackwardSearch$Row" "numbers" "[I", Cond.methodLink RX2 29 yX2_clear, Cond.instanceMethod yX2_clear, Cond.selects RX2 yX2_clear yX2_clear, Cond.code yX2_clear cX2_clear 1 none, Cond.methodLink RX2 32 yX2_add, Cond.instanceMethod yX2_add, Cond.selects RX2 yX2_add yX2_add, Cond.code yX2_add cX2_add 2 none, Cond.methodLink RX4 77 yX3_useRules, Cond.instanceMethod yX3_useRules, Cond.selects RX3 yX3_useRules yX3_useRules, Cond.code yX3_useRules cX3_useRules 3 none, Cond.methodLink RX4 64 yX3_beginAnew, Cond.instanceMethod yX3_beginAnew, Cond.selects RX3 yX3_beginAnew yX3_beginAnew, Cond.code yX3_beginAnew cX3_beginAnew 1 none, Cond.methodLink RX3 47 yX2_clear, Cond.methodLink RX4 92 yX0_study, Cond.instanceMethod yX0_study, Cond.selects RX0 yX0_study yX0_study]
def wsX4_occurrences_r3 : List Cond := [Cond.initialized RX0, Cond.code yX0_study cX0_study 3 none, Cond.methodLink RX0 24 Lib.Math.min.name, Cond.static Lib.Math.min.name, Cond.initialized "java/lang/Math", Cond.code Lib.Math.min.name Lib.Math.min.code 2 (some .int), Cond.fieldLink RX0 30 "BackwardSearch$Ends" "length" "I", Cond.fieldLink RX0 15 "BackwardSearch$Ends" "skipOf" "[I", Cond.methodLink RX0 18 yX2_size, Cond.instanceMethod yX2_size, Cond.selects RX2 yX2_size yX2_size, Cond.code yX2_size cX2_size 1 (some .int), Cond.methodLink RX0 34 yX0_findBorders, Cond.instanceMethod yX0_findBorders, Cond.selects RX0 yX0_findBorders yX0_findBorders, Cond.code yX0_findBorders cX0_findBorders 4 none, Cond.fieldLink RX0 9 "BackwardSearch$Ends" "borderOf" "[I", Cond.methodLink RX0 41 yX0_borderThatGrows, Cond.instanceMethod yX0_borderThatGrows, Cond.selects RX0 yX0_borderThatGrows yX0_borderThatGrows, Cond.code yX0_borderThatGrows cX0_borderThatGrows 6 (some .int), Cond.methodLink RX0 45 yX2_at, Cond.instanceMethod yX2_at, Cond.selects RX2 yX2_at yX2_at]
def wsX4_occurrences_r4 : List Cond := [Cond.code yX2_at cX2_at 2 (some .int), Cond.methodLink RX2 25 yX2_has, Cond.instanceMethod yX2_has, Cond.selects RX2 yX2_has yX2_has, Cond.code yX2_has cX2_has 2 (some .boolean), Cond.methodLink RX0 38 yX0_skipToBordersOfTheWord, Cond.instanceMethod yX0_skipToBordersOfTheWord, Cond.selects RX0 yX0_skipToBordersOfTheWord yX0_skipToBordersOfTheWord, Cond.code yX0_skipToBordersOfTheWord cX0_skipToBordersOfTheWord 3 none, Cond.methodLink RX4 99 yX3_lookToTheEnd, Cond.instanceMethod yX3_lookToTheEnd, Cond.selects RX3 yX3_lookToTheEnd yX3_lookToTheEnd, Cond.code yX3_lookToTheEnd cX3_lookToTheEnd 3 (some .int), Cond.methodLink RX3 67 yX3_hasEnded, Cond.instanceMethod yX3_hasEnded, Cond.selects RX3 yX3_hasEnded yX3_hasEnded, Cond.code yX3_hasEnded cX3_hasEnded 1 (some .boolean), Cond.methodLink RX3 60 yX2_isEmpty, Cond.instanceMethod yX2_isEmpty, Cond.selects RX2 yX2_isEmpty yX2_isEmpty, Cond.code yX2_isEmpty cX2_isEmpty 1 (some .boolean), Cond.methodLink RX3 64 yX3_beginnings, Cond.instanceMethod yX3_beginnings, Cond.selects RX3 yX3_beginnings yX3_beginnings]
def wsX4_occurrences_r5 : List Cond := [Cond.code yX3_beginnings cX3_beginnings 1 (some .int), Cond.methodLink RX3 54 Lib.Math.max.name, Cond.static Lib.Math.max.name, Cond.code Lib.Math.max.name Lib.Math.max.code 2 (some .int), Cond.methodLink RX3 50 yX2_size, Cond.methodLink RX3 70 yX3_lookOnce, Cond.instanceMethod yX3_lookOnce, Cond.selects RX3 yX3_lookOnce yX3_lookOnce, Cond.code yX3_lookOnce cX3_lookOnce 4 (some .int), Cond.methodLink RX3 74 yX3_lastDifferenceAt, Cond.instanceMethod yX3_lastDifferenceAt, Cond.selects RX3 yX3_lastDifferenceAt yX3_lastDifferenceAt, Cond.code yX3_lastDifferenceAt cX3_lastDifferenceAt 3 (some .int), Cond.methodLink RX3 85 yX2_at, Cond.methodLink RX3 78 yX3_skipBehind, Cond.instanceMethod yX3_skipBehind, Cond.selects RX3 yX3_skipBehind yX3_skipBehind, Cond.code yX3_skipBehind cX3_skipBehind 4 (some .int), Cond.methodLink RX3 88 yX0_wordPeriod, Cond.instanceMethod yX0_wordPeriod, Cond.selects RX0 yX0_wordPeriod yX0_wordPeriod, Cond.code yX0_wordPeriod cX0_wordPeriod 1 (some .int), Cond.methodLink RX3 93 yX3_skipByLetter, Cond.instanceMethod yX3_skipByLetter]
def wsX4_occurrences_r6 : List Cond := [Cond.selects RX3 yX3_skipByLetter yX3_skipByLetter, Cond.code yX3_skipByLetter cX3_skipByLetter 3 (some .int), Cond.methodLink RX3 99 yX2_lastPlaceWith, Cond.instanceMethod yX2_lastPlaceWith, Cond.selects RX2 yX2_lastPlaceWith yX2_lastPlaceWith, Cond.code yX2_lastPlaceWith cX2_lastPlaceWith 3 (some .int), Cond.methodLink RX3 96 yX0_skipAt, Cond.instanceMethod yX0_skipAt, Cond.selects RX0 yX0_skipAt yX0_skipAt, Cond.code yX0_skipAt cX0_skipAt 2 (some .int), Cond.methodLink RX3 82 yX2_add, Cond.methodLink RX4 67 yX2_size]
def wsX4_occurrences : List Cond := .code yX4_occurrences cX4_occurrences 1 (some .int) :: ((wsX4_occurrences_r1 ++ (wsX4_occurrences_r2 ++ (wsX4_occurrences_r3 ++ (wsX4_occurrences_r4 ++ (wsX4_occurrences_r5 ++ wsX4_occurrences_r6))))) ++ wsX40 ++ wsX30 ++ wsX20 ++ wsX00)
def wsX4_wordStandsAt : List Cond := .code yX4_wordStandsAt cX4_wordStandsAt 3 (some .boolean) :: ([.fieldLink RX4 10 "BackwardSearch" "state" "LBackwardSearch$State;", .methodLink RX4 67 yX2_size, .instanceMethod yX2_size, .selects RX2 yX2_size yX2_size, .initialized RX2, .code yX2_size cX2_size 1 (some .int), .fieldLink RX2 21 "BackwardSearch$Row" "length" "I", .methodLink RX4 113 yX2_at, .instanceMethod yX2_at, .selects RX2 yX2_at yX2_at, .code yX2_at cX2_at 2 (some .int), .fieldLink RX2 15 "BackwardSearch$Row" "numbers" "[I", .methodLink RX2 25 yX2_has, .instanceMethod yX2_has, .selects RX2 yX2_has yX2_has, .code yX2_has cX2_has 2 (some .boolean)] ++ wsX40 ++ wsX30 ++ wsX20)
def wsX4_occurrencesByTrying_r1 : List Cond := [Cond.fieldLink RX4 10 "BackwardSearch" "state" "LBackwardSearch$State;", Cond.methodLink RX4 158 yX2_isEmpty, Cond.instanceMethod yX2_isEmpty, Cond.selects RX2 yX2_isEmpty yX2_isEmpty, Cond.initialized RX2, Cond.code yX2_isEmpty cX2_isEmpty 1 (some .boolean), Cond.fieldLink RX2 21 "BackwardSearch$Row" "length" "I", Cond.methodLink RX4 130 yX3_beginnings, Cond.instanceMethod yX3_beginnings, Cond.selects RX3 yX3_beginnings yX3_beginnings, Cond.initialized RX3, Cond.code yX3_beginnings cX3_beginnings 1 (some .int), Cond.fieldLink RX3 14 "BackwardSearch$State" "line" "LBackwardSearch$Row;", Cond.fieldLink RX3 20 "BackwardSearch$State" "word" "LBackwardSearch$Row;", Cond.methodLink RX3 54 Lib.Math.max.name, Cond.static Lib.Math.max.name, Cond.initialized "java/lang/Math", Cond.code Lib.Math.max.name Lib.Math.max.code 2 (some .int), Cond.methodLink RX3 50 yX2_size, Cond.instanceMethod yX2_size, Cond.selects RX2 yX2_size yX2_size, Cond.code yX2_size cX2_size 1 (some .int), Cond.methodLink RX4 161 yX4_wordStandsAt, Cond.instanceMethod yX4_wordStandsAt]
def wsX4_occurrencesByTrying_r2 : List Cond := [Cond.selects RX4 yX4_wordStandsAt yX4_wordStandsAt, Cond.initialized RX4, Cond.code yX4_wordStandsAt cX4_wordStandsAt 3 (some .boolean), Cond.methodLink RX4 67 yX2_size, Cond.methodLink RX4 113 yX2_at, Cond.instanceMethod yX2_at, Cond.selects RX2 yX2_at yX2_at, Cond.code yX2_at cX2_at 2 (some .int), Cond.fieldLink RX2 15 "BackwardSearch$Row" "numbers" "[I", Cond.methodLink RX2 25 yX2_has, Cond.instanceMethod yX2_has, Cond.selects RX2 yX2_has yX2_has, Cond.code yX2_has cX2_has 2 (some .boolean)]
def wsX4_occurrencesByTrying : List Cond := .code yX4_occurrencesByTrying cX4_occurrencesByTrying 3 (some .int) :: ((wsX4_occurrencesByTrying_r1 ++ wsX4_occurrencesByTrying_r2) ++ wsX40 ++ wsX30 ++ wsX20)
def wsX4_comparedWith_r1 : List Cond := [Cond.fieldLink RX4 16 "BackwardSearch" "trial" "LBackwardSearch$State;", Cond.methodLink RX4 155 yX4_tryToTheEnd, Cond.instanceMethod yX4_tryToTheEnd, Cond.selects RX4 yX4_tryToTheEnd yX4_tryToTheEnd, Cond.initialized RX4, Cond.code yX4_tryToTheEnd cX4_tryToTheEnd 3 none, Cond.fieldLink RX4 10 "BackwardSearch" "state" "LBackwardSearch$State;", Cond.fieldLink RX4 22 "BackwardSearch" "ends" "LBackwardSearch$Ends;", Cond.methodLink RX4 205 yX3_copy, Cond.instanceMethod yX3_copy, Cond.selects RX3 yX3_copy yX3_copy, Cond.initialized RX3, Cond.code yX3_copy cX3_copy 2 none, Cond.fieldLink RX3 14 "BackwardSearch$State" "line" "LBackwardSearch$Row;", Cond.fieldLink RX3 20 "BackwardSearch$State" "word" "LBackwardSearch$Row;", Cond.fieldLink RX3 23 "BackwardSearch$State" "found" "LBackwardSearch$Row;", Cond.fieldLink RX3 26 "BackwardSearch$State" "letterRule" "Z", Cond.fieldLink RX3 30 "BackwardSearch$State" "endRule" "Z", Cond.fieldLink RX3 37 "BackwardSearch$State" "place" "I", Cond.fieldLink RX3 41 "BackwardSearch$State" "looks" "I", Cond.fieldLink RX3 44 "BackwardSearch$State" "compared" "I", Cond.methodLink RX3 33 yX2_copy, Cond.instanceMethod yX2_copy, Cond.selects RX2 yX2_copy yX2_copy]
def wsX4_comparedWith_r2 : List Cond := [Cond.initialized RX2, Cond.code yX2_copy cX2_copy 3 none, Cond.fieldLink RX2 21 "BackwardSearch$Row" "length" "I", Cond.fieldLink RX2 15 "BackwardSearch$Row" "numbers" "[I", Cond.methodLink RX2 29 yX2_clear, Cond.instanceMethod yX2_clear, Cond.selects RX2 yX2_clear yX2_clear, Cond.code yX2_clear cX2_clear 1 none, Cond.methodLink RX2 32 yX2_add, Cond.instanceMethod yX2_add, Cond.selects RX2 yX2_add yX2_add, Cond.code yX2_add cX2_add 2 none, Cond.methodLink RX4 77 yX3_useRules, Cond.instanceMethod yX3_useRules, Cond.selects RX3 yX3_useRules yX3_useRules, Cond.code yX3_useRules cX3_useRules 3 none, Cond.methodLink RX4 64 yX3_beginAnew, Cond.instanceMethod yX3_beginAnew, Cond.selects RX3 yX3_beginAnew yX3_beginAnew, Cond.code yX3_beginAnew cX3_beginAnew 1 none, Cond.methodLink RX3 47 yX2_clear, Cond.methodLink RX4 92 yX0_study, Cond.instanceMethod yX0_study, Cond.selects RX0 yX0_study yX0_study]
def wsX4_comparedWith_r3 : List Cond := [Cond.initialized RX0, Cond.code yX0_study cX0_study 3 none, Cond.methodLink RX0 24 Lib.Math.min.name, Cond.static Lib.Math.min.name, Cond.initialized "java/lang/Math", Cond.code Lib.Math.min.name Lib.Math.min.code 2 (some .int), Cond.fieldLink RX0 30 "BackwardSearch$Ends" "length" "I", Cond.fieldLink RX0 15 "BackwardSearch$Ends" "skipOf" "[I", Cond.methodLink RX0 18 yX2_size, Cond.instanceMethod yX2_size, Cond.selects RX2 yX2_size yX2_size, Cond.code yX2_size cX2_size 1 (some .int), Cond.methodLink RX0 34 yX0_findBorders, Cond.instanceMethod yX0_findBorders, Cond.selects RX0 yX0_findBorders yX0_findBorders, Cond.code yX0_findBorders cX0_findBorders 4 none, Cond.fieldLink RX0 9 "BackwardSearch$Ends" "borderOf" "[I", Cond.methodLink RX0 41 yX0_borderThatGrows, Cond.instanceMethod yX0_borderThatGrows, Cond.selects RX0 yX0_borderThatGrows yX0_borderThatGrows, Cond.code yX0_borderThatGrows cX0_borderThatGrows 6 (some .int), Cond.methodLink RX0 45 yX2_at, Cond.instanceMethod yX2_at, Cond.selects RX2 yX2_at yX2_at]
def wsX4_comparedWith_r4 : List Cond := [Cond.code yX2_at cX2_at 2 (some .int), Cond.methodLink RX2 25 yX2_has, Cond.instanceMethod yX2_has, Cond.selects RX2 yX2_has yX2_has, Cond.code yX2_has cX2_has 2 (some .boolean), Cond.methodLink RX0 38 yX0_skipToBordersOfTheWord, Cond.instanceMethod yX0_skipToBordersOfTheWord, Cond.selects RX0 yX0_skipToBordersOfTheWord yX0_skipToBordersOfTheWord, Cond.code yX0_skipToBordersOfTheWord cX0_skipToBordersOfTheWord 3 none, Cond.methodLink RX4 99 yX3_lookToTheEnd, Cond.instanceMethod yX3_lookToTheEnd, Cond.selects RX3 yX3_lookToTheEnd yX3_lookToTheEnd, Cond.code yX3_lookToTheEnd cX3_lookToTheEnd 3 (some .int), Cond.methodLink RX3 67 yX3_hasEnded, Cond.instanceMethod yX3_hasEnded, Cond.selects RX3 yX3_hasEnded yX3_hasEnded, Cond.code yX3_hasEnded cX3_hasEnded 1 (some .boolean), Cond.methodLink RX3 60 yX2_isEmpty, Cond.instanceMethod yX2_isEmpty, Cond.selects RX2 yX2_isEmpty yX2_isEmpty, Cond.code yX2_isEmpty cX2_isEmpty 1 (some .boolean), Cond.methodLink RX3 64 yX3_beginnings, Cond.instanceMethod yX3_beginnings, Cond.selects RX3 yX3_beginnings yX3_beginnings]
def wsX4_comparedWith_r5 : List Cond := [Cond.code yX3_beginnings cX3_beginnings 1 (some .int), Cond.methodLink RX3 54 Lib.Math.max.name, Cond.static Lib.Math.max.name, Cond.code Lib.Math.max.name Lib.Math.max.code 2 (some .int), Cond.methodLink RX3 50 yX2_size, Cond.methodLink RX3 70 yX3_lookOnce, Cond.instanceMethod yX3_lookOnce, Cond.selects RX3 yX3_lookOnce yX3_lookOnce, Cond.code yX3_lookOnce cX3_lookOnce 4 (some .int), Cond.methodLink RX3 74 yX3_lastDifferenceAt, Cond.instanceMethod yX3_lastDifferenceAt, Cond.selects RX3 yX3_lastDifferenceAt yX3_lastDifferenceAt, Cond.code yX3_lastDifferenceAt cX3_lastDifferenceAt 3 (some .int), Cond.methodLink RX3 85 yX2_at, Cond.methodLink RX3 78 yX3_skipBehind, Cond.instanceMethod yX3_skipBehind, Cond.selects RX3 yX3_skipBehind yX3_skipBehind, Cond.code yX3_skipBehind cX3_skipBehind 4 (some .int), Cond.methodLink RX3 88 yX0_wordPeriod, Cond.instanceMethod yX0_wordPeriod, Cond.selects RX0 yX0_wordPeriod yX0_wordPeriod, Cond.code yX0_wordPeriod cX0_wordPeriod 1 (some .int), Cond.methodLink RX3 93 yX3_skipByLetter, Cond.instanceMethod yX3_skipByLetter]
def wsX4_comparedWith_r6 : List Cond := [Cond.selects RX3 yX3_skipByLetter yX3_skipByLetter, Cond.code yX3_skipByLetter cX3_skipByLetter 3 (some .int), Cond.methodLink RX3 99 yX2_lastPlaceWith, Cond.instanceMethod yX2_lastPlaceWith, Cond.selects RX2 yX2_lastPlaceWith yX2_lastPlaceWith, Cond.code yX2_lastPlaceWith cX2_lastPlaceWith 3 (some .int), Cond.methodLink RX3 96 yX0_skipAt, Cond.instanceMethod yX0_skipAt, Cond.selects RX0 yX0_skipAt yX0_skipAt, Cond.code yX0_skipAt cX0_skipAt 2 (some .int), Cond.methodLink RX3 82 yX2_add]
def wsX4_comparedWith : List Cond := .code yX4_comparedWith cX4_comparedWith 3 (some .int) :: ((wsX4_comparedWith_r1 ++ (wsX4_comparedWith_r2 ++ (wsX4_comparedWith_r3 ++ (wsX4_comparedWith_r4 ++ (wsX4_comparedWith_r5 ++ wsX4_comparedWith_r6))))) ++ wsX40 ++ wsX30 ++ wsX20 ++ wsX00)
def wsX4_differenceAt_r1 : List Cond := [Cond.classLink RX4 165 "java/lang/IndexOutOfBoundsException", Cond.initialized "java/lang/IndexOutOfBoundsException", Cond.classLink RX4 85 "java/lang/IllegalStateException", Cond.initialized "java/lang/IllegalStateException", Cond.fieldLink RX4 10 "BackwardSearch" "state" "LBackwardSearch$State;", Cond.methodLink RX4 130 yX3_beginnings, Cond.instanceMethod yX3_beginnings, Cond.selects RX3 yX3_beginnings yX3_beginnings, Cond.initialized RX3, Cond.code yX3_beginnings cX3_beginnings 1 (some .int), Cond.fieldLink RX3 14 "BackwardSearch$State" "line" "LBackwardSearch$Row;", Cond.fieldLink RX3 20 "BackwardSearch$State" "word" "LBackwardSearch$Row;", Cond.methodLink RX3 54 Lib.Math.max.name, Cond.static Lib.Math.max.name, Cond.initialized "java/lang/Math", Cond.code Lib.Math.max.name Lib.Math.max.code 2 (some .int), Cond.methodLink RX3 50 yX2_size, Cond.instanceMethod yX2_size, Cond.selects RX2 yX2_size yX2_size, Cond.initialized RX2, Cond.code yX2_size cX2_size 1 (some .int), Cond.fieldLink RX2 21 "BackwardSearch$Row" "length" "I", Cond.methodLink RX4 158 yX2_isEmpty, Cond.instanceMethod yX2_isEmpty]
def wsX4_differenceAt_r2 : List Cond := [Cond.selects RX2 yX2_isEmpty yX2_isEmpty, Cond.code yX2_isEmpty cX2_isEmpty 1 (some .boolean), Cond.methodLink RX4 172 yX3_lastDifferenceAt, Cond.instanceMethod yX3_lastDifferenceAt, Cond.selects RX3 yX3_lastDifferenceAt yX3_lastDifferenceAt, Cond.code yX3_lastDifferenceAt cX3_lastDifferenceAt 3 (some .int), Cond.methodLink RX3 85 yX2_at, Cond.instanceMethod yX2_at, Cond.selects RX2 yX2_at yX2_at, Cond.code yX2_at cX2_at 2 (some .int), Cond.fieldLink RX2 15 "BackwardSearch$Row" "numbers" "[I", Cond.methodLink RX2 25 yX2_has, Cond.instanceMethod yX2_has, Cond.selects RX2 yX2_has yX2_has, Cond.code yX2_has cX2_has 2 (some .boolean)]
def wsX4_differenceAt : List Cond := .code yX4_differenceAt cX4_differenceAt 2 (some .int) :: ((wsX4_differenceAt_r1 ++ wsX4_differenceAt_r2) ++ wsX40 ++ wsX30 ++ wsX20 ++ (vx_atS RX4 169 "java/lang/IndexOutOfBoundsException" ["java/lang/RuntimeException", "java/lang/Exception"]).filter goodWord ++ (vx_atS RX4 89 "java/lang/IllegalStateException" ["java/lang/RuntimeException", "java/lang/Exception"]).filter goodWord)
def wsX4_codeOf : List Cond := .code yX4_codeOf cX4_codeOf 3 (some .int) :: ([.constantLong RX4 226 (255)])
def wsX4_isZeroFrom : List Cond := .code yX4_isZeroFrom cX4_isZeroFrom 3 (some .boolean) :: ([])
def wsX4_countCharacters : List Cond := .code yX4_countCharacters cX4_countCharacters 4 (some .int) :: ([.methodLink RX4 186 yX4_codeOf, .static yX4_codeOf, .initialized RX4, .code yX4_codeOf cX4_codeOf 3 (some .int), .constantLong RX4 226 (255), .methodLink RX4 228 yX4_isZeroFrom, .static yX4_isZeroFrom, .code yX4_isZeroFrom cX4_isZeroFrom 3 (some .boolean)])
def wsX4_appendText_r1 : List Cond := [Cond.classLink RX4 179 "java/lang/IllegalArgumentException", Cond.initialized "java/lang/IllegalArgumentException", Cond.classLink RX4 85 "java/lang/IllegalStateException", Cond.initialized "java/lang/IllegalStateException", Cond.fieldLink RX4 46 "BackwardSearch" "text" "LBackwardSearch$Row;", Cond.methodLink RX4 175 yX4_countCharacters, Cond.static yX4_countCharacters, Cond.initialized RX4, Cond.code yX4_countCharacters cX4_countCharacters 4 (some .int), Cond.methodLink RX4 186 yX4_codeOf, Cond.static yX4_codeOf, Cond.code yX4_codeOf cX4_codeOf 3 (some .int), Cond.constantLong RX4 226 (255), Cond.methodLink RX4 228 yX4_isZeroFrom, Cond.static yX4_isZeroFrom, Cond.code yX4_isZeroFrom cX4_isZeroFrom 3 (some .boolean), Cond.methodLink RX4 67 yX2_size, Cond.instanceMethod yX2_size, Cond.selects RX2 yX2_size yX2_size, Cond.initialized RX2, Cond.code yX2_size cX2_size 1 (some .int), Cond.fieldLink RX2 21 "BackwardSearch$Row" "length" "I", Cond.methodLink RX4 190 yX2_add, Cond.instanceMethod yX2_add]
def wsX4_appendText_r2 : List Cond := [Cond.selects RX2 yX2_add yX2_add, Cond.code yX2_add cX2_add 2 none, Cond.fieldLink RX2 15 "BackwardSearch$Row" "numbers" "[I"]
def wsX4_appendText : List Cond := .code yX4_appendText cX4_appendText 5 (some .int) :: ((wsX4_appendText_r1 ++ wsX4_appendText_r2) ++ wsX40 ++ wsX20 ++ (vx_atS RX4 183 "java/lang/IllegalArgumentException" ["java/lang/RuntimeException", "java/lang/Exception"]).filter goodWord ++ (vx_atS RX4 89 "java/lang/IllegalStateException" ["java/lang/RuntimeException", "java/lang/Exception"]).filter goodWord)
def wsX4_clearText : List Cond := .code yX4_clearText cX4_clearText 2 (some .int) :: ([.fieldLink RX4 46 "BackwardSearch" "text" "LBackwardSearch$Row;", .methodLink RX4 67 yX2_size, .instanceMethod yX2_size, .selects RX2 yX2_size yX2_size, .initialized RX2, .code yX2_size cX2_size 1 (some .int), .fieldLink RX2 21 "BackwardSearch$Row" "length" "I", .methodLink RX4 193 yX2_clear, .instanceMethod yX2_clear, .selects RX2 yX2_clear yX2_clear, .code yX2_clear cX2_clear 1 none] ++ wsX40 ++ wsX20)
def wsX4_textLength : List Cond := .code yX4_textLength cX4_textLength 1 (some .int) :: ([.fieldLink RX4 46 "BackwardSearch" "text" "LBackwardSearch$Row;", .methodLink RX4 67 yX2_size, .instanceMethod yX2_size, .selects RX2 yX2_size yX2_size, .initialized RX2, .code yX2_size cX2_size 1 (some .int), .fieldLink RX2 21 "BackwardSearch$Row" "length" "I"] ++ wsX40 ++ wsX20)
def wsX4_undo_r1 : List Cond := [Cond.classLink RX4 85 "java/lang/IllegalStateException", Cond.initialized "java/lang/IllegalStateException", Cond.fieldLink RX4 29 "BackwardSearch" "history" "LBackwardSearch$History;", Cond.fieldLink RX4 10 "BackwardSearch" "state" "LBackwardSearch$State;", Cond.methodLink RX4 196 yX1_size, Cond.instanceMethod yX1_size, Cond.selects RX1 yX1_size yX1_size, Cond.initialized RX1, Cond.code yX1_size cX1_size 1 (some .int), Cond.fieldLink RX1 18 "BackwardSearch$History" "count" "I", Cond.methodLink RX4 199 yX1_giveBack, Cond.instanceMethod yX1_giveBack, Cond.selects RX1 yX1_giveBack yX1_giveBack, Cond.code yX1_giveBack cX1_giveBack 2 none, Cond.fieldLink RX1 22 "BackwardSearch$History" "next" "I", Cond.fieldLink RX1 11 "BackwardSearch$History" "kept" "[LBackwardSearch$State;", Cond.methodLink RX1 25 yX3_copy, Cond.instanceMethod yX3_copy, Cond.selects RX3 yX3_copy yX3_copy, Cond.initialized RX3, Cond.code yX3_copy cX3_copy 2 none, Cond.fieldLink RX3 14 "BackwardSearch$State" "line" "LBackwardSearch$Row;", Cond.fieldLink RX3 20 "BackwardSearch$State" "word" "LBackwardSearch$Row;", Cond.fieldLink RX3 23 "BackwardSearch$State" "found" "LBackwardSearch$Row;"]
def wsX4_undo_r2 : List Cond := [Cond.fieldLink RX3 26 "BackwardSearch$State" "letterRule" "Z", Cond.fieldLink RX3 30 "BackwardSearch$State" "endRule" "Z", Cond.fieldLink RX3 37 "BackwardSearch$State" "place" "I", Cond.fieldLink RX3 41 "BackwardSearch$State" "looks" "I", Cond.fieldLink RX3 44 "BackwardSearch$State" "compared" "I", Cond.methodLink RX3 33 yX2_copy, Cond.instanceMethod yX2_copy, Cond.selects RX2 yX2_copy yX2_copy, Cond.initialized RX2, Cond.code yX2_copy cX2_copy 3 none, Cond.fieldLink RX2 21 "BackwardSearch$Row" "length" "I", Cond.fieldLink RX2 15 "BackwardSearch$Row" "numbers" "[I", Cond.methodLink RX2 29 yX2_clear, Cond.instanceMethod yX2_clear, Cond.selects RX2 yX2_clear yX2_clear, Cond.code yX2_clear cX2_clear 1 none, Cond.methodLink RX2 32 yX2_add, Cond.instanceMethod yX2_add, Cond.selects RX2 yX2_add yX2_add, Cond.code yX2_add cX2_add 2 none]
def wsX4_undo : List Cond := .code yX4_undo cX4_undo 1 (some .int) :: ((wsX4_undo_r1 ++ wsX4_undo_r2) ++ wsX40 ++ wsX10 ++ wsX30 ++ wsX20 ++ (vx_atS RX4 89 "java/lang/IllegalStateException" ["java/lang/RuntimeException", "java/lang/Exception"]).filter goodWord)
def wsX4_undoCount : List Cond := .code yX4_undoCount cX4_undoCount 1 (some .int) :: ([.fieldLink RX4 29 "BackwardSearch" "history" "LBackwardSearch$History;", .methodLink RX4 196 yX1_size, .instanceMethod yX1_size, .selects RX1 yX1_size yX1_size, .initialized RX1, .code yX1_size cX1_size 1 (some .int), .fieldLink RX1 18 "BackwardSearch$History" "count" "I"] ++ wsX40 ++ wsX10)
def wsX4_refuseUnlessSlot : List Cond := .code yX4_refuseUnlessSlot cX4_refuseUnlessSlot 1 none :: ([.classLink RX4 165 "java/lang/IndexOutOfBoundsException", .initialized "java/lang/IndexOutOfBoundsException"] ++ (vx_atS RX4 169 "java/lang/IndexOutOfBoundsException" ["java/lang/RuntimeException", "java/lang/Exception"]).filter goodWord)
def wsX4_saveState_r1 : List Cond := [Cond.fieldLink RX4 33 "BackwardSearch" "slots" "[LBackwardSearch$State;", Cond.fieldLink RX4 10 "BackwardSearch" "state" "LBackwardSearch$State;", Cond.fieldLink RX4 37 "BackwardSearch" "saved" "[Z", Cond.methodLink RX4 202 yX4_refuseUnlessSlot, Cond.static yX4_refuseUnlessSlot, Cond.initialized RX4, Cond.code yX4_refuseUnlessSlot cX4_refuseUnlessSlot 1 none, Cond.classLink RX4 165 "java/lang/IndexOutOfBoundsException", Cond.initialized "java/lang/IndexOutOfBoundsException", Cond.methodLink RX4 205 yX3_copy, Cond.instanceMethod yX3_copy, Cond.selects RX3 yX3_copy yX3_copy, Cond.initialized RX3, Cond.code yX3_copy cX3_copy 2 none, Cond.fieldLink RX3 14 "BackwardSearch$State" "line" "LBackwardSearch$Row;", Cond.fieldLink RX3 20 "BackwardSearch$State" "word" "LBackwardSearch$Row;", Cond.fieldLink RX3 23 "BackwardSearch$State" "found" "LBackwardSearch$Row;", Cond.fieldLink RX3 26 "BackwardSearch$State" "letterRule" "Z", Cond.fieldLink RX3 30 "BackwardSearch$State" "endRule" "Z", Cond.fieldLink RX3 37 "BackwardSearch$State" "place" "I", Cond.fieldLink RX3 41 "BackwardSearch$State" "looks" "I", Cond.fieldLink RX3 44 "BackwardSearch$State" "compared" "I", Cond.methodLink RX3 33 yX2_copy, Cond.instanceMethod yX2_copy]
def wsX4_saveState_r2 : List Cond := [Cond.selects RX2 yX2_copy yX2_copy, Cond.initialized RX2, Cond.code yX2_copy cX2_copy 3 none, Cond.fieldLink RX2 21 "BackwardSearch$Row" "length" "I", Cond.fieldLink RX2 15 "BackwardSearch$Row" "numbers" "[I", Cond.methodLink RX2 29 yX2_clear, Cond.instanceMethod yX2_clear, Cond.selects RX2 yX2_clear yX2_clear, Cond.code yX2_clear cX2_clear 1 none, Cond.methodLink RX2 32 yX2_add, Cond.instanceMethod yX2_add, Cond.selects RX2 yX2_add yX2_add, Cond.code yX2_add cX2_add 2 none, Cond.methodLink RX4 67 yX2_size, Cond.instanceMethod yX2_size, Cond.selects RX2 yX2_size yX2_size, Cond.code yX2_size cX2_size 1 (some .int)]
def wsX4_saveState : List Cond := .code yX4_saveState cX4_saveState 2 (some .int) :: ((wsX4_saveState_r1 ++ wsX4_saveState_r2) ++ wsX40 ++ wsX30 ++ wsX20 ++ (vx_atS RX4 169 "java/lang/IndexOutOfBoundsException" ["java/lang/RuntimeException", "java/lang/Exception"]).filter goodWord)
def wsX4_loadState_r1 : List Cond := [Cond.classLink RX4 85 "java/lang/IllegalStateException", Cond.initialized "java/lang/IllegalStateException", Cond.fieldLink RX4 37 "BackwardSearch" "saved" "[Z", Cond.fieldLink RX4 29 "BackwardSearch" "history" "LBackwardSearch$History;", Cond.fieldLink RX4 10 "BackwardSearch" "state" "LBackwardSearch$State;", Cond.fieldLink RX4 33 "BackwardSearch" "slots" "[LBackwardSearch$State;", Cond.methodLink RX4 202 yX4_refuseUnlessSlot, Cond.static yX4_refuseUnlessSlot, Cond.initialized RX4, Cond.code yX4_refuseUnlessSlot cX4_refuseUnlessSlot 1 none, Cond.classLink RX4 165 "java/lang/IndexOutOfBoundsException", Cond.initialized "java/lang/IndexOutOfBoundsException", Cond.methodLink RX4 53 yX1_keep, Cond.instanceMethod yX1_keep, Cond.selects RX1 yX1_keep yX1_keep, Cond.initialized RX1, Cond.code yX1_keep cX1_keep 2 none, Cond.fieldLink RX1 11 "BackwardSearch$History" "kept" "[LBackwardSearch$State;", Cond.fieldLink RX1 22 "BackwardSearch$History" "next" "I", Cond.fieldLink RX1 18 "BackwardSearch$History" "count" "I", Cond.methodLink RX1 29 Lib.Math.min.name, Cond.static Lib.Math.min.name, Cond.initialized "java/lang/Math", Cond.code Lib.Math.min.name Lib.Math.min.code 2 (some .int)]
def wsX4_loadState_r2 : List Cond := [Cond.methodLink RX1 25 yX3_copy, Cond.instanceMethod yX3_copy, Cond.selects RX3 yX3_copy yX3_copy, Cond.initialized RX3, Cond.code yX3_copy cX3_copy 2 none, Cond.fieldLink RX3 14 "BackwardSearch$State" "line" "LBackwardSearch$Row;", Cond.fieldLink RX3 20 "BackwardSearch$State" "word" "LBackwardSearch$Row;", Cond.fieldLink RX3 23 "BackwardSearch$State" "found" "LBackwardSearch$Row;", Cond.fieldLink RX3 26 "BackwardSearch$State" "letterRule" "Z", Cond.fieldLink RX3 30 "BackwardSearch$State" "endRule" "Z", Cond.fieldLink RX3 37 "BackwardSearch$State" "place" "I", Cond.fieldLink RX3 41 "BackwardSearch$State" "looks" "I", Cond.fieldLink RX3 44 "BackwardSearch$State" "compared" "I", Cond.methodLink RX3 33 yX2_copy, Cond.instanceMethod yX2_copy, Cond.selects RX2 yX2_copy yX2_copy, Cond.initialized RX2, Cond.code yX2_copy cX2_copy 3 none, Cond.fieldLink RX2 21 "BackwardSearch$Row" "length" "I", Cond.fieldLink RX2 15 "BackwardSearch$Row" "numbers" "[I", Cond.methodLink RX2 29 yX2_clear, Cond.instanceMethod yX2_clear, Cond.selects RX2 yX2_clear yX2_clear, Cond.code yX2_clear cX2_clear 1 none]
def wsX4_loadState_r3 : List Cond := [Cond.methodLink RX2 32 yX2_add, Cond.instanceMethod yX2_add, Cond.selects RX2 yX2_add yX2_add, Cond.code yX2_add cX2_add 2 none, Cond.methodLink RX4 205 yX3_copy, Cond.methodLink RX4 67 yX2_size, Cond.instanceMethod yX2_size, Cond.selects RX2 yX2_size yX2_size, Cond.code yX2_size cX2_size 1 (some .int)]
def wsX4_loadState : List Cond := .code yX4_loadState cX4_loadState 2 (some .int) :: ((wsX4_loadState_r1 ++ (wsX4_loadState_r2 ++ wsX4_loadState_r3)) ++ wsX40 ++ wsX30 ++ wsX10 ++ wsX20 ++ (vx_atS RX4 89 "java/lang/IllegalStateException" ["java/lang/RuntimeException", "java/lang/Exception"]).filter goodWord ++ (vx_atS RX4 169 "java/lang/IndexOutOfBoundsException" ["java/lang/RuntimeException", "java/lang/Exception"]).filter goodWord)
def wsX5_init : List Cond := .code yX5_init cX5_init 1 none :: ([.methodLink RX5 1 objectInit, .instanceMethod objectInit, .code objectInit ⟨#[0xb1]⟩ 1 none, .arrayClass .int, .fieldLink RX5 7 "BackwardSearchModel" "all" "[I", .fieldLink RX5 13 "BackwardSearchModel" "history" "[I", .fieldLink RX5 16 "BackwardSearchModel" "slots" "[I", .fieldLink RX5 19 "BackwardSearchModel" "isSaved" "[I", .fieldLink RX5 22 "BackwardSearchModel" "text" "[I"] ++ wsX50)
def wsX5_thrown : List Cond := .code yX5_thrown cX5_thrown 1 (some .int) :: ([.fieldLink RX5 25 "BackwardSearchModel" "thrown" "I"] ++ wsX50)
def wsX5_fails : List Cond := .code yX5_fails cX5_fails 2 (some .int) :: ([.fieldLink RX5 25 "BackwardSearchModel" "thrown" "I"] ++ wsX50)
def wsX5_in : List Cond := .code yX5_in cX5_in 6 (some .boolean) :: ([])
def wsX5_changes : List Cond := .code yX5_changes cX5_changes 2 none :: ([.fieldLink RX5 25 "BackwardSearchModel" "thrown" "I", .fieldLink RX5 29 "BackwardSearchModel" "historyLong" "I", .fieldLink RX5 13 "BackwardSearchModel" "history" "[I", .fieldLink RX5 7 "BackwardSearchModel" "all" "[I"] ++ wsX50)
def wsX5_told : List Cond := .code yX5_told cX5_told 2 (some .int) :: ([.fieldLink RX5 25 "BackwardSearchModel" "thrown" "I"] ++ wsX50)
def wsX5_isLetter : List Cond := .code yX5_isLetter cX5_isLetter 1 (some .boolean) :: ([.constantLong RX5 32 (25), .methodLink RX5 34 yX5_in, .static yX5_in, .initialized RX5, .code yX5_in cX5_in 6 (some .boolean)])
def wsX5_isInWord : List Cond := .code yX5_isInWord cX5_isInWord 2 (some .boolean) :: ([.fieldLink RX5 7 "BackwardSearchModel" "all" "[I", .methodLink RX5 34 yX5_in, .static yX5_in, .initialized RX5, .code yX5_in cX5_in 6 (some .boolean)] ++ wsX50)
def wsX5_isInLine : List Cond := .code yX5_isInLine cX5_isInLine 2 (some .boolean) :: ([.fieldLink RX5 7 "BackwardSearchModel" "all" "[I", .methodLink RX5 34 yX5_in, .static yX5_in, .initialized RX5, .code yX5_in cX5_in 6 (some .boolean)] ++ wsX50)
def wsX5_lastOf : List Cond := .code yX5_lastOf cX5_lastOf 4 (some .int) :: ([.fieldLink RX5 7 "BackwardSearchModel" "all" "[I"] ++ wsX50)
def wsX5_fits : List Cond := .code yX5_fits cX5_fits 5 (some .boolean) :: ([.fieldLink RX5 7 "BackwardSearchModel" "all" "[I"] ++ wsX50)
def wsX5_endSkipOf : List Cond := .code yX5_endSkipOf cX5_endSkipOf 3 (some .int) :: ([.methodLink RX5 38 yX5_fits, .instanceMethod yX5_fits, .selects RX5 yX5_fits yX5_fits, .initialized RX5, .code yX5_fits cX5_fits 5 (some .boolean), .fieldLink RX5 7 "BackwardSearchModel" "all" "[I"] ++ wsX50)
def wsX5_periodNow : List Cond := .code yX5_periodNow cX5_periodNow 5 (some .int) :: ([.fieldLink RX5 7 "BackwardSearchModel" "all" "[I"] ++ wsX50)
def wsX5_difference : List Cond := .code yX5_difference cX5_difference 3 (some .int) :: ([.fieldLink RX5 7 "BackwardSearchModel" "all" "[I"] ++ wsX50)
def wsX5_skipBy : List Cond := .code yX5_skipBy cX5_skipBy 8 (some .int) :: ([.fieldLink RX5 7 "BackwardSearchModel" "all" "[I", .methodLink RX5 42 yX5_periodNow, .instanceMethod yX5_periodNow, .selects RX5 yX5_periodNow yX5_periodNow, .initialized RX5, .code yX5_periodNow cX5_periodNow 5 (some .int), .methodLink RX5 46 yX5_lastOf, .instanceMethod yX5_lastOf, .selects RX5 yX5_lastOf yX5_lastOf, .code yX5_lastOf cX5_lastOf 4 (some .int), .methodLink RX5 50 yX5_endSkipOf, .instanceMethod yX5_endSkipOf, .selects RX5 yX5_endSkipOf yX5_endSkipOf, .code yX5_endSkipOf cX5_endSkipOf 3 (some .int), .methodLink RX5 38 yX5_fits, .instanceMethod yX5_fits, .selects RX5 yX5_fits yX5_fits, .code yX5_fits cX5_fits 5 (some .boolean)] ++ wsX50)
def wsX5_isOverAt : List Cond := .code yX5_isOverAt cX5_isOverAt 2 (some .boolean) :: ([.fieldLink RX5 7 "BackwardSearchModel" "all" "[I"] ++ wsX50)
def wsX5_begins : List Cond := .code yX5_begins cX5_begins 2 none :: ([.fieldLink RX5 7 "BackwardSearchModel" "all" "[I"] ++ wsX50)
def wsX5_errorOfText : List Cond := .code yX5_errorOfText cX5_errorOfText 2 (some .int) :: ([.fieldLink RX5 56 "BackwardSearchModel" "textLong" "I", .fieldLink RX5 22 "BackwardSearchModel" "text" "[I", .constantLong RX5 110 (97), .constantLong RX5 112 (122), .methodLink RX5 34 yX5_in, .static yX5_in, .initialized RX5, .code yX5_in cX5_in 6 (some .boolean)] ++ wsX50)
def wsX5_canTake : List Cond := .code yX5_canTake cX5_canTake 2 (some .boolean) :: ([.fieldLink RX5 56 "BackwardSearchModel" "textLong" "I", .methodLink RX5 53 yX5_errorOfText, .instanceMethod yX5_errorOfText, .selects RX5 yX5_errorOfText yX5_errorOfText, .initialized RX5, .code yX5_errorOfText cX5_errorOfText 2 (some .int), .fieldLink RX5 22 "BackwardSearchModel" "text" "[I", .constantLong RX5 110 (97), .constantLong RX5 112 (122), .methodLink RX5 34 yX5_in, .static yX5_in, .code yX5_in cX5_in 6 (some .boolean)] ++ wsX50)
def wsX5_takes : List Cond := .code yX5_takes cX5_takes 4 (some .int) :: ([.fieldLink RX5 7 "BackwardSearchModel" "all" "[I", .fieldLink RX5 56 "BackwardSearchModel" "textLong" "I", .fieldLink RX5 22 "BackwardSearchModel" "text" "[I", .methodLink RX5 59 yX5_begins, .instanceMethod yX5_begins, .selects RX5 yX5_begins yX5_begins, .initialized RX5, .code yX5_begins cX5_begins 2 none] ++ wsX50)
def wsX5_takeLine_r1 : List Cond := [Cond.methodLink RX5 62 yX5_canTake, Cond.instanceMethod yX5_canTake, Cond.selects RX5 yX5_canTake yX5_canTake, Cond.initialized RX5, Cond.code yX5_canTake cX5_canTake 2 (some .boolean), Cond.fieldLink RX5 56 "BackwardSearchModel" "textLong" "I", Cond.methodLink RX5 53 yX5_errorOfText, Cond.instanceMethod yX5_errorOfText, Cond.selects RX5 yX5_errorOfText yX5_errorOfText, Cond.code yX5_errorOfText cX5_errorOfText 2 (some .int), Cond.fieldLink RX5 22 "BackwardSearchModel" "text" "[I", Cond.constantLong RX5 110 (97), Cond.constantLong RX5 112 (122), Cond.methodLink RX5 34 yX5_in, Cond.static yX5_in, Cond.code yX5_in cX5_in 6 (some .boolean), Cond.methodLink RX5 66 yX5_fails, Cond.instanceMethod yX5_fails, Cond.selects RX5 yX5_fails yX5_fails, Cond.code yX5_fails cX5_fails 2 (some .int), Cond.fieldLink RX5 25 "BackwardSearchModel" "thrown" "I", Cond.methodLink RX5 69 yX5_changes, Cond.instanceMethod yX5_changes, Cond.selects RX5 yX5_changes yX5_changes]
def wsX5_takeLine_r2 : List Cond := [Cond.code yX5_changes cX5_changes 2 none, Cond.fieldLink RX5 29 "BackwardSearchModel" "historyLong" "I", Cond.fieldLink RX5 13 "BackwardSearchModel" "history" "[I", Cond.fieldLink RX5 7 "BackwardSearchModel" "all" "[I", Cond.methodLink RX5 72 yX5_takes, Cond.instanceMethod yX5_takes, Cond.selects RX5 yX5_takes yX5_takes, Cond.code yX5_takes cX5_takes 4 (some .int), Cond.methodLink RX5 59 yX5_begins, Cond.instanceMethod yX5_begins, Cond.selects RX5 yX5_begins yX5_begins, Cond.code yX5_begins cX5_begins 2 none]
def wsX5_takeLine : List Cond := .code yX5_takeLine cX5_takeLine 1 (some .int) :: ((wsX5_takeLine_r1 ++ wsX5_takeLine_r2) ++ wsX50)
def wsX5_takeWord_r1 : List Cond := [Cond.methodLink RX5 62 yX5_canTake, Cond.instanceMethod yX5_canTake, Cond.selects RX5 yX5_canTake yX5_canTake, Cond.initialized RX5, Cond.code yX5_canTake cX5_canTake 2 (some .boolean), Cond.fieldLink RX5 56 "BackwardSearchModel" "textLong" "I", Cond.methodLink RX5 53 yX5_errorOfText, Cond.instanceMethod yX5_errorOfText, Cond.selects RX5 yX5_errorOfText yX5_errorOfText, Cond.code yX5_errorOfText cX5_errorOfText 2 (some .int), Cond.fieldLink RX5 22 "BackwardSearchModel" "text" "[I", Cond.constantLong RX5 110 (97), Cond.constantLong RX5 112 (122), Cond.methodLink RX5 34 yX5_in, Cond.static yX5_in, Cond.code yX5_in cX5_in 6 (some .boolean), Cond.methodLink RX5 66 yX5_fails, Cond.instanceMethod yX5_fails, Cond.selects RX5 yX5_fails yX5_fails, Cond.code yX5_fails cX5_fails 2 (some .int), Cond.fieldLink RX5 25 "BackwardSearchModel" "thrown" "I", Cond.methodLink RX5 69 yX5_changes, Cond.instanceMethod yX5_changes, Cond.selects RX5 yX5_changes yX5_changes]
def wsX5_takeWord_r2 : List Cond := [Cond.code yX5_changes cX5_changes 2 none, Cond.fieldLink RX5 29 "BackwardSearchModel" "historyLong" "I", Cond.fieldLink RX5 13 "BackwardSearchModel" "history" "[I", Cond.fieldLink RX5 7 "BackwardSearchModel" "all" "[I", Cond.methodLink RX5 72 yX5_takes, Cond.instanceMethod yX5_takes, Cond.selects RX5 yX5_takes yX5_takes, Cond.code yX5_takes cX5_takes 4 (some .int), Cond.methodLink RX5 59 yX5_begins, Cond.instanceMethod yX5_begins, Cond.selects RX5 yX5_begins yX5_begins, Cond.code yX5_begins cX5_begins 2 none]
def wsX5_takeWord : List Cond := .code yX5_takeWord cX5_takeWord 1 (some .int) :: ((wsX5_takeWord_r1 ++ wsX5_takeWord_r2) ++ wsX50)
def wsX5_setRules : List Cond := .code yX5_setRules cX5_setRules 4 (some .int) :: ([.fieldLink RX5 7 "BackwardSearchModel" "all" "[I", .methodLink RX5 69 yX5_changes, .instanceMethod yX5_changes, .selects RX5 yX5_changes yX5_changes, .initialized RX5, .code yX5_changes cX5_changes 2 none, .fieldLink RX5 25 "BackwardSearchModel" "thrown" "I", .fieldLink RX5 29 "BackwardSearchModel" "historyLong" "I", .fieldLink RX5 13 "BackwardSearchModel" "history" "[I", .methodLink RX5 59 yX5_begins, .instanceMethod yX5_begins, .selects RX5 yX5_begins yX5_begins, .code yX5_begins cX5_begins 2 none] ++ wsX50)
def wsX5_looks_r1 : List Cond := [Cond.fieldLink RX5 7 "BackwardSearchModel" "all" "[I", Cond.methodLink RX5 76 yX5_difference, Cond.instanceMethod yX5_difference, Cond.selects RX5 yX5_difference yX5_difference, Cond.initialized RX5, Cond.code yX5_difference cX5_difference 3 (some .int), Cond.methodLink RX5 79 yX5_skipBy, Cond.instanceMethod yX5_skipBy, Cond.selects RX5 yX5_skipBy yX5_skipBy, Cond.code yX5_skipBy cX5_skipBy 8 (some .int), Cond.methodLink RX5 42 yX5_periodNow, Cond.instanceMethod yX5_periodNow, Cond.selects RX5 yX5_periodNow yX5_periodNow, Cond.code yX5_periodNow cX5_periodNow 5 (some .int), Cond.methodLink RX5 46 yX5_lastOf, Cond.instanceMethod yX5_lastOf, Cond.selects RX5 yX5_lastOf yX5_lastOf, Cond.code yX5_lastOf cX5_lastOf 4 (some .int), Cond.methodLink RX5 50 yX5_endSkipOf, Cond.instanceMethod yX5_endSkipOf, Cond.selects RX5 yX5_endSkipOf yX5_endSkipOf, Cond.code yX5_endSkipOf cX5_endSkipOf 3 (some .int), Cond.methodLink RX5 38 yX5_fits, Cond.instanceMethod yX5_fits]
def wsX5_looks_r2 : List Cond := [Cond.selects RX5 yX5_fits yX5_fits, Cond.code yX5_fits cX5_fits 5 (some .boolean)]
def wsX5_looks : List Cond := .code yX5_looks cX5_looks 4 (some .int) :: ((wsX5_looks_r1 ++ wsX5_looks_r2) ++ wsX50)
def wsX5_look_r1 : List Cond := [Cond.fieldLink RX5 7 "BackwardSearchModel" "all" "[I", Cond.methodLink RX5 83 yX5_isOverAt, Cond.instanceMethod yX5_isOverAt, Cond.selects RX5 yX5_isOverAt yX5_isOverAt, Cond.initialized RX5, Cond.code yX5_isOverAt cX5_isOverAt 2 (some .boolean), Cond.methodLink RX5 66 yX5_fails, Cond.instanceMethod yX5_fails, Cond.selects RX5 yX5_fails yX5_fails, Cond.code yX5_fails cX5_fails 2 (some .int), Cond.fieldLink RX5 25 "BackwardSearchModel" "thrown" "I", Cond.methodLink RX5 69 yX5_changes, Cond.instanceMethod yX5_changes, Cond.selects RX5 yX5_changes yX5_changes, Cond.code yX5_changes cX5_changes 2 none, Cond.fieldLink RX5 29 "BackwardSearchModel" "historyLong" "I", Cond.fieldLink RX5 13 "BackwardSearchModel" "history" "[I", Cond.methodLink RX5 86 yX5_looks, Cond.instanceMethod yX5_looks, Cond.selects RX5 yX5_looks yX5_looks, Cond.code yX5_looks cX5_looks 4 (some .int), Cond.methodLink RX5 76 yX5_difference, Cond.instanceMethod yX5_difference, Cond.selects RX5 yX5_difference yX5_difference]
def wsX5_look_r2 : List Cond := [Cond.code yX5_difference cX5_difference 3 (some .int), Cond.methodLink RX5 79 yX5_skipBy, Cond.instanceMethod yX5_skipBy, Cond.selects RX5 yX5_skipBy yX5_skipBy, Cond.code yX5_skipBy cX5_skipBy 8 (some .int), Cond.methodLink RX5 42 yX5_periodNow, Cond.instanceMethod yX5_periodNow, Cond.selects RX5 yX5_periodNow yX5_periodNow, Cond.code yX5_periodNow cX5_periodNow 5 (some .int), Cond.methodLink RX5 46 yX5_lastOf, Cond.instanceMethod yX5_lastOf, Cond.selects RX5 yX5_lastOf yX5_lastOf, Cond.code yX5_lastOf cX5_lastOf 4 (some .int), Cond.methodLink RX5 50 yX5_endSkipOf, Cond.instanceMethod yX5_endSkipOf, Cond.selects RX5 yX5_endSkipOf yX5_endSkipOf, Cond.code yX5_endSkipOf cX5_endSkipOf 3 (some .int), Cond.methodLink RX5 38 yX5_fits, Cond.instanceMethod yX5_fits, Cond.selects RX5 yX5_fits yX5_fits, Cond.code yX5_fits cX5_fits 5 (some .boolean)]
def wsX5_look : List Cond := .code yX5_look cX5_look 1 (some .int) :: ((wsX5_look_r1 ++ wsX5_look_r2) ++ wsX50)
def wsX5_finish_r1 : List Cond := [Cond.fieldLink RX5 7 "BackwardSearchModel" "all" "[I", Cond.methodLink RX5 69 yX5_changes, Cond.instanceMethod yX5_changes, Cond.selects RX5 yX5_changes yX5_changes, Cond.initialized RX5, Cond.code yX5_changes cX5_changes 2 none, Cond.fieldLink RX5 25 "BackwardSearchModel" "thrown" "I", Cond.fieldLink RX5 29 "BackwardSearchModel" "historyLong" "I", Cond.fieldLink RX5 13 "BackwardSearchModel" "history" "[I", Cond.methodLink RX5 83 yX5_isOverAt, Cond.instanceMethod yX5_isOverAt, Cond.selects RX5 yX5_isOverAt yX5_isOverAt, Cond.code yX5_isOverAt cX5_isOverAt 2 (some .boolean), Cond.methodLink RX5 86 yX5_looks, Cond.instanceMethod yX5_looks, Cond.selects RX5 yX5_looks yX5_looks, Cond.code yX5_looks cX5_looks 4 (some .int), Cond.methodLink RX5 76 yX5_difference, Cond.instanceMethod yX5_difference, Cond.selects RX5 yX5_difference yX5_difference, Cond.code yX5_difference cX5_difference 3 (some .int), Cond.methodLink RX5 79 yX5_skipBy, Cond.instanceMethod yX5_skipBy, Cond.selects RX5 yX5_skipBy yX5_skipBy]
def wsX5_finish_r2 : List Cond := [Cond.code yX5_skipBy cX5_skipBy 8 (some .int), Cond.methodLink RX5 42 yX5_periodNow, Cond.instanceMethod yX5_periodNow, Cond.selects RX5 yX5_periodNow yX5_periodNow, Cond.code yX5_periodNow cX5_periodNow 5 (some .int), Cond.methodLink RX5 46 yX5_lastOf, Cond.instanceMethod yX5_lastOf, Cond.selects RX5 yX5_lastOf yX5_lastOf, Cond.code yX5_lastOf cX5_lastOf 4 (some .int), Cond.methodLink RX5 50 yX5_endSkipOf, Cond.instanceMethod yX5_endSkipOf, Cond.selects RX5 yX5_endSkipOf yX5_endSkipOf, Cond.code yX5_endSkipOf cX5_endSkipOf 3 (some .int), Cond.methodLink RX5 38 yX5_fits, Cond.instanceMethod yX5_fits, Cond.selects RX5 yX5_fits yX5_fits, Cond.code yX5_fits cX5_fits 5 (some .boolean)]
def wsX5_finish : List Cond := .code yX5_finish cX5_finish 3 (some .int) :: ((wsX5_finish_r1 ++ wsX5_finish_r2) ++ wsX50)
def wsX5_rewind : List Cond := .code yX5_rewind cX5_rewind 2 (some .int) :: ([.fieldLink RX5 7 "BackwardSearchModel" "all" "[I", .methodLink RX5 69 yX5_changes, .instanceMethod yX5_changes, .selects RX5 yX5_changes yX5_changes, .initialized RX5, .code yX5_changes cX5_changes 2 none, .fieldLink RX5 25 "BackwardSearchModel" "thrown" "I", .fieldLink RX5 29 "BackwardSearchModel" "historyLong" "I", .fieldLink RX5 13 "BackwardSearchModel" "history" "[I", .methodLink RX5 59 yX5_begins, .instanceMethod yX5_begins, .selects RX5 yX5_begins yX5_begins, .code yX5_begins cX5_begins 2 none] ++ wsX50)
def wsX5_setLetter_r1 : List Cond := [Cond.fieldLink RX5 7 "BackwardSearchModel" "all" "[I", Cond.methodLink RX5 89 yX5_isInLine, Cond.instanceMethod yX5_isInLine, Cond.selects RX5 yX5_isInLine yX5_isInLine, Cond.initialized RX5, Cond.code yX5_isInLine cX5_isInLine 2 (some .boolean), Cond.methodLink RX5 34 yX5_in, Cond.static yX5_in, Cond.code yX5_in cX5_in 6 (some .boolean), Cond.methodLink RX5 66 yX5_fails, Cond.instanceMethod yX5_fails, Cond.selects RX5 yX5_fails yX5_fails, Cond.code yX5_fails cX5_fails 2 (some .int), Cond.fieldLink RX5 25 "BackwardSearchModel" "thrown" "I", Cond.methodLink RX5 92 yX5_isLetter, Cond.static yX5_isLetter, Cond.code yX5_isLetter cX5_isLetter 1 (some .boolean), Cond.constantLong RX5 32 (25), Cond.methodLink RX5 69 yX5_changes, Cond.instanceMethod yX5_changes, Cond.selects RX5 yX5_changes yX5_changes, Cond.code yX5_changes cX5_changes 2 none, Cond.fieldLink RX5 29 "BackwardSearchModel" "historyLong" "I", Cond.fieldLink RX5 13 "BackwardSearchModel" "history" "[I"]
def wsX5_setLetter_r2 : List Cond := [Cond.methodLink RX5 59 yX5_begins, Cond.instanceMethod yX5_begins, Cond.selects RX5 yX5_begins yX5_begins, Cond.code yX5_begins cX5_begins 2 none]
def wsX5_setLetter : List Cond := .code yX5_setLetter cX5_setLetter 4 (some .int) :: ((wsX5_setLetter_r1 ++ wsX5_setLetter_r2) ++ wsX50)
def wsX5_lineLength : List Cond := .code yX5_lineLength cX5_lineLength 1 (some .int) :: ([.fieldLink RX5 7 "BackwardSearchModel" "all" "[I", .methodLink RX5 95 yX5_told, .instanceMethod yX5_told, .selects RX5 yX5_told yX5_told, .initialized RX5, .code yX5_told cX5_told 2 (some .int), .fieldLink RX5 25 "BackwardSearchModel" "thrown" "I"] ++ wsX50)
def wsX5_wordLength : List Cond := .code yX5_wordLength cX5_wordLength 1 (some .int) :: ([.fieldLink RX5 7 "BackwardSearchModel" "all" "[I", .methodLink RX5 95 yX5_told, .instanceMethod yX5_told, .selects RX5 yX5_told yX5_told, .initialized RX5, .code yX5_told cX5_told 2 (some .int), .fieldLink RX5 25 "BackwardSearchModel" "thrown" "I"] ++ wsX50)
def wsX5_lineLetter : List Cond := .code yX5_lineLetter cX5_lineLetter 2 (some .int) :: ([.fieldLink RX5 7 "BackwardSearchModel" "all" "[I", .methodLink RX5 89 yX5_isInLine, .instanceMethod yX5_isInLine, .selects RX5 yX5_isInLine yX5_isInLine, .initialized RX5, .code yX5_isInLine cX5_isInLine 2 (some .boolean), .methodLink RX5 34 yX5_in, .static yX5_in, .code yX5_in cX5_in 6 (some .boolean), .methodLink RX5 95 yX5_told, .instanceMethod yX5_told, .selects RX5 yX5_told yX5_told, .code yX5_told cX5_told 2 (some .int), .fieldLink RX5 25 "BackwardSearchModel" "thrown" "I", .methodLink RX5 66 yX5_fails, .instanceMethod yX5_fails, .selects RX5 yX5_fails yX5_fails, .code yX5_fails cX5_fails 2 (some .int)] ++ wsX50)
def wsX5_wordLetter : List Cond := .code yX5_wordLetter cX5_wordLetter 2 (some .int) :: ([.fieldLink RX5 7 "BackwardSearchModel" "all" "[I", .methodLink RX5 98 yX5_isInWord, .instanceMethod yX5_isInWord, .selects RX5 yX5_isInWord yX5_isInWord, .initialized RX5, .code yX5_isInWord cX5_isInWord 2 (some .boolean), .methodLink RX5 34 yX5_in, .static yX5_in, .code yX5_in cX5_in 6 (some .boolean), .methodLink RX5 95 yX5_told, .instanceMethod yX5_told, .selects RX5 yX5_told yX5_told, .code yX5_told cX5_told 2 (some .int), .fieldLink RX5 25 "BackwardSearchModel" "thrown" "I", .methodLink RX5 66 yX5_fails, .instanceMethod yX5_fails, .selects RX5 yX5_fails yX5_fails, .code yX5_fails cX5_fails 2 (some .int)] ++ wsX50)
def wsX5_place : List Cond := .code yX5_place cX5_place 1 (some .int) :: ([.fieldLink RX5 7 "BackwardSearchModel" "all" "[I", .methodLink RX5 95 yX5_told, .instanceMethod yX5_told, .selects RX5 yX5_told yX5_told, .initialized RX5, .code yX5_told cX5_told 2 (some .int), .fieldLink RX5 25 "BackwardSearchModel" "thrown" "I"] ++ wsX50)
def wsX5_isOver : List Cond := .code yX5_isOver cX5_isOver 1 (some .boolean) :: ([.fieldLink RX5 25 "BackwardSearchModel" "thrown" "I", .fieldLink RX5 7 "BackwardSearchModel" "all" "[I", .methodLink RX5 83 yX5_isOverAt, .instanceMethod yX5_isOverAt, .selects RX5 yX5_isOverAt yX5_isOverAt, .initialized RX5, .code yX5_isOverAt cX5_isOverAt 2 (some .boolean)] ++ wsX50)
def wsX5_lookCount : List Cond := .code yX5_lookCount cX5_lookCount 1 (some .int) :: ([.fieldLink RX5 7 "BackwardSearchModel" "all" "[I", .methodLink RX5 95 yX5_told, .instanceMethod yX5_told, .selects RX5 yX5_told yX5_told, .initialized RX5, .code yX5_told cX5_told 2 (some .int), .fieldLink RX5 25 "BackwardSearchModel" "thrown" "I"] ++ wsX50)
def wsX5_comparedCount : List Cond := .code yX5_comparedCount cX5_comparedCount 1 (some .int) :: ([.fieldLink RX5 7 "BackwardSearchModel" "all" "[I", .methodLink RX5 95 yX5_told, .instanceMethod yX5_told, .selects RX5 yX5_told yX5_told, .initialized RX5, .code yX5_told cX5_told 2 (some .int), .fieldLink RX5 25 "BackwardSearchModel" "thrown" "I"] ++ wsX50)
def wsX5_foundCount : List Cond := .code yX5_foundCount cX5_foundCount 1 (some .int) :: ([.fieldLink RX5 7 "BackwardSearchModel" "all" "[I", .methodLink RX5 95 yX5_told, .instanceMethod yX5_told, .selects RX5 yX5_told yX5_told, .initialized RX5, .code yX5_told cX5_told 2 (some .int), .fieldLink RX5 25 "BackwardSearchModel" "thrown" "I"] ++ wsX50)
def wsX5_foundPlace : List Cond := .code yX5_foundPlace cX5_foundPlace 2 (some .int) :: ([.fieldLink RX5 7 "BackwardSearchModel" "all" "[I", .methodLink RX5 34 yX5_in, .static yX5_in, .initialized RX5, .code yX5_in cX5_in 6 (some .boolean), .methodLink RX5 95 yX5_told, .instanceMethod yX5_told, .selects RX5 yX5_told yX5_told, .code yX5_told cX5_told 2 (some .int), .fieldLink RX5 25 "BackwardSearchModel" "thrown" "I", .methodLink RX5 66 yX5_fails, .instanceMethod yX5_fails, .selects RX5 yX5_fails yX5_fails, .code yX5_fails cX5_fails 2 (some .int)] ++ wsX50)
def wsX5_skippedPlaces : List Cond := .code yX5_skippedPlaces cX5_skippedPlaces 3 (some .int) :: ([.fieldLink RX5 7 "BackwardSearchModel" "all" "[I", .methodLink RX5 95 yX5_told, .instanceMethod yX5_told, .selects RX5 yX5_told yX5_told, .initialized RX5, .code yX5_told cX5_told 2 (some .int), .fieldLink RX5 25 "BackwardSearchModel" "thrown" "I"] ++ wsX50)
def wsX5_lastPlaceOf : List Cond := .code yX5_lastPlaceOf cX5_lastPlaceOf 2 (some .int) :: ([.methodLink RX5 92 yX5_isLetter, .static yX5_isLetter, .initialized RX5, .code yX5_isLetter cX5_isLetter 1 (some .boolean), .constantLong RX5 32 (25), .methodLink RX5 34 yX5_in, .static yX5_in, .code yX5_in cX5_in 6 (some .boolean), .methodLink RX5 46 yX5_lastOf, .instanceMethod yX5_lastOf, .selects RX5 yX5_lastOf yX5_lastOf, .code yX5_lastOf cX5_lastOf 4 (some .int), .fieldLink RX5 7 "BackwardSearchModel" "all" "[I", .methodLink RX5 95 yX5_told, .instanceMethod yX5_told, .selects RX5 yX5_told yX5_told, .code yX5_told cX5_told 2 (some .int), .fieldLink RX5 25 "BackwardSearchModel" "thrown" "I", .methodLink RX5 66 yX5_fails, .instanceMethod yX5_fails, .selects RX5 yX5_fails yX5_fails, .code yX5_fails cX5_fails 2 (some .int)] ++ wsX50)
def wsX5_letterSkip_r1 : List Cond := [Cond.methodLink RX5 98 yX5_isInWord, Cond.instanceMethod yX5_isInWord, Cond.selects RX5 yX5_isInWord yX5_isInWord, Cond.initialized RX5, Cond.code yX5_isInWord cX5_isInWord 2 (some .boolean), Cond.fieldLink RX5 7 "BackwardSearchModel" "all" "[I", Cond.methodLink RX5 34 yX5_in, Cond.static yX5_in, Cond.code yX5_in cX5_in 6 (some .boolean), Cond.methodLink RX5 66 yX5_fails, Cond.instanceMethod yX5_fails, Cond.selects RX5 yX5_fails yX5_fails, Cond.code yX5_fails cX5_fails 2 (some .int), Cond.fieldLink RX5 25 "BackwardSearchModel" "thrown" "I", Cond.methodLink RX5 92 yX5_isLetter, Cond.static yX5_isLetter, Cond.code yX5_isLetter cX5_isLetter 1 (some .boolean), Cond.constantLong RX5 32 (25), Cond.methodLink RX5 46 yX5_lastOf, Cond.instanceMethod yX5_lastOf, Cond.selects RX5 yX5_lastOf yX5_lastOf, Cond.code yX5_lastOf cX5_lastOf 4 (some .int), Cond.methodLink RX5 95 yX5_told, Cond.instanceMethod yX5_told]
def wsX5_letterSkip_r2 : List Cond := [Cond.selects RX5 yX5_told yX5_told, Cond.code yX5_told cX5_told 2 (some .int)]
def wsX5_letterSkip : List Cond := .code yX5_letterSkip cX5_letterSkip 3 (some .int) :: ((wsX5_letterSkip_r1 ++ wsX5_letterSkip_r2) ++ wsX50)
def wsX5_endSkip_r1 : List Cond := [Cond.methodLink RX5 98 yX5_isInWord, Cond.instanceMethod yX5_isInWord, Cond.selects RX5 yX5_isInWord yX5_isInWord, Cond.initialized RX5, Cond.code yX5_isInWord cX5_isInWord 2 (some .boolean), Cond.fieldLink RX5 7 "BackwardSearchModel" "all" "[I", Cond.methodLink RX5 34 yX5_in, Cond.static yX5_in, Cond.code yX5_in cX5_in 6 (some .boolean), Cond.methodLink RX5 50 yX5_endSkipOf, Cond.instanceMethod yX5_endSkipOf, Cond.selects RX5 yX5_endSkipOf yX5_endSkipOf, Cond.code yX5_endSkipOf cX5_endSkipOf 3 (some .int), Cond.methodLink RX5 38 yX5_fits, Cond.instanceMethod yX5_fits, Cond.selects RX5 yX5_fits yX5_fits, Cond.code yX5_fits cX5_fits 5 (some .boolean), Cond.methodLink RX5 95 yX5_told, Cond.instanceMethod yX5_told, Cond.selects RX5 yX5_told yX5_told, Cond.code yX5_told cX5_told 2 (some .int), Cond.fieldLink RX5 25 "BackwardSearchModel" "thrown" "I", Cond.methodLink RX5 66 yX5_fails, Cond.instanceMethod yX5_fails]
def wsX5_endSkip_r2 : List Cond := [Cond.selects RX5 yX5_fails yX5_fails, Cond.code yX5_fails cX5_fails 2 (some .int)]
def wsX5_endSkip : List Cond := .code yX5_endSkip cX5_endSkip 2 (some .int) :: ((wsX5_endSkip_r1 ++ wsX5_endSkip_r2) ++ wsX50)
def wsX5_endSkipByTrying_r1 : List Cond := [Cond.methodLink RX5 98 yX5_isInWord, Cond.instanceMethod yX5_isInWord, Cond.selects RX5 yX5_isInWord yX5_isInWord, Cond.initialized RX5, Cond.code yX5_isInWord cX5_isInWord 2 (some .boolean), Cond.fieldLink RX5 7 "BackwardSearchModel" "all" "[I", Cond.methodLink RX5 34 yX5_in, Cond.static yX5_in, Cond.code yX5_in cX5_in 6 (some .boolean), Cond.methodLink RX5 50 yX5_endSkipOf, Cond.instanceMethod yX5_endSkipOf, Cond.selects RX5 yX5_endSkipOf yX5_endSkipOf, Cond.code yX5_endSkipOf cX5_endSkipOf 3 (some .int), Cond.methodLink RX5 38 yX5_fits, Cond.instanceMethod yX5_fits, Cond.selects RX5 yX5_fits yX5_fits, Cond.code yX5_fits cX5_fits 5 (some .boolean), Cond.methodLink RX5 95 yX5_told, Cond.instanceMethod yX5_told, Cond.selects RX5 yX5_told yX5_told, Cond.code yX5_told cX5_told 2 (some .int), Cond.fieldLink RX5 25 "BackwardSearchModel" "thrown" "I", Cond.methodLink RX5 66 yX5_fails, Cond.instanceMethod yX5_fails]
def wsX5_endSkipByTrying_r2 : List Cond := [Cond.selects RX5 yX5_fails yX5_fails, Cond.code yX5_fails cX5_fails 2 (some .int)]
def wsX5_endSkipByTrying : List Cond := .code yX5_endSkipByTrying cX5_endSkipByTrying 2 (some .int) :: ((wsX5_endSkipByTrying_r1 ++ wsX5_endSkipByTrying_r2) ++ wsX50)
def wsX5_border : List Cond := .code yX5_border cX5_border 1 (some .int) :: ([.fieldLink RX5 7 "BackwardSearchModel" "all" "[I", .methodLink RX5 42 yX5_periodNow, .instanceMethod yX5_periodNow, .selects RX5 yX5_periodNow yX5_periodNow, .initialized RX5, .code yX5_periodNow cX5_periodNow 5 (some .int), .methodLink RX5 95 yX5_told, .instanceMethod yX5_told, .selects RX5 yX5_told yX5_told, .code yX5_told cX5_told 2 (some .int), .fieldLink RX5 25 "BackwardSearchModel" "thrown" "I"] ++ wsX50)
def wsX5_period : List Cond := .code yX5_period cX5_period 1 (some .int) :: ([.methodLink RX5 42 yX5_periodNow, .instanceMethod yX5_periodNow, .selects RX5 yX5_periodNow yX5_periodNow, .initialized RX5, .code yX5_periodNow cX5_periodNow 5 (some .int), .fieldLink RX5 7 "BackwardSearchModel" "all" "[I", .methodLink RX5 95 yX5_told, .instanceMethod yX5_told, .selects RX5 yX5_told yX5_told, .code yX5_told cX5_told 2 (some .int), .fieldLink RX5 25 "BackwardSearchModel" "thrown" "I"] ++ wsX50)
def wsX5_stands : List Cond := .code yX5_stands cX5_stands 3 (some .int) :: ([.methodLink RX5 83 yX5_isOverAt, .instanceMethod yX5_isOverAt, .selects RX5 yX5_isOverAt yX5_isOverAt, .initialized RX5, .code yX5_isOverAt cX5_isOverAt 2 (some .boolean), .fieldLink RX5 7 "BackwardSearchModel" "all" "[I", .methodLink RX5 76 yX5_difference, .instanceMethod yX5_difference, .selects RX5 yX5_difference yX5_difference, .code yX5_difference cX5_difference 3 (some .int)] ++ wsX50)
def wsX5_occurrences : List Cond := .code yX5_occurrences cX5_occurrences 1 (some .int) :: ([.methodLink RX5 101 yX5_stands, .instanceMethod yX5_stands, .selects RX5 yX5_stands yX5_stands, .initialized RX5, .code yX5_stands cX5_stands 3 (some .int), .methodLink RX5 83 yX5_isOverAt, .instanceMethod yX5_isOverAt, .selects RX5 yX5_isOverAt yX5_isOverAt, .code yX5_isOverAt cX5_isOverAt 2 (some .boolean), .fieldLink RX5 7 "BackwardSearchModel" "all" "[I", .methodLink RX5 76 yX5_difference, .instanceMethod yX5_difference, .selects RX5 yX5_difference yX5_difference, .code yX5_difference cX5_difference 3 (some .int), .methodLink RX5 95 yX5_told, .instanceMethod yX5_told, .selects RX5 yX5_told yX5_told, .code yX5_told cX5_told 2 (some .int), .fieldLink RX5 25 "BackwardSearchModel" "thrown" "I"] ++ wsX50)
def wsX5_occurrencesByTrying : List Cond := .code yX5_occurrencesByTrying cX5_occurrencesByTrying 1 (some .int) :: ([.methodLink RX5 101 yX5_stands, .instanceMethod yX5_stands, .selects RX5 yX5_stands yX5_stands, .initialized RX5, .code yX5_stands cX5_stands 3 (some .int), .methodLink RX5 83 yX5_isOverAt, .instanceMethod yX5_isOverAt, .selects RX5 yX5_isOverAt yX5_isOverAt, .code yX5_isOverAt cX5_isOverAt 2 (some .boolean), .fieldLink RX5 7 "BackwardSearchModel" "all" "[I", .methodLink RX5 76 yX5_difference, .instanceMethod yX5_difference, .selects RX5 yX5_difference yX5_difference, .code yX5_difference cX5_difference 3 (some .int), .methodLink RX5 95 yX5_told, .instanceMethod yX5_told, .selects RX5 yX5_told yX5_told, .code yX5_told cX5_told 2 (some .int), .fieldLink RX5 25 "BackwardSearchModel" "thrown" "I"] ++ wsX50)
def wsX5_comparedWith_r1 : List Cond := [Cond.fieldLink RX5 25 "BackwardSearchModel" "thrown" "I", Cond.fieldLink RX5 7 "BackwardSearchModel" "all" "[I", Cond.methodLink RX5 83 yX5_isOverAt, Cond.instanceMethod yX5_isOverAt, Cond.selects RX5 yX5_isOverAt yX5_isOverAt, Cond.initialized RX5, Cond.code yX5_isOverAt cX5_isOverAt 2 (some .boolean), Cond.methodLink RX5 76 yX5_difference, Cond.instanceMethod yX5_difference, Cond.selects RX5 yX5_difference yX5_difference, Cond.code yX5_difference cX5_difference 3 (some .int), Cond.methodLink RX5 79 yX5_skipBy, Cond.instanceMethod yX5_skipBy, Cond.selects RX5 yX5_skipBy yX5_skipBy, Cond.code yX5_skipBy cX5_skipBy 8 (some .int), Cond.methodLink RX5 42 yX5_periodNow, Cond.instanceMethod yX5_periodNow, Cond.selects RX5 yX5_periodNow yX5_periodNow, Cond.code yX5_periodNow cX5_periodNow 5 (some .int), Cond.methodLink RX5 46 yX5_lastOf, Cond.instanceMethod yX5_lastOf, Cond.selects RX5 yX5_lastOf yX5_lastOf, Cond.code yX5_lastOf cX5_lastOf 4 (some .int), Cond.methodLink RX5 50 yX5_endSkipOf]
def wsX5_comparedWith_r2 : List Cond := [Cond.instanceMethod yX5_endSkipOf, Cond.selects RX5 yX5_endSkipOf yX5_endSkipOf, Cond.code yX5_endSkipOf cX5_endSkipOf 3 (some .int), Cond.methodLink RX5 38 yX5_fits, Cond.instanceMethod yX5_fits, Cond.selects RX5 yX5_fits yX5_fits, Cond.code yX5_fits cX5_fits 5 (some .boolean)]
def wsX5_comparedWith : List Cond := .code yX5_comparedWith cX5_comparedWith 6 (some .int) :: ((wsX5_comparedWith_r1 ++ wsX5_comparedWith_r2) ++ wsX50)
def wsX5_differenceAt : List Cond := .code yX5_differenceAt cX5_differenceAt 2 (some .int) :: ([.fieldLink RX5 7 "BackwardSearchModel" "all" "[I", .methodLink RX5 66 yX5_fails, .instanceMethod yX5_fails, .selects RX5 yX5_fails yX5_fails, .initialized RX5, .code yX5_fails cX5_fails 2 (some .int), .fieldLink RX5 25 "BackwardSearchModel" "thrown" "I", .methodLink RX5 76 yX5_difference, .instanceMethod yX5_difference, .selects RX5 yX5_difference yX5_difference, .code yX5_difference cX5_difference 3 (some .int), .methodLink RX5 95 yX5_told, .instanceMethod yX5_told, .selects RX5 yX5_told yX5_told, .code yX5_told cX5_told 2 (some .int)] ++ wsX50)
def wsX5_appendText : List Cond := .code yX5_appendText cX5_appendText 9 (some .int) :: ([.constantLong RX5 104 (255), .constantLong RX5 106 (33), .constantLong RX5 108 (126), .fieldLink RX5 56 "BackwardSearchModel" "textLong" "I", .fieldLink RX5 25 "BackwardSearchModel" "thrown" "I", .fieldLink RX5 22 "BackwardSearchModel" "text" "[I", .methodLink RX5 34 yX5_in, .static yX5_in, .initialized RX5, .code yX5_in cX5_in 6 (some .boolean), .methodLink RX5 66 yX5_fails, .instanceMethod yX5_fails, .selects RX5 yX5_fails yX5_fails, .code yX5_fails cX5_fails 2 (some .int)] ++ wsX50)
def wsX5_clearText : List Cond := .code yX5_clearText cX5_clearText 2 (some .int) :: ([.fieldLink RX5 25 "BackwardSearchModel" "thrown" "I", .fieldLink RX5 56 "BackwardSearchModel" "textLong" "I"] ++ wsX50)
def wsX5_textLength : List Cond := .code yX5_textLength cX5_textLength 1 (some .int) :: ([.fieldLink RX5 56 "BackwardSearchModel" "textLong" "I", .methodLink RX5 95 yX5_told, .instanceMethod yX5_told, .selects RX5 yX5_told yX5_told, .initialized RX5, .code yX5_told cX5_told 2 (some .int), .fieldLink RX5 25 "BackwardSearchModel" "thrown" "I"] ++ wsX50)
def wsX5_textError : List Cond := .code yX5_textError cX5_textError 1 (some .int) :: ([.methodLink RX5 53 yX5_errorOfText, .instanceMethod yX5_errorOfText, .selects RX5 yX5_errorOfText yX5_errorOfText, .initialized RX5, .code yX5_errorOfText cX5_errorOfText 2 (some .int), .fieldLink RX5 56 "BackwardSearchModel" "textLong" "I", .fieldLink RX5 22 "BackwardSearchModel" "text" "[I", .constantLong RX5 110 (97), .constantLong RX5 112 (122), .methodLink RX5 34 yX5_in, .static yX5_in, .code yX5_in cX5_in 6 (some .boolean), .methodLink RX5 95 yX5_told, .instanceMethod yX5_told, .selects RX5 yX5_told yX5_told, .code yX5_told cX5_told 2 (some .int), .fieldLink RX5 25 "BackwardSearchModel" "thrown" "I"] ++ wsX50)
def wsX5_undo : List Cond := .code yX5_undo cX5_undo 2 (some .int) :: ([.fieldLink RX5 29 "BackwardSearchModel" "historyLong" "I", .fieldLink RX5 25 "BackwardSearchModel" "thrown" "I", .fieldLink RX5 7 "BackwardSearchModel" "all" "[I", .fieldLink RX5 13 "BackwardSearchModel" "history" "[I", .methodLink RX5 66 yX5_fails, .instanceMethod yX5_fails, .selects RX5 yX5_fails yX5_fails, .initialized RX5, .code yX5_fails cX5_fails 2 (some .int)] ++ wsX50)
def wsX5_undoCount : List Cond := .code yX5_undoCount cX5_undoCount 1 (some .int) :: ([.fieldLink RX5 29 "BackwardSearchModel" "historyLong" "I", .methodLink RX5 95 yX5_told, .instanceMethod yX5_told, .selects RX5 yX5_told yX5_told, .initialized RX5, .code yX5_told cX5_told 2 (some .int), .fieldLink RX5 25 "BackwardSearchModel" "thrown" "I"] ++ wsX50)
def wsX5_isSlot : List Cond := .code yX5_isSlot cX5_isSlot 1 (some .boolean) :: ([])
def wsX5_saveState : List Cond := .code yX5_saveState cX5_saveState 3 (some .int) :: ([.fieldLink RX5 16 "BackwardSearchModel" "slots" "[I", .fieldLink RX5 7 "BackwardSearchModel" "all" "[I", .fieldLink RX5 19 "BackwardSearchModel" "isSaved" "[I", .methodLink RX5 114 yX5_isSlot, .static yX5_isSlot, .initialized RX5, .code yX5_isSlot cX5_isSlot 1 (some .boolean), .methodLink RX5 66 yX5_fails, .instanceMethod yX5_fails, .selects RX5 yX5_fails yX5_fails, .code yX5_fails cX5_fails 2 (some .int), .fieldLink RX5 25 "BackwardSearchModel" "thrown" "I", .methodLink RX5 95 yX5_told, .instanceMethod yX5_told, .selects RX5 yX5_told yX5_told, .code yX5_told cX5_told 2 (some .int)] ++ wsX50)
def wsX5_loadState : List Cond := .code yX5_loadState cX5_loadState 3 (some .int) :: ([.fieldLink RX5 19 "BackwardSearchModel" "isSaved" "[I", .fieldLink RX5 7 "BackwardSearchModel" "all" "[I", .fieldLink RX5 16 "BackwardSearchModel" "slots" "[I", .methodLink RX5 114 yX5_isSlot, .static yX5_isSlot, .initialized RX5, .code yX5_isSlot cX5_isSlot 1 (some .boolean), .methodLink RX5 66 yX5_fails, .instanceMethod yX5_fails, .selects RX5 yX5_fails yX5_fails, .code yX5_fails cX5_fails 2 (some .int), .fieldLink RX5 25 "BackwardSearchModel" "thrown" "I", .methodLink RX5 69 yX5_changes, .instanceMethod yX5_changes, .selects RX5 yX5_changes yX5_changes, .code yX5_changes cX5_changes 2 none, .fieldLink RX5 29 "BackwardSearchModel" "historyLong" "I", .fieldLink RX5 13 "BackwardSearchModel" "history" "[I"] ++ wsX50)
def wsJ9_max_7cf53 : List Cond := .code yJ9_max_7cf53 cJ9_max_7cf53 2 (some .int) :: ([])
def wsJ9_min_7cf53 : List Cond := .code yJ9_min_7cf53 cJ9_min_7cf53 2 (some .int) :: ([])
def wsL_takeLine_r1 : List Cond := [Cond.classLink RL 13 "java/lang/IllegalStateException", Cond.methodLink RL 7 yX4_takeLine, Cond.instanceMethod yX4_takeLine, Cond.selects RX4 yX4_takeLine yX4_takeLine, Cond.initialized RX4, Cond.code yX4_takeLine cX4_takeLine 1 (some .int), Cond.fieldLink RX4 29 "BackwardSearch" "history" "LBackwardSearch$History;", Cond.fieldLink RX4 10 "BackwardSearch" "state" "LBackwardSearch$State;", Cond.methodLink RX4 50 yX4_refuseTextUnlessLetters, Cond.instanceMethod yX4_refuseTextUnlessLetters, Cond.selects RX4 yX4_refuseTextUnlessLetters yX4_refuseTextUnlessLetters, Cond.code yX4_refuseTextUnlessLetters cX4_refuseTextUnlessLetters 2 none, Cond.classLink RX4 85 "java/lang/IllegalStateException", Cond.initialized "java/lang/IllegalStateException", Cond.fieldLink RX4 46 "BackwardSearch" "text" "LBackwardSearch$Row;", Cond.methodLink RX4 219 yX4_textError, Cond.instanceMethod yX4_textError, Cond.selects RX4 yX4_textError yX4_textError, Cond.code yX4_textError cX4_textError 3 (some .int), Cond.methodLink RX4 67 yX2_size, Cond.instanceMethod yX2_size, Cond.selects RX2 yX2_size yX2_size, Cond.initialized RX2, Cond.code yX2_size cX2_size 1 (some .int)]
def wsL_takeLine_r2 : List Cond := [Cond.fieldLink RX2 21 "BackwardSearch$Row" "length" "I", Cond.methodLink RX4 113 yX2_at, Cond.instanceMethod yX2_at, Cond.selects RX2 yX2_at yX2_at, Cond.code yX2_at cX2_at 2 (some .int), Cond.fieldLink RX2 15 "BackwardSearch$Row" "numbers" "[I", Cond.methodLink RX2 25 yX2_has, Cond.instanceMethod yX2_has, Cond.selects RX2 yX2_has yX2_has, Cond.code yX2_has cX2_has 2 (some .boolean), Cond.methodLink RX4 53 yX1_keep, Cond.instanceMethod yX1_keep, Cond.selects RX1 yX1_keep yX1_keep, Cond.initialized RX1, Cond.code yX1_keep cX1_keep 2 none, Cond.fieldLink RX1 11 "BackwardSearch$History" "kept" "[LBackwardSearch$State;", Cond.fieldLink RX1 22 "BackwardSearch$History" "next" "I", Cond.fieldLink RX1 18 "BackwardSearch$History" "count" "I", Cond.methodLink RX1 29 Lib.Math.min.name, Cond.static Lib.Math.min.name, Cond.initialized "java/lang/Math", Cond.code Lib.Math.min.name Lib.Math.min.code 2 (some .int), Cond.methodLink RX1 25 yX3_copy, Cond.instanceMethod yX3_copy]
def wsL_takeLine_r3 : List Cond := [Cond.selects RX3 yX3_copy yX3_copy, Cond.initialized RX3, Cond.code yX3_copy cX3_copy 2 none, Cond.fieldLink RX3 14 "BackwardSearch$State" "line" "LBackwardSearch$Row;", Cond.fieldLink RX3 20 "BackwardSearch$State" "word" "LBackwardSearch$Row;", Cond.fieldLink RX3 23 "BackwardSearch$State" "found" "LBackwardSearch$Row;", Cond.fieldLink RX3 26 "BackwardSearch$State" "letterRule" "Z", Cond.fieldLink RX3 30 "BackwardSearch$State" "endRule" "Z", Cond.fieldLink RX3 37 "BackwardSearch$State" "place" "I", Cond.fieldLink RX3 41 "BackwardSearch$State" "looks" "I", Cond.fieldLink RX3 44 "BackwardSearch$State" "compared" "I", Cond.methodLink RX3 33 yX2_copy, Cond.instanceMethod yX2_copy, Cond.selects RX2 yX2_copy yX2_copy, Cond.code yX2_copy cX2_copy 3 none, Cond.methodLink RX2 29 yX2_clear, Cond.instanceMethod yX2_clear, Cond.selects RX2 yX2_clear yX2_clear, Cond.code yX2_clear cX2_clear 1 none, Cond.methodLink RX2 32 yX2_add, Cond.instanceMethod yX2_add, Cond.selects RX2 yX2_add yX2_add, Cond.code yX2_add cX2_add 2 none, Cond.methodLink RX4 60 yX4_moveText]
def wsL_takeLine_r4 : List Cond := [Cond.instanceMethod yX4_moveText, Cond.selects RX4 yX4_moveText yX4_moveText, Cond.code yX4_moveText cX4_moveText 3 none, Cond.methodLink RX4 193 yX2_clear, Cond.methodLink RX4 190 yX2_add, Cond.methodLink RX4 64 yX3_beginAnew, Cond.instanceMethod yX3_beginAnew, Cond.selects RX3 yX3_beginAnew yX3_beginAnew, Cond.code yX3_beginAnew cX3_beginAnew 1 none, Cond.methodLink RX3 47 yX2_clear]
def wsL_takeLine : List Cond := .codeWith yL_takeLine cL_takeLine 3 (some .int) [(0, 8, 11, 13)] :: ((wsL_takeLine_r1 ++ (wsL_takeLine_r2 ++ (wsL_takeLine_r3 ++ wsL_takeLine_r4))) ++ wsX40 ++ wsX30 ++ wsX20 ++ wsX10 ++ (vx_atS RX4 89 "java/lang/IllegalStateException" ["java/lang/RuntimeException", "java/lang/Exception"]).filter goodWord)
def wsL_takeWord_r1 : List Cond := [Cond.classLink RL 13 "java/lang/IllegalStateException", Cond.methodLink RL 15 yX4_takeWord, Cond.instanceMethod yX4_takeWord, Cond.selects RX4 yX4_takeWord yX4_takeWord, Cond.initialized RX4, Cond.code yX4_takeWord cX4_takeWord 1 (some .int), Cond.fieldLink RX4 29 "BackwardSearch" "history" "LBackwardSearch$History;", Cond.fieldLink RX4 10 "BackwardSearch" "state" "LBackwardSearch$State;", Cond.methodLink RX4 50 yX4_refuseTextUnlessLetters, Cond.instanceMethod yX4_refuseTextUnlessLetters, Cond.selects RX4 yX4_refuseTextUnlessLetters yX4_refuseTextUnlessLetters, Cond.code yX4_refuseTextUnlessLetters cX4_refuseTextUnlessLetters 2 none, Cond.classLink RX4 85 "java/lang/IllegalStateException", Cond.initialized "java/lang/IllegalStateException", Cond.fieldLink RX4 46 "BackwardSearch" "text" "LBackwardSearch$Row;", Cond.methodLink RX4 219 yX4_textError, Cond.instanceMethod yX4_textError, Cond.selects RX4 yX4_textError yX4_textError, Cond.code yX4_textError cX4_textError 3 (some .int), Cond.methodLink RX4 67 yX2_size, Cond.instanceMethod yX2_size, Cond.selects RX2 yX2_size yX2_size, Cond.initialized RX2, Cond.code yX2_size cX2_size 1 (some .int)]
def wsL_takeWord_r2 : List Cond := [Cond.fieldLink RX2 21 "BackwardSearch$Row" "length" "I", Cond.methodLink RX4 113 yX2_at, Cond.instanceMethod yX2_at, Cond.selects RX2 yX2_at yX2_at, Cond.code yX2_at cX2_at 2 (some .int), Cond.fieldLink RX2 15 "BackwardSearch$Row" "numbers" "[I", Cond.methodLink RX2 25 yX2_has, Cond.instanceMethod yX2_has, Cond.selects RX2 yX2_has yX2_has, Cond.code yX2_has cX2_has 2 (some .boolean), Cond.methodLink RX4 53 yX1_keep, Cond.instanceMethod yX1_keep, Cond.selects RX1 yX1_keep yX1_keep, Cond.initialized RX1, Cond.code yX1_keep cX1_keep 2 none, Cond.fieldLink RX1 11 "BackwardSearch$History" "kept" "[LBackwardSearch$State;", Cond.fieldLink RX1 22 "BackwardSearch$History" "next" "I", Cond.fieldLink RX1 18 "BackwardSearch$History" "count" "I", Cond.methodLink RX1 29 Lib.Math.min.name, Cond.static Lib.Math.min.name, Cond.initialized "java/lang/Math", Cond.code Lib.Math.min.name Lib.Math.min.code 2 (some .int), Cond.methodLink RX1 25 yX3_copy, Cond.instanceMethod yX3_copy]
def wsL_takeWord_r3 : List Cond := [Cond.selects RX3 yX3_copy yX3_copy, Cond.initialized RX3, Cond.code yX3_copy cX3_copy 2 none, Cond.fieldLink RX3 14 "BackwardSearch$State" "line" "LBackwardSearch$Row;", Cond.fieldLink RX3 20 "BackwardSearch$State" "word" "LBackwardSearch$Row;", Cond.fieldLink RX3 23 "BackwardSearch$State" "found" "LBackwardSearch$Row;", Cond.fieldLink RX3 26 "BackwardSearch$State" "letterRule" "Z", Cond.fieldLink RX3 30 "BackwardSearch$State" "endRule" "Z", Cond.fieldLink RX3 37 "BackwardSearch$State" "place" "I", Cond.fieldLink RX3 41 "BackwardSearch$State" "looks" "I", Cond.fieldLink RX3 44 "BackwardSearch$State" "compared" "I", Cond.methodLink RX3 33 yX2_copy, Cond.instanceMethod yX2_copy, Cond.selects RX2 yX2_copy yX2_copy, Cond.code yX2_copy cX2_copy 3 none, Cond.methodLink RX2 29 yX2_clear, Cond.instanceMethod yX2_clear, Cond.selects RX2 yX2_clear yX2_clear, Cond.code yX2_clear cX2_clear 1 none, Cond.methodLink RX2 32 yX2_add, Cond.instanceMethod yX2_add, Cond.selects RX2 yX2_add yX2_add, Cond.code yX2_add cX2_add 2 none, Cond.methodLink RX4 60 yX4_moveText]
def wsL_takeWord_r4 : List Cond := [Cond.instanceMethod yX4_moveText, Cond.selects RX4 yX4_moveText yX4_moveText, Cond.code yX4_moveText cX4_moveText 3 none, Cond.methodLink RX4 193 yX2_clear, Cond.methodLink RX4 190 yX2_add, Cond.methodLink RX4 64 yX3_beginAnew, Cond.instanceMethod yX3_beginAnew, Cond.selects RX3 yX3_beginAnew yX3_beginAnew, Cond.code yX3_beginAnew cX3_beginAnew 1 none, Cond.methodLink RX3 47 yX2_clear]
def wsL_takeWord : List Cond := .codeWith yL_takeWord cL_takeWord 3 (some .int) [(0, 8, 11, 13)] :: ((wsL_takeWord_r1 ++ (wsL_takeWord_r2 ++ (wsL_takeWord_r3 ++ wsL_takeWord_r4))) ++ wsX40 ++ wsX30 ++ wsX20 ++ wsX10 ++ (vx_atS RX4 89 "java/lang/IllegalStateException" ["java/lang/RuntimeException", "java/lang/Exception"]).filter goodWord)
def wsL_look_r1 : List Cond := [Cond.classLink RL 13 "java/lang/IllegalStateException", Cond.methodLink RL 18 yX4_look, Cond.instanceMethod yX4_look, Cond.selects RX4 yX4_look yX4_look, Cond.initialized RX4, Cond.code yX4_look cX4_look 1 (some .int), Cond.classLink RX4 85 "java/lang/IllegalStateException", Cond.initialized "java/lang/IllegalStateException", Cond.fieldLink RX4 10 "BackwardSearch" "state" "LBackwardSearch$State;", Cond.fieldLink RX4 29 "BackwardSearch" "history" "LBackwardSearch$History;", Cond.fieldLink RX4 22 "BackwardSearch" "ends" "LBackwardSearch$Ends;", Cond.methodLink RX4 81 yX3_hasEnded, Cond.instanceMethod yX3_hasEnded, Cond.selects RX3 yX3_hasEnded yX3_hasEnded, Cond.initialized RX3, Cond.code yX3_hasEnded cX3_hasEnded 1 (some .boolean), Cond.fieldLink RX3 20 "BackwardSearch$State" "word" "LBackwardSearch$Row;", Cond.fieldLink RX3 37 "BackwardSearch$State" "place" "I", Cond.methodLink RX3 60 yX2_isEmpty, Cond.instanceMethod yX2_isEmpty, Cond.selects RX2 yX2_isEmpty yX2_isEmpty, Cond.initialized RX2, Cond.code yX2_isEmpty cX2_isEmpty 1 (some .boolean), Cond.fieldLink RX2 21 "BackwardSearch$Row" "length" "I"]
def wsL_look_r2 : List Cond := [Cond.methodLink RX3 64 yX3_beginnings, Cond.instanceMethod yX3_beginnings, Cond.selects RX3 yX3_beginnings yX3_beginnings, Cond.code yX3_beginnings cX3_beginnings 1 (some .int), Cond.fieldLink RX3 14 "BackwardSearch$State" "line" "LBackwardSearch$Row;", Cond.methodLink RX3 54 Lib.Math.max.name, Cond.static Lib.Math.max.name, Cond.initialized "java/lang/Math", Cond.code Lib.Math.max.name Lib.Math.max.code 2 (some .int), Cond.methodLink RX3 50 yX2_size, Cond.instanceMethod yX2_size, Cond.selects RX2 yX2_size yX2_size, Cond.code yX2_size cX2_size 1 (some .int), Cond.methodLink RX4 53 yX1_keep, Cond.instanceMethod yX1_keep, Cond.selects RX1 yX1_keep yX1_keep, Cond.initialized RX1, Cond.code yX1_keep cX1_keep 2 none, Cond.fieldLink RX1 11 "BackwardSearch$History" "kept" "[LBackwardSearch$State;", Cond.fieldLink RX1 22 "BackwardSearch$History" "next" "I", Cond.fieldLink RX1 18 "BackwardSearch$History" "count" "I", Cond.methodLink RX1 29 Lib.Math.min.name, Cond.static Lib.Math.min.name, Cond.code Lib.Math.min.name Lib.Math.min.code 2 (some .int)]
def wsL_look_r3 : List Cond := [Cond.methodLink RX1 25 yX3_copy, Cond.instanceMethod yX3_copy, Cond.selects RX3 yX3_copy yX3_copy, Cond.code yX3_copy cX3_copy 2 none, Cond.fieldLink RX3 23 "BackwardSearch$State" "found" "LBackwardSearch$Row;", Cond.fieldLink RX3 26 "BackwardSearch$State" "letterRule" "Z", Cond.fieldLink RX3 30 "BackwardSearch$State" "endRule" "Z", Cond.fieldLink RX3 41 "BackwardSearch$State" "looks" "I", Cond.fieldLink RX3 44 "BackwardSearch$State" "compared" "I", Cond.methodLink RX3 33 yX2_copy, Cond.instanceMethod yX2_copy, Cond.selects RX2 yX2_copy yX2_copy, Cond.code yX2_copy cX2_copy 3 none, Cond.fieldLink RX2 15 "BackwardSearch$Row" "numbers" "[I", Cond.methodLink RX2 29 yX2_clear, Cond.instanceMethod yX2_clear, Cond.selects RX2 yX2_clear yX2_clear, Cond.code yX2_clear cX2_clear 1 none, Cond.methodLink RX2 32 yX2_add, Cond.instanceMethod yX2_add, Cond.selects RX2 yX2_add yX2_add, Cond.code yX2_add cX2_add 2 none, Cond.methodLink RX4 92 yX0_study, Cond.instanceMethod yX0_study]
def wsL_look_r4 : List Cond := [Cond.selects RX0 yX0_study yX0_study, Cond.initialized RX0, Cond.code yX0_study cX0_study 3 none, Cond.methodLink RX0 24 Lib.Math.min.name, Cond.fieldLink RX0 30 "BackwardSearch$Ends" "length" "I", Cond.fieldLink RX0 15 "BackwardSearch$Ends" "skipOf" "[I", Cond.methodLink RX0 18 yX2_size, Cond.methodLink RX0 34 yX0_findBorders, Cond.instanceMethod yX0_findBorders, Cond.selects RX0 yX0_findBorders yX0_findBorders, Cond.code yX0_findBorders cX0_findBorders 4 none, Cond.fieldLink RX0 9 "BackwardSearch$Ends" "borderOf" "[I", Cond.methodLink RX0 41 yX0_borderThatGrows, Cond.instanceMethod yX0_borderThatGrows, Cond.selects RX0 yX0_borderThatGrows yX0_borderThatGrows, Cond.code yX0_borderThatGrows cX0_borderThatGrows 6 (some .int), Cond.methodLink RX0 45 yX2_at, Cond.instanceMethod yX2_at, Cond.selects RX2 yX2_at yX2_at, Cond.code yX2_at cX2_at 2 (some .int), Cond.methodLink RX2 25 yX2_has, Cond.instanceMethod yX2_has, Cond.selects RX2 yX2_has yX2_has, Cond.code yX2_has cX2_has 2 (some .boolean)]
def wsL_look_r5 : List Cond := [Cond.methodLink RX0 38 yX0_skipToBordersOfTheWord, Cond.instanceMethod yX0_skipToBordersOfTheWord, Cond.selects RX0 yX0_skipToBordersOfTheWord yX0_skipToBordersOfTheWord, Cond.code yX0_skipToBordersOfTheWord cX0_skipToBordersOfTheWord 3 none, Cond.methodLink RX4 95 yX3_lookOnce, Cond.instanceMethod yX3_lookOnce, Cond.selects RX3 yX3_lookOnce yX3_lookOnce, Cond.code yX3_lookOnce cX3_lookOnce 4 (some .int), Cond.methodLink RX3 74 yX3_lastDifferenceAt, Cond.instanceMethod yX3_lastDifferenceAt, Cond.selects RX3 yX3_lastDifferenceAt yX3_lastDifferenceAt, Cond.code yX3_lastDifferenceAt cX3_lastDifferenceAt 3 (some .int), Cond.methodLink RX3 85 yX2_at, Cond.methodLink RX3 78 yX3_skipBehind, Cond.instanceMethod yX3_skipBehind, Cond.selects RX3 yX3_skipBehind yX3_skipBehind, Cond.code yX3_skipBehind cX3_skipBehind 4 (some .int), Cond.methodLink RX3 88 yX0_wordPeriod, Cond.instanceMethod yX0_wordPeriod, Cond.selects RX0 yX0_wordPeriod yX0_wordPeriod, Cond.code yX0_wordPeriod cX0_wordPeriod 1 (some .int), Cond.methodLink RX3 93 yX3_skipByLetter, Cond.instanceMethod yX3_skipByLetter, Cond.selects RX3 yX3_skipByLetter yX3_skipByLetter]
def wsL_look_r6 : List Cond := [Cond.code yX3_skipByLetter cX3_skipByLetter 3 (some .int), Cond.methodLink RX3 99 yX2_lastPlaceWith, Cond.instanceMethod yX2_lastPlaceWith, Cond.selects RX2 yX2_lastPlaceWith yX2_lastPlaceWith, Cond.code yX2_lastPlaceWith cX2_lastPlaceWith 3 (some .int), Cond.methodLink RX3 96 yX0_skipAt, Cond.instanceMethod yX0_skipAt, Cond.selects RX0 yX0_skipAt yX0_skipAt, Cond.code yX0_skipAt cX0_skipAt 2 (some .int), Cond.methodLink RX3 82 yX2_add]
def wsL_look : List Cond := .codeWith yL_look cL_look 3 (some .int) [(0, 8, 11, 13)] :: ((wsL_look_r1 ++ (wsL_look_r2 ++ (wsL_look_r3 ++ (wsL_look_r4 ++ (wsL_look_r5 ++ wsL_look_r6))))) ++ wsX40 ++ wsX30 ++ wsX20 ++ wsX10 ++ wsX00 ++ (vx_atS RX4 89 "java/lang/IllegalStateException" ["java/lang/RuntimeException", "java/lang/Exception"]).filter goodWord)
def wsL_setLetter_r1 : List Cond := [Cond.classLink RL 25 "java/lang/IndexOutOfBoundsException", Cond.classLink RL 27 "java/lang/IllegalArgumentException", Cond.methodLink RL 21 yX4_setLetter, Cond.instanceMethod yX4_setLetter, Cond.selects RX4 yX4_setLetter yX4_setLetter, Cond.initialized RX4, Cond.code yX4_setLetter cX4_setLetter 4 (some .int), Cond.fieldLink RX4 10 "BackwardSearch" "state" "LBackwardSearch$State;", Cond.fieldLink RX4 29 "BackwardSearch" "history" "LBackwardSearch$History;", Cond.methodLink RX4 106 yX4_refuseUnlessIn, Cond.static yX4_refuseUnlessIn, Cond.code yX4_refuseUnlessIn cX4_refuseUnlessIn 2 none, Cond.classLink RX4 165 "java/lang/IndexOutOfBoundsException", Cond.initialized "java/lang/IndexOutOfBoundsException", Cond.methodLink RX4 210 yX2_has, Cond.instanceMethod yX2_has, Cond.selects RX2 yX2_has yX2_has, Cond.initialized RX2, Cond.code yX2_has cX2_has 2 (some .boolean), Cond.fieldLink RX2 21 "BackwardSearch$Row" "length" "I", Cond.methodLink RX4 110 yX4_refuseUnlessLetter, Cond.static yX4_refuseUnlessLetter, Cond.code yX4_refuseUnlessLetter cX4_refuseUnlessLetter 1 none, Cond.classLink RX4 179 "java/lang/IllegalArgumentException"]
def wsL_setLetter_r2 : List Cond := [Cond.initialized "java/lang/IllegalArgumentException", Cond.methodLink RX4 53 yX1_keep, Cond.instanceMethod yX1_keep, Cond.selects RX1 yX1_keep yX1_keep, Cond.initialized RX1, Cond.code yX1_keep cX1_keep 2 none, Cond.fieldLink RX1 11 "BackwardSearch$History" "kept" "[LBackwardSearch$State;", Cond.fieldLink RX1 22 "BackwardSearch$History" "next" "I", Cond.fieldLink RX1 18 "BackwardSearch$History" "count" "I", Cond.methodLink RX1 29 Lib.Math.min.name, Cond.static Lib.Math.min.name, Cond.initialized "java/lang/Math", Cond.code Lib.Math.min.name Lib.Math.min.code 2 (some .int), Cond.methodLink RX1 25 yX3_copy, Cond.instanceMethod yX3_copy, Cond.selects RX3 yX3_copy yX3_copy, Cond.initialized RX3, Cond.code yX3_copy cX3_copy 2 none, Cond.fieldLink RX3 14 "BackwardSearch$State" "line" "LBackwardSearch$Row;", Cond.fieldLink RX3 20 "BackwardSearch$State" "word" "LBackwardSearch$Row;", Cond.fieldLink RX3 23 "BackwardSearch$State" "found" "LBackwardSearch$Row;", Cond.fieldLink RX3 26 "BackwardSearch$State" "letterRule" "Z", Cond.fieldLink RX3 30 "BackwardSearch$State" "endRule" "Z", Cond.fieldLink RX3 37 "BackwardSearch$State" "place" "I"]
def wsL_setLetter_r3 : List Cond := [Cond.fieldLink RX3 41 "BackwardSearch$State" "looks" "I", Cond.fieldLink RX3 44 "BackwardSearch$State" "compared" "I", Cond.methodLink RX3 33 yX2_copy, Cond.instanceMethod yX2_copy, Cond.selects RX2 yX2_copy yX2_copy, Cond.code yX2_copy cX2_copy 3 none, Cond.fieldLink RX2 15 "BackwardSearch$Row" "numbers" "[I", Cond.methodLink RX2 29 yX2_clear, Cond.instanceMethod yX2_clear, Cond.selects RX2 yX2_clear yX2_clear, Cond.code yX2_clear cX2_clear 1 none, Cond.methodLink RX2 32 yX2_add, Cond.instanceMethod yX2_add, Cond.selects RX2 yX2_add yX2_add, Cond.code yX2_add cX2_add 2 none, Cond.methodLink RX4 113 yX2_at, Cond.instanceMethod yX2_at, Cond.selects RX2 yX2_at yX2_at, Cond.code yX2_at cX2_at 2 (some .int), Cond.methodLink RX2 25 yX2_has, Cond.methodLink RX4 117 yX2_put, Cond.instanceMethod yX2_put, Cond.selects RX2 yX2_put yX2_put, Cond.code yX2_put cX2_put 3 none]
def wsL_setLetter_r4 : List Cond := [Cond.methodLink RX4 64 yX3_beginAnew, Cond.instanceMethod yX3_beginAnew, Cond.selects RX3 yX3_beginAnew yX3_beginAnew, Cond.code yX3_beginAnew cX3_beginAnew 1 none, Cond.methodLink RX3 47 yX2_clear]
def wsL_setLetter : List Cond := .codeWith yL_setLetter cL_setLetter 5 (some .int) [(0, 10, 13, 25), (0, 10, 17, 27)] :: ((wsL_setLetter_r1 ++ (wsL_setLetter_r2 ++ (wsL_setLetter_r3 ++ wsL_setLetter_r4))) ++ wsX40 ++ wsX30 ++ wsX20 ++ wsX10 ++ (vx_atS RX4 169 "java/lang/IndexOutOfBoundsException" ["java/lang/RuntimeException", "java/lang/Exception"]).filter goodWord ++ (vx_atS RX4 183 "java/lang/IllegalArgumentException" ["java/lang/RuntimeException", "java/lang/Exception"]).filter goodWord)
def wsL_lineLetter : List Cond := .codeWith yL_lineLetter cL_lineLetter 4 (some .int) [(0, 9, 12, 25)] :: ([.classLink RL 25 "java/lang/IndexOutOfBoundsException", .methodLink RL 29 yX4_lineLetter, .instanceMethod yX4_lineLetter, .selects RX4 yX4_lineLetter yX4_lineLetter, .initialized RX4, .code yX4_lineLetter cX4_lineLetter 2 (some .int), .fieldLink RX4 10 "BackwardSearch" "state" "LBackwardSearch$State;", .methodLink RX4 106 yX4_refuseUnlessIn, .static yX4_refuseUnlessIn, .code yX4_refuseUnlessIn cX4_refuseUnlessIn 2 none, .classLink RX4 165 "java/lang/IndexOutOfBoundsException", .initialized "java/lang/IndexOutOfBoundsException", .methodLink RX4 210 yX2_has, .instanceMethod yX2_has, .selects RX2 yX2_has yX2_has, .initialized RX2, .code yX2_has cX2_has 2 (some .boolean), .fieldLink RX2 21 "BackwardSearch$Row" "length" "I", .methodLink RX4 113 yX2_at, .instanceMethod yX2_at, .selects RX2 yX2_at yX2_at, .code yX2_at cX2_at 2 (some .int), .fieldLink RX2 15 "BackwardSearch$Row" "numbers" "[I", .methodLink RX2 25 yX2_has] ++ wsX40 ++ wsX30 ++ wsX20 ++ (vx_atS RX4 169 "java/lang/IndexOutOfBoundsException" ["java/lang/RuntimeException", "java/lang/Exception"]).filter goodWord)
def wsL_wordLetter : List Cond := .codeWith yL_wordLetter cL_wordLetter 4 (some .int) [(0, 9, 12, 25)] :: ([.classLink RL 25 "java/lang/IndexOutOfBoundsException", .methodLink RL 33 yX4_wordLetter, .instanceMethod yX4_wordLetter, .selects RX4 yX4_wordLetter yX4_wordLetter, .initialized RX4, .code yX4_wordLetter cX4_wordLetter 2 (some .int), .fieldLink RX4 10 "BackwardSearch" "state" "LBackwardSearch$State;", .methodLink RX4 106 yX4_refuseUnlessIn, .static yX4_refuseUnlessIn, .code yX4_refuseUnlessIn cX4_refuseUnlessIn 2 none, .classLink RX4 165 "java/lang/IndexOutOfBoundsException", .initialized "java/lang/IndexOutOfBoundsException", .methodLink RX4 210 yX2_has, .instanceMethod yX2_has, .selects RX2 yX2_has yX2_has, .initialized RX2, .code yX2_has cX2_has 2 (some .boolean), .fieldLink RX2 21 "BackwardSearch$Row" "length" "I", .methodLink RX4 113 yX2_at, .instanceMethod yX2_at, .selects RX2 yX2_at yX2_at, .code yX2_at cX2_at 2 (some .int), .fieldLink RX2 15 "BackwardSearch$Row" "numbers" "[I", .methodLink RX2 25 yX2_has] ++ wsX40 ++ wsX30 ++ wsX20 ++ (vx_atS RX4 169 "java/lang/IndexOutOfBoundsException" ["java/lang/RuntimeException", "java/lang/Exception"]).filter goodWord)
def wsL_foundPlace : List Cond := .codeWith yL_foundPlace cL_foundPlace 4 (some .int) [(0, 9, 12, 25)] :: ([.classLink RL 25 "java/lang/IndexOutOfBoundsException", .methodLink RL 36 yX4_foundPlace, .instanceMethod yX4_foundPlace, .selects RX4 yX4_foundPlace yX4_foundPlace, .initialized RX4, .code yX4_foundPlace cX4_foundPlace 2 (some .int), .fieldLink RX4 10 "BackwardSearch" "state" "LBackwardSearch$State;", .methodLink RX4 106 yX4_refuseUnlessIn, .static yX4_refuseUnlessIn, .code yX4_refuseUnlessIn cX4_refuseUnlessIn 2 none, .classLink RX4 165 "java/lang/IndexOutOfBoundsException", .initialized "java/lang/IndexOutOfBoundsException", .methodLink RX4 210 yX2_has, .instanceMethod yX2_has, .selects RX2 yX2_has yX2_has, .initialized RX2, .code yX2_has cX2_has 2 (some .boolean), .fieldLink RX2 21 "BackwardSearch$Row" "length" "I", .methodLink RX4 113 yX2_at, .instanceMethod yX2_at, .selects RX2 yX2_at yX2_at, .code yX2_at cX2_at 2 (some .int), .fieldLink RX2 15 "BackwardSearch$Row" "numbers" "[I", .methodLink RX2 25 yX2_has] ++ wsX40 ++ wsX30 ++ wsX20 ++ (vx_atS RX4 169 "java/lang/IndexOutOfBoundsException" ["java/lang/RuntimeException", "java/lang/Exception"]).filter goodWord)
def wsL_lastPlaceOf : List Cond := .codeWith yL_lastPlaceOf cL_lastPlaceOf 4 (some .int) [(0, 9, 12, 27)] :: ([.classLink RL 27 "java/lang/IllegalArgumentException", .methodLink RL 39 yX4_lastPlaceOf, .instanceMethod yX4_lastPlaceOf, .selects RX4 yX4_lastPlaceOf yX4_lastPlaceOf, .initialized RX4, .code yX4_lastPlaceOf cX4_lastPlaceOf 2 (some .int), .fieldLink RX4 10 "BackwardSearch" "state" "LBackwardSearch$State;", .methodLink RX4 110 yX4_refuseUnlessLetter, .static yX4_refuseUnlessLetter, .code yX4_refuseUnlessLetter cX4_refuseUnlessLetter 1 none, .classLink RX4 179 "java/lang/IllegalArgumentException", .initialized "java/lang/IllegalArgumentException", .methodLink RX4 139 yX2_lastPlaceWith, .instanceMethod yX2_lastPlaceWith, .selects RX2 yX2_lastPlaceWith yX2_lastPlaceWith, .initialized RX2, .code yX2_lastPlaceWith cX2_lastPlaceWith 3 (some .int), .fieldLink RX2 21 "BackwardSearch$Row" "length" "I", .fieldLink RX2 15 "BackwardSearch$Row" "numbers" "[I"] ++ wsX40 ++ wsX30 ++ wsX20 ++ (vx_atS RX4 183 "java/lang/IllegalArgumentException" ["java/lang/RuntimeException", "java/lang/Exception"]).filter goodWord)
def wsL_letterSkip_r1 : List Cond := [Cond.classLink RL 25 "java/lang/IndexOutOfBoundsException", Cond.classLink RL 27 "java/lang/IllegalArgumentException", Cond.methodLink RL 42 yX4_letterSkip, Cond.instanceMethod yX4_letterSkip, Cond.selects RX4 yX4_letterSkip yX4_letterSkip, Cond.initialized RX4, Cond.code yX4_letterSkip cX4_letterSkip 3 (some .int), Cond.fieldLink RX4 10 "BackwardSearch" "state" "LBackwardSearch$State;", Cond.methodLink RX4 106 yX4_refuseUnlessIn, Cond.static yX4_refuseUnlessIn, Cond.code yX4_refuseUnlessIn cX4_refuseUnlessIn 2 none, Cond.classLink RX4 165 "java/lang/IndexOutOfBoundsException", Cond.initialized "java/lang/IndexOutOfBoundsException", Cond.methodLink RX4 210 yX2_has, Cond.instanceMethod yX2_has, Cond.selects RX2 yX2_has yX2_has, Cond.initialized RX2, Cond.code yX2_has cX2_has 2 (some .boolean), Cond.fieldLink RX2 21 "BackwardSearch$Row" "length" "I", Cond.methodLink RX4 110 yX4_refuseUnlessLetter, Cond.static yX4_refuseUnlessLetter, Cond.code yX4_refuseUnlessLetter cX4_refuseUnlessLetter 1 none, Cond.classLink RX4 179 "java/lang/IllegalArgumentException", Cond.initialized "java/lang/IllegalArgumentException"]
def wsL_letterSkip_r2 : List Cond := [Cond.methodLink RX4 142 yX3_skipByLetter, Cond.instanceMethod yX3_skipByLetter, Cond.selects RX3 yX3_skipByLetter yX3_skipByLetter, Cond.initialized RX3, Cond.code yX3_skipByLetter cX3_skipByLetter 3 (some .int), Cond.fieldLink RX3 20 "BackwardSearch$State" "word" "LBackwardSearch$Row;", Cond.methodLink RX3 99 yX2_lastPlaceWith, Cond.instanceMethod yX2_lastPlaceWith, Cond.selects RX2 yX2_lastPlaceWith yX2_lastPlaceWith, Cond.code yX2_lastPlaceWith cX2_lastPlaceWith 3 (some .int), Cond.fieldLink RX2 15 "BackwardSearch$Row" "numbers" "[I"]
def wsL_letterSkip : List Cond := .codeWith yL_letterSkip cL_letterSkip 5 (some .int) [(0, 10, 13, 25), (0, 10, 17, 27)] :: ((wsL_letterSkip_r1 ++ wsL_letterSkip_r2) ++ wsX40 ++ wsX30 ++ wsX20 ++ (vx_atS RX4 169 "java/lang/IndexOutOfBoundsException" ["java/lang/RuntimeException", "java/lang/Exception"]).filter goodWord ++ (vx_atS RX4 183 "java/lang/IllegalArgumentException" ["java/lang/RuntimeException", "java/lang/Exception"]).filter goodWord)
def wsL_endSkip_r1 : List Cond := [Cond.classLink RL 25 "java/lang/IndexOutOfBoundsException", Cond.methodLink RL 45 yX4_endSkip, Cond.instanceMethod yX4_endSkip, Cond.selects RX4 yX4_endSkip yX4_endSkip, Cond.initialized RX4, Cond.code yX4_endSkip cX4_endSkip 2 (some .int), Cond.fieldLink RX4 10 "BackwardSearch" "state" "LBackwardSearch$State;", Cond.fieldLink RX4 22 "BackwardSearch" "ends" "LBackwardSearch$Ends;", Cond.methodLink RX4 106 yX4_refuseUnlessIn, Cond.static yX4_refuseUnlessIn, Cond.code yX4_refuseUnlessIn cX4_refuseUnlessIn 2 none, Cond.classLink RX4 165 "java/lang/IndexOutOfBoundsException", Cond.initialized "java/lang/IndexOutOfBoundsException", Cond.methodLink RX4 210 yX2_has, Cond.instanceMethod yX2_has, Cond.selects RX2 yX2_has yX2_has, Cond.initialized RX2, Cond.code yX2_has cX2_has 2 (some .boolean), Cond.fieldLink RX2 21 "BackwardSearch$Row" "length" "I", Cond.methodLink RX4 92 yX0_study, Cond.instanceMethod yX0_study, Cond.selects RX0 yX0_study yX0_study, Cond.initialized RX0, Cond.code yX0_study cX0_study 3 none]
def wsL_endSkip_r2 : List Cond := [Cond.methodLink RX0 24 Lib.Math.min.name, Cond.static Lib.Math.min.name, Cond.initialized "java/lang/Math", Cond.code Lib.Math.min.name Lib.Math.min.code 2 (some .int), Cond.fieldLink RX0 30 "BackwardSearch$Ends" "length" "I", Cond.fieldLink RX0 15 "BackwardSearch$Ends" "skipOf" "[I", Cond.methodLink RX0 18 yX2_size, Cond.instanceMethod yX2_size, Cond.selects RX2 yX2_size yX2_size, Cond.code yX2_size cX2_size 1 (some .int), Cond.methodLink RX0 34 yX0_findBorders, Cond.instanceMethod yX0_findBorders, Cond.selects RX0 yX0_findBorders yX0_findBorders, Cond.code yX0_findBorders cX0_findBorders 4 none, Cond.fieldLink RX0 9 "BackwardSearch$Ends" "borderOf" "[I", Cond.methodLink RX0 41 yX0_borderThatGrows, Cond.instanceMethod yX0_borderThatGrows, Cond.selects RX0 yX0_borderThatGrows yX0_borderThatGrows, Cond.code yX0_borderThatGrows cX0_borderThatGrows 6 (some .int), Cond.methodLink RX0 45 yX2_at, Cond.instanceMethod yX2_at, Cond.selects RX2 yX2_at yX2_at, Cond.code yX2_at cX2_at 2 (some .int), Cond.fieldLink RX2 15 "BackwardSearch$Row" "numbers" "[I"]
def wsL_endSkip_r3 : List Cond := [Cond.methodLink RX2 25 yX2_has, Cond.methodLink RX0 38 yX0_skipToBordersOfTheWord, Cond.instanceMethod yX0_skipToBordersOfTheWord, Cond.selects RX0 yX0_skipToBordersOfTheWord yX0_skipToBordersOfTheWord, Cond.code yX0_skipToBordersOfTheWord cX0_skipToBordersOfTheWord 3 none, Cond.methodLink RX4 145 yX0_skipAt, Cond.instanceMethod yX0_skipAt, Cond.selects RX0 yX0_skipAt yX0_skipAt, Cond.code yX0_skipAt cX0_skipAt 2 (some .int)]
def wsL_endSkip : List Cond := .codeWith yL_endSkip cL_endSkip 4 (some .int) [(0, 9, 12, 25)] :: ((wsL_endSkip_r1 ++ (wsL_endSkip_r2 ++ wsL_endSkip_r3)) ++ wsX40 ++ wsX30 ++ wsX20 ++ wsX00 ++ (vx_atS RX4 169 "java/lang/IndexOutOfBoundsException" ["java/lang/RuntimeException", "java/lang/Exception"]).filter goodWord)
def wsL_endSkipByTrying_r1 : List Cond := [Cond.classLink RL 25 "java/lang/IndexOutOfBoundsException", Cond.methodLink RL 48 yX4_endSkipByTrying, Cond.instanceMethod yX4_endSkipByTrying, Cond.selects RX4 yX4_endSkipByTrying yX4_endSkipByTrying, Cond.initialized RX4, Cond.code yX4_endSkipByTrying cX4_endSkipByTrying 4 (some .int), Cond.fieldLink RX4 10 "BackwardSearch" "state" "LBackwardSearch$State;", Cond.methodLink RX4 106 yX4_refuseUnlessIn, Cond.static yX4_refuseUnlessIn, Cond.code yX4_refuseUnlessIn cX4_refuseUnlessIn 2 none, Cond.classLink RX4 165 "java/lang/IndexOutOfBoundsException", Cond.initialized "java/lang/IndexOutOfBoundsException", Cond.methodLink RX4 210 yX2_has, Cond.instanceMethod yX2_has, Cond.selects RX2 yX2_has yX2_has, Cond.initialized RX2, Cond.code yX2_has cX2_has 2 (some .boolean), Cond.fieldLink RX2 21 "BackwardSearch$Row" "length" "I", Cond.methodLink RX4 67 yX2_size, Cond.instanceMethod yX2_size, Cond.selects RX2 yX2_size yX2_size, Cond.code yX2_size cX2_size 1 (some .int), Cond.methodLink RX4 148 yX4_endFits, Cond.static yX4_endFits]
def wsL_endSkipByTrying_r2 : List Cond := [Cond.code yX4_endFits cX4_endFits 4 (some .boolean), Cond.methodLink RX4 232 Lib.Math.max.name, Cond.static Lib.Math.max.name, Cond.initialized "java/lang/Math", Cond.code Lib.Math.max.name Lib.Math.max.code 2 (some .int), Cond.methodLink RX4 113 yX2_at, Cond.instanceMethod yX2_at, Cond.selects RX2 yX2_at yX2_at, Cond.code yX2_at cX2_at 2 (some .int), Cond.fieldLink RX2 15 "BackwardSearch$Row" "numbers" "[I", Cond.methodLink RX2 25 yX2_has]
def wsL_endSkipByTrying : List Cond := .codeWith yL_endSkipByTrying cL_endSkipByTrying 4 (some .int) [(0, 9, 12, 25)] :: ((wsL_endSkipByTrying_r1 ++ wsL_endSkipByTrying_r2) ++ wsX40 ++ wsX30 ++ wsX20 ++ (vx_atS RX4 169 "java/lang/IndexOutOfBoundsException" ["java/lang/RuntimeException", "java/lang/Exception"]).filter goodWord)
def wsL_differenceAt_r1 : List Cond := [Cond.classLink RL 25 "java/lang/IndexOutOfBoundsException", Cond.classLink RL 13 "java/lang/IllegalStateException", Cond.methodLink RL 51 yX4_differenceAt, Cond.instanceMethod yX4_differenceAt, Cond.selects RX4 yX4_differenceAt yX4_differenceAt, Cond.initialized RX4, Cond.code yX4_differenceAt cX4_differenceAt 2 (some .int), Cond.classLink RX4 165 "java/lang/IndexOutOfBoundsException", Cond.initialized "java/lang/IndexOutOfBoundsException", Cond.classLink RX4 85 "java/lang/IllegalStateException", Cond.initialized "java/lang/IllegalStateException", Cond.fieldLink RX4 10 "BackwardSearch" "state" "LBackwardSearch$State;", Cond.methodLink RX4 130 yX3_beginnings, Cond.instanceMethod yX3_beginnings, Cond.selects RX3 yX3_beginnings yX3_beginnings, Cond.initialized RX3, Cond.code yX3_beginnings cX3_beginnings 1 (some .int), Cond.fieldLink RX3 14 "BackwardSearch$State" "line" "LBackwardSearch$Row;", Cond.fieldLink RX3 20 "BackwardSearch$State" "word" "LBackwardSearch$Row;", Cond.methodLink RX3 54 Lib.Math.max.name, Cond.static Lib.Math.max.name, Cond.initialized "java/lang/Math", Cond.code Lib.Math.max.name Lib.Math.max.code 2 (some .int), Cond.methodLink RX3 50 yX2_size]
def wsL_differenceAt_r2 : List Cond := [Cond.instanceMethod yX2_size, Cond.selects RX2 yX2_size yX2_size, Cond.initialized RX2, Cond.code yX2_size cX2_size 1 (some .int), Cond.fieldLink RX2 21 "BackwardSearch$Row" "length" "I", Cond.methodLink RX4 158 yX2_isEmpty, Cond.instanceMethod yX2_isEmpty, Cond.selects RX2 yX2_isEmpty yX2_isEmpty, Cond.code yX2_isEmpty cX2_isEmpty 1 (some .boolean), Cond.methodLink RX4 172 yX3_lastDifferenceAt, Cond.instanceMethod yX3_lastDifferenceAt, Cond.selects RX3 yX3_lastDifferenceAt yX3_lastDifferenceAt, Cond.code yX3_lastDifferenceAt cX3_lastDifferenceAt 3 (some .int), Cond.methodLink RX3 85 yX2_at, Cond.instanceMethod yX2_at, Cond.selects RX2 yX2_at yX2_at, Cond.code yX2_at cX2_at 2 (some .int), Cond.fieldLink RX2 15 "BackwardSearch$Row" "numbers" "[I", Cond.methodLink RX2 25 yX2_has, Cond.instanceMethod yX2_has, Cond.selects RX2 yX2_has yX2_has, Cond.code yX2_has cX2_has 2 (some .boolean)]
def wsL_differenceAt : List Cond := .codeWith yL_differenceAt cL_differenceAt 4 (some .int) [(0, 9, 12, 25), (0, 9, 15, 13)] :: ((wsL_differenceAt_r1 ++ wsL_differenceAt_r2) ++ wsX40 ++ wsX30 ++ wsX20 ++ (vx_atS RX4 169 "java/lang/IndexOutOfBoundsException" ["java/lang/RuntimeException", "java/lang/Exception"]).filter goodWord ++ (vx_atS RX4 89 "java/lang/IllegalStateException" ["java/lang/RuntimeException", "java/lang/Exception"]).filter goodWord)
def wsL_appendText_r1 : List Cond := [Cond.classLink RL 27 "java/lang/IllegalArgumentException", Cond.classLink RL 13 "java/lang/IllegalStateException", Cond.methodLink RL 54 yX4_appendText, Cond.instanceMethod yX4_appendText, Cond.selects RX4 yX4_appendText yX4_appendText, Cond.initialized RX4, Cond.code yX4_appendText cX4_appendText 5 (some .int), Cond.classLink RX4 179 "java/lang/IllegalArgumentException", Cond.initialized "java/lang/IllegalArgumentException", Cond.classLink RX4 85 "java/lang/IllegalStateException", Cond.initialized "java/lang/IllegalStateException", Cond.fieldLink RX4 46 "BackwardSearch" "text" "LBackwardSearch$Row;", Cond.methodLink RX4 175 yX4_countCharacters, Cond.static yX4_countCharacters, Cond.code yX4_countCharacters cX4_countCharacters 4 (some .int), Cond.methodLink RX4 186 yX4_codeOf, Cond.static yX4_codeOf, Cond.code yX4_codeOf cX4_codeOf 3 (some .int), Cond.constantLong RX4 226 (255), Cond.methodLink RX4 228 yX4_isZeroFrom, Cond.static yX4_isZeroFrom, Cond.code yX4_isZeroFrom cX4_isZeroFrom 3 (some .boolean), Cond.methodLink RX4 67 yX2_size, Cond.instanceMethod yX2_size]
def wsL_appendText_r2 : List Cond := [Cond.selects RX2 yX2_size yX2_size, Cond.initialized RX2, Cond.code yX2_size cX2_size 1 (some .int), Cond.fieldLink RX2 21 "BackwardSearch$Row" "length" "I", Cond.methodLink RX4 190 yX2_add, Cond.instanceMethod yX2_add, Cond.selects RX2 yX2_add yX2_add, Cond.code yX2_add cX2_add 2 none, Cond.fieldLink RX2 15 "BackwardSearch$Row" "numbers" "[I"]
def wsL_appendText : List Cond := .codeWith yL_appendText cL_appendText 5 (some .int) [(0, 9, 12, 27), (0, 9, 16, 13)] :: ((wsL_appendText_r1 ++ wsL_appendText_r2) ++ wsX40 ++ wsX20 ++ (vx_atS RX4 183 "java/lang/IllegalArgumentException" ["java/lang/RuntimeException", "java/lang/Exception"]).filter goodWord ++ (vx_atS RX4 89 "java/lang/IllegalStateException" ["java/lang/RuntimeException", "java/lang/Exception"]).filter goodWord)
def wsL_undo_r1 : List Cond := [Cond.classLink RL 13 "java/lang/IllegalStateException", Cond.methodLink RL 58 yX4_undo, Cond.instanceMethod yX4_undo, Cond.selects RX4 yX4_undo yX4_undo, Cond.initialized RX4, Cond.code yX4_undo cX4_undo 1 (some .int), Cond.classLink RX4 85 "java/lang/IllegalStateException", Cond.initialized "java/lang/IllegalStateException", Cond.fieldLink RX4 29 "BackwardSearch" "history" "LBackwardSearch$History;", Cond.fieldLink RX4 10 "BackwardSearch" "state" "LBackwardSearch$State;", Cond.methodLink RX4 196 yX1_size, Cond.instanceMethod yX1_size, Cond.selects RX1 yX1_size yX1_size, Cond.initialized RX1, Cond.code yX1_size cX1_size 1 (some .int), Cond.fieldLink RX1 18 "BackwardSearch$History" "count" "I", Cond.methodLink RX4 199 yX1_giveBack, Cond.instanceMethod yX1_giveBack, Cond.selects RX1 yX1_giveBack yX1_giveBack, Cond.code yX1_giveBack cX1_giveBack 2 none, Cond.fieldLink RX1 22 "BackwardSearch$History" "next" "I", Cond.fieldLink RX1 11 "BackwardSearch$History" "kept" "[LBackwardSearch$State;", Cond.methodLink RX1 25 yX3_copy, Cond.instanceMethod yX3_copy]
def wsL_undo_r2 : List Cond := [Cond.selects RX3 yX3_copy yX3_copy, Cond.initialized RX3, Cond.code yX3_copy cX3_copy 2 none, Cond.fieldLink RX3 14 "BackwardSearch$State" "line" "LBackwardSearch$Row;", Cond.fieldLink RX3 20 "BackwardSearch$State" "word" "LBackwardSearch$Row;", Cond.fieldLink RX3 23 "BackwardSearch$State" "found" "LBackwardSearch$Row;", Cond.fieldLink RX3 26 "BackwardSearch$State" "letterRule" "Z", Cond.fieldLink RX3 30 "BackwardSearch$State" "endRule" "Z", Cond.fieldLink RX3 37 "BackwardSearch$State" "place" "I", Cond.fieldLink RX3 41 "BackwardSearch$State" "looks" "I", Cond.fieldLink RX3 44 "BackwardSearch$State" "compared" "I", Cond.methodLink RX3 33 yX2_copy, Cond.instanceMethod yX2_copy, Cond.selects RX2 yX2_copy yX2_copy, Cond.initialized RX2, Cond.code yX2_copy cX2_copy 3 none, Cond.fieldLink RX2 21 "BackwardSearch$Row" "length" "I", Cond.fieldLink RX2 15 "BackwardSearch$Row" "numbers" "[I", Cond.methodLink RX2 29 yX2_clear, Cond.instanceMethod yX2_clear, Cond.selects RX2 yX2_clear yX2_clear, Cond.code yX2_clear cX2_clear 1 none, Cond.methodLink RX2 32 yX2_add, Cond.instanceMethod yX2_add]
def wsL_undo_r3 : List Cond := [Cond.selects RX2 yX2_add yX2_add, Cond.code yX2_add cX2_add 2 none]
def wsL_undo : List Cond := .codeWith yL_undo cL_undo 3 (some .int) [(0, 8, 11, 13)] :: ((wsL_undo_r1 ++ (wsL_undo_r2 ++ wsL_undo_r3)) ++ wsX40 ++ wsX10 ++ wsX30 ++ wsX20 ++ (vx_atS RX4 89 "java/lang/IllegalStateException" ["java/lang/RuntimeException", "java/lang/Exception"]).filter goodWord)
def wsL_saveState_r1 : List Cond := [Cond.classLink RL 25 "java/lang/IndexOutOfBoundsException", Cond.methodLink RL 61 yX4_saveState, Cond.instanceMethod yX4_saveState, Cond.selects RX4 yX4_saveState yX4_saveState, Cond.initialized RX4, Cond.code yX4_saveState cX4_saveState 2 (some .int), Cond.fieldLink RX4 33 "BackwardSearch" "slots" "[LBackwardSearch$State;", Cond.fieldLink RX4 10 "BackwardSearch" "state" "LBackwardSearch$State;", Cond.fieldLink RX4 37 "BackwardSearch" "saved" "[Z", Cond.methodLink RX4 202 yX4_refuseUnlessSlot, Cond.static yX4_refuseUnlessSlot, Cond.code yX4_refuseUnlessSlot cX4_refuseUnlessSlot 1 none, Cond.classLink RX4 165 "java/lang/IndexOutOfBoundsException", Cond.initialized "java/lang/IndexOutOfBoundsException", Cond.methodLink RX4 205 yX3_copy, Cond.instanceMethod yX3_copy, Cond.selects RX3 yX3_copy yX3_copy, Cond.initialized RX3, Cond.code yX3_copy cX3_copy 2 none, Cond.fieldLink RX3 14 "BackwardSearch$State" "line" "LBackwardSearch$Row;", Cond.fieldLink RX3 20 "BackwardSearch$State" "word" "LBackwardSearch$Row;", Cond.fieldLink RX3 23 "BackwardSearch$State" "found" "LBackwardSearch$Row;", Cond.fieldLink RX3 26 "BackwardSearch$State" "letterRule" "Z", Cond.fieldLink RX3 30 "BackwardSearch$State" "endRule" "Z"]
def wsL_saveState_r2 : List Cond := [Cond.fieldLink RX3 37 "BackwardSearch$State" "place" "I", Cond.fieldLink RX3 41 "BackwardSearch$State" "looks" "I", Cond.fieldLink RX3 44 "BackwardSearch$State" "compared" "I", Cond.methodLink RX3 33 yX2_copy, Cond.instanceMethod yX2_copy, Cond.selects RX2 yX2_copy yX2_copy, Cond.initialized RX2, Cond.code yX2_copy cX2_copy 3 none, Cond.fieldLink RX2 21 "BackwardSearch$Row" "length" "I", Cond.fieldLink RX2 15 "BackwardSearch$Row" "numbers" "[I", Cond.methodLink RX2 29 yX2_clear, Cond.instanceMethod yX2_clear, Cond.selects RX2 yX2_clear yX2_clear, Cond.code yX2_clear cX2_clear 1 none, Cond.methodLink RX2 32 yX2_add, Cond.instanceMethod yX2_add, Cond.selects RX2 yX2_add yX2_add, Cond.code yX2_add cX2_add 2 none, Cond.methodLink RX4 67 yX2_size, Cond.instanceMethod yX2_size, Cond.selects RX2 yX2_size yX2_size, Cond.code yX2_size cX2_size 1 (some .int)]
def wsL_saveState : List Cond := .codeWith yL_saveState cL_saveState 4 (some .int) [(0, 9, 12, 25)] :: ((wsL_saveState_r1 ++ wsL_saveState_r2) ++ wsX40 ++ wsX30 ++ wsX20 ++ (vx_atS RX4 169 "java/lang/IndexOutOfBoundsException" ["java/lang/RuntimeException", "java/lang/Exception"]).filter goodWord)
def wsL_loadState_r1 : List Cond := [Cond.classLink RL 25 "java/lang/IndexOutOfBoundsException", Cond.classLink RL 13 "java/lang/IllegalStateException", Cond.methodLink RL 64 yX4_loadState, Cond.instanceMethod yX4_loadState, Cond.selects RX4 yX4_loadState yX4_loadState, Cond.initialized RX4, Cond.code yX4_loadState cX4_loadState 2 (some .int), Cond.classLink RX4 85 "java/lang/IllegalStateException", Cond.initialized "java/lang/IllegalStateException", Cond.fieldLink RX4 37 "BackwardSearch" "saved" "[Z", Cond.fieldLink RX4 29 "BackwardSearch" "history" "LBackwardSearch$History;", Cond.fieldLink RX4 10 "BackwardSearch" "state" "LBackwardSearch$State;", Cond.fieldLink RX4 33 "BackwardSearch" "slots" "[LBackwardSearch$State;", Cond.methodLink RX4 202 yX4_refuseUnlessSlot, Cond.static yX4_refuseUnlessSlot, Cond.code yX4_refuseUnlessSlot cX4_refuseUnlessSlot 1 none, Cond.classLink RX4 165 "java/lang/IndexOutOfBoundsException", Cond.initialized "java/lang/IndexOutOfBoundsException", Cond.methodLink RX4 53 yX1_keep, Cond.instanceMethod yX1_keep, Cond.selects RX1 yX1_keep yX1_keep, Cond.initialized RX1, Cond.code yX1_keep cX1_keep 2 none, Cond.fieldLink RX1 11 "BackwardSearch$History" "kept" "[LBackwardSearch$State;"]
def wsL_loadState_r2 : List Cond := [Cond.fieldLink RX1 22 "BackwardSearch$History" "next" "I", Cond.fieldLink RX1 18 "BackwardSearch$History" "count" "I", Cond.methodLink RX1 29 Lib.Math.min.name, Cond.static Lib.Math.min.name, Cond.initialized "java/lang/Math", Cond.code Lib.Math.min.name Lib.Math.min.code 2 (some .int), Cond.methodLink RX1 25 yX3_copy, Cond.instanceMethod yX3_copy, Cond.selects RX3 yX3_copy yX3_copy, Cond.initialized RX3, Cond.code yX3_copy cX3_copy 2 none, Cond.fieldLink RX3 14 "BackwardSearch$State" "line" "LBackwardSearch$Row;", Cond.fieldLink RX3 20 "BackwardSearch$State" "word" "LBackwardSearch$Row;", Cond.fieldLink RX3 23 "BackwardSearch$State" "found" "LBackwardSearch$Row;", Cond.fieldLink RX3 26 "BackwardSearch$State" "letterRule" "Z", Cond.fieldLink RX3 30 "BackwardSearch$State" "endRule" "Z", Cond.fieldLink RX3 37 "BackwardSearch$State" "place" "I", Cond.fieldLink RX3 41 "BackwardSearch$State" "looks" "I", Cond.fieldLink RX3 44 "BackwardSearch$State" "compared" "I", Cond.methodLink RX3 33 yX2_copy, Cond.instanceMethod yX2_copy, Cond.selects RX2 yX2_copy yX2_copy, Cond.initialized RX2, Cond.code yX2_copy cX2_copy 3 none]
def wsL_loadState_r3 : List Cond := [Cond.fieldLink RX2 21 "BackwardSearch$Row" "length" "I", Cond.fieldLink RX2 15 "BackwardSearch$Row" "numbers" "[I", Cond.methodLink RX2 29 yX2_clear, Cond.instanceMethod yX2_clear, Cond.selects RX2 yX2_clear yX2_clear, Cond.code yX2_clear cX2_clear 1 none, Cond.methodLink RX2 32 yX2_add, Cond.instanceMethod yX2_add, Cond.selects RX2 yX2_add yX2_add, Cond.code yX2_add cX2_add 2 none, Cond.methodLink RX4 205 yX3_copy, Cond.methodLink RX4 67 yX2_size, Cond.instanceMethod yX2_size, Cond.selects RX2 yX2_size yX2_size, Cond.code yX2_size cX2_size 1 (some .int)]
def wsL_loadState : List Cond := .codeWith yL_loadState cL_loadState 4 (some .int) [(0, 9, 12, 25), (0, 9, 15, 13)] :: ((wsL_loadState_r1 ++ (wsL_loadState_r2 ++ wsL_loadState_r3)) ++ wsX40 ++ wsX30 ++ wsX10 ++ wsX20 ++ (vx_atS RX4 89 "java/lang/IllegalStateException" ["java/lang/RuntimeException", "java/lang/Exception"]).filter goodWord ++ (vx_atS RX4 169 "java/lang/IndexOutOfBoundsException" ["java/lang/RuntimeException", "java/lang/Exception"]).filter goodWord)
def wsL_law0_r1 : List Cond := [Cond.classLink RL 8 RX4, Cond.instantiable RX4 7, Cond.initialized RX4, Cond.classLink RL 68 RX5, Cond.instantiable RX5 8, Cond.initialized RX5, Cond.arrayClass .long, Cond.constantLong RL 181 (4294967295), Cond.methodLink RL 67 yX4_init, Cond.instanceMethod yX4_init, Cond.code yX4_init cX4_init 2 none, Cond.methodLink RX4 1 objectInit, Cond.instanceMethod objectInit, Cond.code objectInit ⟨#[0xb1]⟩ 1 none, Cond.classLink RX4 7 RX3, Cond.instantiable RX3 8, Cond.initialized RX3, Cond.fieldLink RX4 10 "BackwardSearch" "state" "LBackwardSearch$State;", Cond.fieldLink RX4 16 "BackwardSearch" "trial" "LBackwardSearch$State;", Cond.classLink RX4 19 RX0, Cond.instantiable RX0 3, Cond.initialized RX0, Cond.fieldLink RX4 22 "BackwardSearch" "ends" "LBackwardSearch$Ends;", Cond.classLink RX4 26 RX1]
def wsL_law0_r2 : List Cond := [Cond.instantiable RX1 3, Cond.initialized RX1, Cond.fieldLink RX4 29 "BackwardSearch" "history" "LBackwardSearch$History;", Cond.fieldLink RX4 33 "BackwardSearch" "slots" "[LBackwardSearch$State;", Cond.arrayClass .boolean, Cond.fieldLink RX4 37 "BackwardSearch" "saved" "[Z", Cond.classLink RX4 41 RX2, Cond.instantiable RX2 2, Cond.initialized RX2, Cond.fieldLink RX4 46 "BackwardSearch" "text" "LBackwardSearch$Row;", Cond.instanceMethod yX3_init, Cond.code yX3_init cX3_init 1 none, Cond.methodLink RX3 3 objectInit, Cond.classLink RX3 9 RX2, Cond.fieldLink RX3 14 "BackwardSearch$State" "line" "LBackwardSearch$Row;", Cond.fieldLink RX3 20 "BackwardSearch$State" "word" "LBackwardSearch$Row;", Cond.fieldLink RX3 23 "BackwardSearch$State" "found" "LBackwardSearch$Row;", Cond.fieldLink RX3 26 "BackwardSearch$State" "letterRule" "Z", Cond.fieldLink RX3 30 "BackwardSearch$State" "endRule" "Z", Cond.methodLink RX3 11 yX2_init, Cond.instanceMethod yX2_init, Cond.code yX2_init cX2_init 2 none, Cond.methodLink RX2 3 objectInit, Cond.methodLink RX2 9 Lib.Math.max.name]
def wsL_law0_r3 : List Cond := [Cond.static Lib.Math.max.name, Cond.initialized "java/lang/Math", Cond.code Lib.Math.max.name Lib.Math.max.code 2 (some .int), Cond.arrayClass .int, Cond.fieldLink RX2 15 "BackwardSearch$Row" "numbers" "[I", Cond.instanceMethod yX0_init, Cond.code yX0_init cX0_init 1 none, Cond.methodLink RX0 3 objectInit, Cond.fieldLink RX0 9 "BackwardSearch$Ends" "borderOf" "[I", Cond.fieldLink RX0 15 "BackwardSearch$Ends" "skipOf" "[I", Cond.methodLink RX4 28 yX1_init, Cond.instanceMethod yX1_init, Cond.code yX1_init cX1_init 2 none, Cond.methodLink RX1 3 objectInit, Cond.classLink RX1 9 RX3, Cond.fieldLink RX1 11 "BackwardSearch$History" "kept" "[LBackwardSearch$State;", Cond.methodLink RX4 43 yX2_init, Cond.methodLink RL 70 yX5_init, Cond.instanceMethod yX5_init, Cond.code yX5_init cX5_init 1 none, Cond.methodLink RX5 1 objectInit, Cond.fieldLink RX5 7 "BackwardSearchModel" "all" "[I", Cond.fieldLink RX5 13 "BackwardSearchModel" "history" "[I", Cond.fieldLink RX5 16 "BackwardSearchModel" "slots" "[I"]
def wsL_law0_r4 : List Cond := [Cond.fieldLink RX5 19 "BackwardSearchModel" "isSaved" "[I", Cond.fieldLink RX5 22 "BackwardSearchModel" "text" "[I", Cond.methodLink RL 71 yL_takeLine, Cond.static yL_takeLine, Cond.initialized RL, Cond.codeWith yL_takeLine cL_takeLine 3 (some .int) [(0, 8, 11, 13)], Cond.classLink RL 13 "java/lang/IllegalStateException", Cond.methodLink RL 7 yX4_takeLine, Cond.instanceMethod yX4_takeLine, Cond.selects RX4 yX4_takeLine yX4_takeLine, Cond.code yX4_takeLine cX4_takeLine 1 (some .int), Cond.methodLink RX4 50 yX4_refuseTextUnlessLetters, Cond.instanceMethod yX4_refuseTextUnlessLetters, Cond.selects RX4 yX4_refuseTextUnlessLetters yX4_refuseTextUnlessLetters, Cond.code yX4_refuseTextUnlessLetters cX4_refuseTextUnlessLetters 2 none, Cond.classLink RX4 85 "java/lang/IllegalStateException", Cond.initialized "java/lang/IllegalStateException", Cond.methodLink RX4 219 yX4_textError, Cond.instanceMethod yX4_textError, Cond.selects RX4 yX4_textError yX4_textError, Cond.code yX4_textError cX4_textError 3 (some .int), Cond.methodLink RX4 67 yX2_size, Cond.instanceMethod yX2_size, Cond.selects RX2 yX2_size yX2_size]
def wsL_law0_r5 : List Cond := [Cond.code yX2_size cX2_size 1 (some .int), Cond.fieldLink RX2 21 "BackwardSearch$Row" "length" "I", Cond.methodLink RX4 113 yX2_at, Cond.instanceMethod yX2_at, Cond.selects RX2 yX2_at yX2_at, Cond.code yX2_at cX2_at 2 (some .int), Cond.methodLink RX2 25 yX2_has, Cond.instanceMethod yX2_has, Cond.selects RX2 yX2_has yX2_has, Cond.code yX2_has cX2_has 2 (some .boolean), Cond.methodLink RX4 53 yX1_keep, Cond.instanceMethod yX1_keep, Cond.selects RX1 yX1_keep yX1_keep, Cond.code yX1_keep cX1_keep 2 none, Cond.fieldLink RX1 22 "BackwardSearch$History" "next" "I", Cond.fieldLink RX1 18 "BackwardSearch$History" "count" "I", Cond.methodLink RX1 29 Lib.Math.min.name, Cond.static Lib.Math.min.name, Cond.code Lib.Math.min.name Lib.Math.min.code 2 (some .int), Cond.methodLink RX1 25 yX3_copy, Cond.instanceMethod yX3_copy, Cond.selects RX3 yX3_copy yX3_copy, Cond.code yX3_copy cX3_copy 2 none, Cond.fieldLink RX3 37 "BackwardSearch$State" "place" "I"]
def wsL_law0_r6 : List Cond := [Cond.fieldLink RX3 41 "BackwardSearch$State" "looks" "I", Cond.fieldLink RX3 44 "BackwardSearch$State" "compared" "I", Cond.methodLink RX3 33 yX2_copy, Cond.instanceMethod yX2_copy, Cond.selects RX2 yX2_copy yX2_copy, Cond.code yX2_copy cX2_copy 3 none, Cond.methodLink RX2 29 yX2_clear, Cond.instanceMethod yX2_clear, Cond.selects RX2 yX2_clear yX2_clear, Cond.code yX2_clear cX2_clear 1 none, Cond.methodLink RX2 32 yX2_add, Cond.instanceMethod yX2_add, Cond.selects RX2 yX2_add yX2_add, Cond.code yX2_add cX2_add 2 none, Cond.methodLink RX4 60 yX4_moveText, Cond.instanceMethod yX4_moveText, Cond.selects RX4 yX4_moveText yX4_moveText, Cond.code yX4_moveText cX4_moveText 3 none, Cond.methodLink RX4 193 yX2_clear, Cond.methodLink RX4 190 yX2_add, Cond.methodLink RX4 64 yX3_beginAnew, Cond.instanceMethod yX3_beginAnew, Cond.selects RX3 yX3_beginAnew yX3_beginAnew, Cond.code yX3_beginAnew cX3_beginAnew 1 none]
def wsL_law0_r7 : List Cond := [Cond.methodLink RX3 47 yX2_clear, Cond.methodLink RL 76 yX5_takeLine, Cond.instanceMethod yX5_takeLine, Cond.selects RX5 yX5_takeLine yX5_takeLine, Cond.code yX5_takeLine cX5_takeLine 1 (some .int), Cond.methodLink RX5 62 yX5_canTake, Cond.instanceMethod yX5_canTake, Cond.selects RX5 yX5_canTake yX5_canTake, Cond.code yX5_canTake cX5_canTake 2 (some .boolean), Cond.fieldLink RX5 56 "BackwardSearchModel" "textLong" "I", Cond.methodLink RX5 53 yX5_errorOfText, Cond.instanceMethod yX5_errorOfText, Cond.selects RX5 yX5_errorOfText yX5_errorOfText, Cond.code yX5_errorOfText cX5_errorOfText 2 (some .int), Cond.constantLong RX5 110 (97), Cond.constantLong RX5 112 (122), Cond.methodLink RX5 34 yX5_in, Cond.static yX5_in, Cond.code yX5_in cX5_in 6 (some .boolean), Cond.methodLink RX5 66 yX5_fails, Cond.instanceMethod yX5_fails, Cond.selects RX5 yX5_fails yX5_fails, Cond.code yX5_fails cX5_fails 2 (some .int), Cond.fieldLink RX5 25 "BackwardSearchModel" "thrown" "I"]
def wsL_law0_r8 : List Cond := [Cond.methodLink RX5 69 yX5_changes, Cond.instanceMethod yX5_changes, Cond.selects RX5 yX5_changes yX5_changes, Cond.code yX5_changes cX5_changes 2 none, Cond.fieldLink RX5 29 "BackwardSearchModel" "historyLong" "I", Cond.methodLink RX5 72 yX5_takes, Cond.instanceMethod yX5_takes, Cond.selects RX5 yX5_takes yX5_takes, Cond.code yX5_takes cX5_takes 4 (some .int), Cond.methodLink RX5 59 yX5_begins, Cond.instanceMethod yX5_begins, Cond.selects RX5 yX5_begins yX5_begins, Cond.code yX5_begins cX5_begins 2 none, Cond.methodLink RL 77 yX5_thrown, Cond.instanceMethod yX5_thrown, Cond.selects RX5 yX5_thrown yX5_thrown, Cond.code yX5_thrown cX5_thrown 1 (some .int), Cond.methodLink RL 80 yL_takeWord, Cond.static yL_takeWord, Cond.codeWith yL_takeWord cL_takeWord 3 (some .int) [(0, 8, 11, 13)], Cond.methodLink RL 15 yX4_takeWord, Cond.instanceMethod yX4_takeWord, Cond.selects RX4 yX4_takeWord yX4_takeWord, Cond.code yX4_takeWord cX4_takeWord 1 (some .int)]
def wsL_law0_r9 : List Cond := [Cond.methodLink RL 82 yX5_takeWord, Cond.instanceMethod yX5_takeWord, Cond.selects RX5 yX5_takeWord yX5_takeWord, Cond.code yX5_takeWord cX5_takeWord 1 (some .int), Cond.methodLink RL 83 yX4_setRules, Cond.instanceMethod yX4_setRules, Cond.selects RX4 yX4_setRules yX4_setRules, Cond.code yX4_setRules cX4_setRules 4 (some .int), Cond.methodLink RX4 74 yX3_rulesOn, Cond.instanceMethod yX3_rulesOn, Cond.selects RX3 yX3_rulesOn yX3_rulesOn, Cond.code yX3_rulesOn cX3_rulesOn 1 (some .int), Cond.methodLink RX4 77 yX3_useRules, Cond.instanceMethod yX3_useRules, Cond.selects RX3 yX3_useRules yX3_useRules, Cond.code yX3_useRules cX3_useRules 3 none, Cond.methodLink RL 87 yX5_setRules, Cond.instanceMethod yX5_setRules, Cond.selects RX5 yX5_setRules yX5_setRules, Cond.code yX5_setRules cX5_setRules 4 (some .int), Cond.methodLink RL 88 yL_look, Cond.static yL_look, Cond.codeWith yL_look cL_look 3 (some .int) [(0, 8, 11, 13)], Cond.methodLink RL 18 yX4_look]
def wsL_law0_r10 : List Cond := [Cond.instanceMethod yX4_look, Cond.selects RX4 yX4_look yX4_look, Cond.code yX4_look cX4_look 1 (some .int), Cond.methodLink RX4 81 yX3_hasEnded, Cond.instanceMethod yX3_hasEnded, Cond.selects RX3 yX3_hasEnded yX3_hasEnded, Cond.code yX3_hasEnded cX3_hasEnded 1 (some .boolean), Cond.methodLink RX3 60 yX2_isEmpty, Cond.instanceMethod yX2_isEmpty, Cond.selects RX2 yX2_isEmpty yX2_isEmpty, Cond.code yX2_isEmpty cX2_isEmpty 1 (some .boolean), Cond.methodLink RX3 64 yX3_beginnings, Cond.instanceMethod yX3_beginnings, Cond.selects RX3 yX3_beginnings yX3_beginnings, Cond.code yX3_beginnings cX3_beginnings 1 (some .int), Cond.methodLink RX3 54 Lib.Math.max.name, Cond.methodLink RX3 50 yX2_size, Cond.methodLink RX4 92 yX0_study, Cond.instanceMethod yX0_study, Cond.selects RX0 yX0_study yX0_study, Cond.code yX0_study cX0_study 3 none, Cond.methodLink RX0 24 Lib.Math.min.name, Cond.fieldLink RX0 30 "BackwardSearch$Ends" "length" "I", Cond.methodLink RX0 18 yX2_size]
def wsL_law0_r11 : List Cond := [Cond.methodLink RX0 34 yX0_findBorders, Cond.instanceMethod yX0_findBorders, Cond.selects RX0 yX0_findBorders yX0_findBorders, Cond.code yX0_findBorders cX0_findBorders 4 none, Cond.methodLink RX0 41 yX0_borderThatGrows, Cond.instanceMethod yX0_borderThatGrows, Cond.selects RX0 yX0_borderThatGrows yX0_borderThatGrows, Cond.code yX0_borderThatGrows cX0_borderThatGrows 6 (some .int), Cond.methodLink RX0 45 yX2_at, Cond.methodLink RX0 38 yX0_skipToBordersOfTheWord, Cond.instanceMethod yX0_skipToBordersOfTheWord, Cond.selects RX0 yX0_skipToBordersOfTheWord yX0_skipToBordersOfTheWord, Cond.code yX0_skipToBordersOfTheWord cX0_skipToBordersOfTheWord 3 none, Cond.methodLink RX4 95 yX3_lookOnce, Cond.instanceMethod yX3_lookOnce, Cond.selects RX3 yX3_lookOnce yX3_lookOnce, Cond.code yX3_lookOnce cX3_lookOnce 4 (some .int), Cond.methodLink RX3 74 yX3_lastDifferenceAt, Cond.instanceMethod yX3_lastDifferenceAt, Cond.selects RX3 yX3_lastDifferenceAt yX3_lastDifferenceAt, Cond.code yX3_lastDifferenceAt cX3_lastDifferenceAt 3 (some .int), Cond.methodLink RX3 85 yX2_at, Cond.methodLink RX3 78 yX3_skipBehind, Cond.instanceMethod yX3_skipBehind]
def wsL_law0_r12 : List Cond := [Cond.selects RX3 yX3_skipBehind yX3_skipBehind, Cond.code yX3_skipBehind cX3_skipBehind 4 (some .int), Cond.methodLink RX3 88 yX0_wordPeriod, Cond.instanceMethod yX0_wordPeriod, Cond.selects RX0 yX0_wordPeriod yX0_wordPeriod, Cond.code yX0_wordPeriod cX0_wordPeriod 1 (some .int), Cond.methodLink RX3 93 yX3_skipByLetter, Cond.instanceMethod yX3_skipByLetter, Cond.selects RX3 yX3_skipByLetter yX3_skipByLetter, Cond.code yX3_skipByLetter cX3_skipByLetter 3 (some .int), Cond.methodLink RX3 99 yX2_lastPlaceWith, Cond.instanceMethod yX2_lastPlaceWith, Cond.selects RX2 yX2_lastPlaceWith yX2_lastPlaceWith, Cond.code yX2_lastPlaceWith cX2_lastPlaceWith 3 (some .int), Cond.methodLink RX3 96 yX0_skipAt, Cond.instanceMethod yX0_skipAt, Cond.selects RX0 yX0_skipAt yX0_skipAt, Cond.code yX0_skipAt cX0_skipAt 2 (some .int), Cond.methodLink RX3 82 yX2_add, Cond.methodLink RL 90 yX5_look, Cond.instanceMethod yX5_look, Cond.selects RX5 yX5_look yX5_look, Cond.code yX5_look cX5_look 1 (some .int), Cond.methodLink RX5 83 yX5_isOverAt]
def wsL_law0_r13 : List Cond := [Cond.instanceMethod yX5_isOverAt, Cond.selects RX5 yX5_isOverAt yX5_isOverAt, Cond.code yX5_isOverAt cX5_isOverAt 2 (some .boolean), Cond.methodLink RX5 86 yX5_looks, Cond.instanceMethod yX5_looks, Cond.selects RX5 yX5_looks yX5_looks, Cond.code yX5_looks cX5_looks 4 (some .int), Cond.methodLink RX5 76 yX5_difference, Cond.instanceMethod yX5_difference, Cond.selects RX5 yX5_difference yX5_difference, Cond.code yX5_difference cX5_difference 3 (some .int), Cond.methodLink RX5 79 yX5_skipBy, Cond.instanceMethod yX5_skipBy, Cond.selects RX5 yX5_skipBy yX5_skipBy, Cond.code yX5_skipBy cX5_skipBy 8 (some .int), Cond.methodLink RX5 42 yX5_periodNow, Cond.instanceMethod yX5_periodNow, Cond.selects RX5 yX5_periodNow yX5_periodNow, Cond.code yX5_periodNow cX5_periodNow 5 (some .int), Cond.methodLink RX5 46 yX5_lastOf, Cond.instanceMethod yX5_lastOf, Cond.selects RX5 yX5_lastOf yX5_lastOf, Cond.code yX5_lastOf cX5_lastOf 4 (some .int), Cond.methodLink RX5 50 yX5_endSkipOf]
def wsL_law0_r14 : List Cond := [Cond.instanceMethod yX5_endSkipOf, Cond.selects RX5 yX5_endSkipOf yX5_endSkipOf, Cond.code yX5_endSkipOf cX5_endSkipOf 3 (some .int), Cond.methodLink RX5 38 yX5_fits, Cond.instanceMethod yX5_fits, Cond.selects RX5 yX5_fits yX5_fits, Cond.code yX5_fits cX5_fits 5 (some .boolean), Cond.methodLink RL 91 yX4_finish, Cond.instanceMethod yX4_finish, Cond.selects RX4 yX4_finish yX4_finish, Cond.code yX4_finish cX4_finish 1 (some .int), Cond.methodLink RX4 99 yX3_lookToTheEnd, Cond.instanceMethod yX3_lookToTheEnd, Cond.selects RX3 yX3_lookToTheEnd yX3_lookToTheEnd, Cond.code yX3_lookToTheEnd cX3_lookToTheEnd 3 (some .int), Cond.methodLink RX3 67 yX3_hasEnded, Cond.methodLink RX3 70 yX3_lookOnce, Cond.methodLink RL 94 yX5_finish, Cond.instanceMethod yX5_finish, Cond.selects RX5 yX5_finish yX5_finish, Cond.code yX5_finish cX5_finish 3 (some .int), Cond.methodLink RL 95 yX4_rewind, Cond.instanceMethod yX4_rewind, Cond.selects RX4 yX4_rewind yX4_rewind]
def wsL_law0_r15 : List Cond := [Cond.code yX4_rewind cX4_rewind 2 (some .int), Cond.methodLink RL 98 yX5_rewind, Cond.instanceMethod yX5_rewind, Cond.selects RX5 yX5_rewind yX5_rewind, Cond.code yX5_rewind cX5_rewind 2 (some .int), Cond.methodLink RL 99 yL_setLetter, Cond.static yL_setLetter, Cond.codeWith yL_setLetter cL_setLetter 5 (some .int) [(0, 10, 13, 25), (0, 10, 17, 27)], Cond.classLink RL 25 "java/lang/IndexOutOfBoundsException", Cond.classLink RL 27 "java/lang/IllegalArgumentException", Cond.methodLink RL 21 yX4_setLetter, Cond.instanceMethod yX4_setLetter, Cond.selects RX4 yX4_setLetter yX4_setLetter, Cond.code yX4_setLetter cX4_setLetter 4 (some .int), Cond.methodLink RX4 106 yX4_refuseUnlessIn, Cond.static yX4_refuseUnlessIn, Cond.code yX4_refuseUnlessIn cX4_refuseUnlessIn 2 none, Cond.classLink RX4 165 "java/lang/IndexOutOfBoundsException", Cond.initialized "java/lang/IndexOutOfBoundsException", Cond.methodLink RX4 210 yX2_has, Cond.methodLink RX4 110 yX4_refuseUnlessLetter, Cond.static yX4_refuseUnlessLetter, Cond.code yX4_refuseUnlessLetter cX4_refuseUnlessLetter 1 none, Cond.classLink RX4 179 "java/lang/IllegalArgumentException"]
def wsL_law0_r16 : List Cond := [Cond.initialized "java/lang/IllegalArgumentException", Cond.methodLink RX4 117 yX2_put, Cond.instanceMethod yX2_put, Cond.selects RX2 yX2_put yX2_put, Cond.code yX2_put cX2_put 3 none, Cond.methodLink RL 102 yX5_setLetter, Cond.instanceMethod yX5_setLetter, Cond.selects RX5 yX5_setLetter yX5_setLetter, Cond.code yX5_setLetter cX5_setLetter 4 (some .int), Cond.methodLink RX5 89 yX5_isInLine, Cond.instanceMethod yX5_isInLine, Cond.selects RX5 yX5_isInLine yX5_isInLine, Cond.code yX5_isInLine cX5_isInLine 2 (some .boolean), Cond.methodLink RX5 92 yX5_isLetter, Cond.static yX5_isLetter, Cond.code yX5_isLetter cX5_isLetter 1 (some .boolean), Cond.constantLong RX5 32 (25), Cond.methodLink RL 103 yX4_lineLength, Cond.instanceMethod yX4_lineLength, Cond.selects RX4 yX4_lineLength yX4_lineLength, Cond.code yX4_lineLength cX4_lineLength 1 (some .int), Cond.methodLink RL 106 yX5_lineLength, Cond.instanceMethod yX5_lineLength, Cond.selects RX5 yX5_lineLength yX5_lineLength]
def wsL_law0_r17 : List Cond := [Cond.code yX5_lineLength cX5_lineLength 1 (some .int), Cond.methodLink RX5 95 yX5_told, Cond.instanceMethod yX5_told, Cond.selects RX5 yX5_told yX5_told, Cond.code yX5_told cX5_told 2 (some .int), Cond.methodLink RL 107 yX4_wordLength, Cond.instanceMethod yX4_wordLength, Cond.selects RX4 yX4_wordLength yX4_wordLength, Cond.code yX4_wordLength cX4_wordLength 1 (some .int), Cond.methodLink RL 110 yX5_wordLength, Cond.instanceMethod yX5_wordLength, Cond.selects RX5 yX5_wordLength yX5_wordLength, Cond.code yX5_wordLength cX5_wordLength 1 (some .int), Cond.methodLink RL 111 yL_lineLetter, Cond.static yL_lineLetter, Cond.codeWith yL_lineLetter cL_lineLetter 4 (some .int) [(0, 9, 12, 25)], Cond.methodLink RL 29 yX4_lineLetter, Cond.instanceMethod yX4_lineLetter, Cond.selects RX4 yX4_lineLetter yX4_lineLetter, Cond.code yX4_lineLetter cX4_lineLetter 2 (some .int), Cond.methodLink RL 114 yX5_lineLetter, Cond.instanceMethod yX5_lineLetter, Cond.selects RX5 yX5_lineLetter yX5_lineLetter, Cond.code yX5_lineLetter cX5_lineLetter 2 (some .int)]
def wsL_law0_r18 : List Cond := [Cond.methodLink RL 115 yL_wordLetter, Cond.static yL_wordLetter, Cond.codeWith yL_wordLetter cL_wordLetter 4 (some .int) [(0, 9, 12, 25)], Cond.methodLink RL 33 yX4_wordLetter, Cond.instanceMethod yX4_wordLetter, Cond.selects RX4 yX4_wordLetter yX4_wordLetter, Cond.code yX4_wordLetter cX4_wordLetter 2 (some .int), Cond.methodLink RL 117 yX5_wordLetter, Cond.instanceMethod yX5_wordLetter, Cond.selects RX5 yX5_wordLetter yX5_wordLetter, Cond.code yX5_wordLetter cX5_wordLetter 2 (some .int), Cond.methodLink RX5 98 yX5_isInWord, Cond.instanceMethod yX5_isInWord, Cond.selects RX5 yX5_isInWord yX5_isInWord, Cond.code yX5_isInWord cX5_isInWord 2 (some .boolean), Cond.methodLink RL 118 yX4_place, Cond.instanceMethod yX4_place, Cond.selects RX4 yX4_place yX4_place, Cond.code yX4_place cX4_place 1 (some .int), Cond.methodLink RL 121 yX5_place, Cond.instanceMethod yX5_place, Cond.selects RX5 yX5_place yX5_place, Cond.code yX5_place cX5_place 1 (some .int), Cond.methodLink RL 122 yX4_isOver]
def wsL_law0_r19 : List Cond := [Cond.instanceMethod yX4_isOver, Cond.selects RX4 yX4_isOver yX4_isOver, Cond.code yX4_isOver cX4_isOver 1 (some .boolean), Cond.methodLink RL 126 yX5_isOver, Cond.instanceMethod yX5_isOver, Cond.selects RX5 yX5_isOver yX5_isOver, Cond.code yX5_isOver cX5_isOver 1 (some .boolean), Cond.methodLink RL 127 yX4_lookCount, Cond.instanceMethod yX4_lookCount, Cond.selects RX4 yX4_lookCount yX4_lookCount, Cond.code yX4_lookCount cX4_lookCount 1 (some .int), Cond.methodLink RL 130 yX5_lookCount, Cond.instanceMethod yX5_lookCount, Cond.selects RX5 yX5_lookCount yX5_lookCount, Cond.code yX5_lookCount cX5_lookCount 1 (some .int), Cond.methodLink RL 131 yX4_comparedCount, Cond.instanceMethod yX4_comparedCount, Cond.selects RX4 yX4_comparedCount yX4_comparedCount, Cond.code yX4_comparedCount cX4_comparedCount 1 (some .int), Cond.methodLink RL 134 yX5_comparedCount, Cond.instanceMethod yX5_comparedCount, Cond.selects RX5 yX5_comparedCount yX5_comparedCount, Cond.code yX5_comparedCount cX5_comparedCount 1 (some .int), Cond.methodLink RL 135 yX4_foundCount]
def wsL_law0_r20 : List Cond := [Cond.instanceMethod yX4_foundCount, Cond.selects RX4 yX4_foundCount yX4_foundCount, Cond.code yX4_foundCount cX4_foundCount 1 (some .int), Cond.methodLink RL 138 yX5_foundCount, Cond.instanceMethod yX5_foundCount, Cond.selects RX5 yX5_foundCount yX5_foundCount, Cond.code yX5_foundCount cX5_foundCount 1 (some .int), Cond.methodLink RL 139 yL_foundPlace, Cond.static yL_foundPlace, Cond.codeWith yL_foundPlace cL_foundPlace 4 (some .int) [(0, 9, 12, 25)], Cond.methodLink RL 36 yX4_foundPlace, Cond.instanceMethod yX4_foundPlace, Cond.selects RX4 yX4_foundPlace yX4_foundPlace, Cond.code yX4_foundPlace cX4_foundPlace 2 (some .int), Cond.methodLink RL 141 yX5_foundPlace, Cond.instanceMethod yX5_foundPlace, Cond.selects RX5 yX5_foundPlace yX5_foundPlace, Cond.code yX5_foundPlace cX5_foundPlace 2 (some .int), Cond.methodLink RL 142 yX4_skippedPlaces, Cond.instanceMethod yX4_skippedPlaces, Cond.selects RX4 yX4_skippedPlaces yX4_skippedPlaces, Cond.code yX4_skippedPlaces cX4_skippedPlaces 1 (some .int), Cond.methodLink RX4 133 Lib.Math.min.name, Cond.methodLink RX4 130 yX3_beginnings]
def wsL_law0_r21 : List Cond := [Cond.methodLink RL 145 yX5_skippedPlaces, Cond.instanceMethod yX5_skippedPlaces, Cond.selects RX5 yX5_skippedPlaces yX5_skippedPlaces, Cond.code yX5_skippedPlaces cX5_skippedPlaces 3 (some .int), Cond.methodLink RL 146 yL_lastPlaceOf, Cond.static yL_lastPlaceOf, Cond.codeWith yL_lastPlaceOf cL_lastPlaceOf 4 (some .int) [(0, 9, 12, 27)], Cond.methodLink RL 39 yX4_lastPlaceOf, Cond.instanceMethod yX4_lastPlaceOf, Cond.selects RX4 yX4_lastPlaceOf yX4_lastPlaceOf, Cond.code yX4_lastPlaceOf cX4_lastPlaceOf 2 (some .int), Cond.methodLink RX4 139 yX2_lastPlaceWith, Cond.methodLink RL 148 yX5_lastPlaceOf, Cond.instanceMethod yX5_lastPlaceOf, Cond.selects RX5 yX5_lastPlaceOf yX5_lastPlaceOf, Cond.code yX5_lastPlaceOf cX5_lastPlaceOf 2 (some .int), Cond.methodLink RL 149 yL_letterSkip, Cond.static yL_letterSkip, Cond.codeWith yL_letterSkip cL_letterSkip 5 (some .int) [(0, 10, 13, 25), (0, 10, 17, 27)], Cond.methodLink RL 42 yX4_letterSkip, Cond.instanceMethod yX4_letterSkip, Cond.selects RX4 yX4_letterSkip yX4_letterSkip, Cond.code yX4_letterSkip cX4_letterSkip 3 (some .int), Cond.methodLink RX4 142 yX3_skipByLetter]
def wsL_law0_r22 : List Cond := [Cond.methodLink RL 151 yX5_letterSkip, Cond.instanceMethod yX5_letterSkip, Cond.selects RX5 yX5_letterSkip yX5_letterSkip, Cond.code yX5_letterSkip cX5_letterSkip 3 (some .int), Cond.methodLink RL 152 yL_endSkip, Cond.static yL_endSkip, Cond.codeWith yL_endSkip cL_endSkip 4 (some .int) [(0, 9, 12, 25)], Cond.methodLink RL 45 yX4_endSkip, Cond.instanceMethod yX4_endSkip, Cond.selects RX4 yX4_endSkip yX4_endSkip, Cond.code yX4_endSkip cX4_endSkip 2 (some .int), Cond.methodLink RX4 145 yX0_skipAt, Cond.methodLink RL 154 yX5_endSkip, Cond.instanceMethod yX5_endSkip, Cond.selects RX5 yX5_endSkip yX5_endSkip, Cond.code yX5_endSkip cX5_endSkip 2 (some .int), Cond.methodLink RL 155 yL_endSkipByTrying, Cond.static yL_endSkipByTrying, Cond.codeWith yL_endSkipByTrying cL_endSkipByTrying 4 (some .int) [(0, 9, 12, 25)], Cond.methodLink RL 48 yX4_endSkipByTrying, Cond.instanceMethod yX4_endSkipByTrying, Cond.selects RX4 yX4_endSkipByTrying yX4_endSkipByTrying, Cond.code yX4_endSkipByTrying cX4_endSkipByTrying 4 (some .int), Cond.methodLink RX4 148 yX4_endFits]
def wsL_law0_r23 : List Cond := [Cond.static yX4_endFits, Cond.code yX4_endFits cX4_endFits 4 (some .boolean), Cond.methodLink RX4 232 Lib.Math.max.name, Cond.methodLink RL 157 yX5_endSkipByTrying, Cond.instanceMethod yX5_endSkipByTrying, Cond.selects RX5 yX5_endSkipByTrying yX5_endSkipByTrying, Cond.code yX5_endSkipByTrying cX5_endSkipByTrying 2 (some .int), Cond.methodLink RL 158 yX4_border, Cond.instanceMethod yX4_border, Cond.selects RX4 yX4_border yX4_border, Cond.code yX4_border cX4_border 1 (some .int), Cond.methodLink RX4 152 yX0_wordPeriod, Cond.methodLink RL 161 yX5_border, Cond.instanceMethod yX5_border, Cond.selects RX5 yX5_border yX5_border, Cond.code yX5_border cX5_border 1 (some .int), Cond.methodLink RL 162 yX4_period, Cond.instanceMethod yX4_period, Cond.selects RX4 yX4_period yX4_period, Cond.code yX4_period cX4_period 1 (some .int), Cond.methodLink RL 165 yX5_period, Cond.instanceMethod yX5_period, Cond.selects RX5 yX5_period yX5_period, Cond.code yX5_period cX5_period 1 (some .int)]
def wsL_law0_r24 : List Cond := [Cond.methodLink RL 166 yX4_occurrences, Cond.instanceMethod yX4_occurrences, Cond.selects RX4 yX4_occurrences yX4_occurrences, Cond.code yX4_occurrences cX4_occurrences 1 (some .int), Cond.methodLink RX4 155 yX4_tryToTheEnd, Cond.instanceMethod yX4_tryToTheEnd, Cond.selects RX4 yX4_tryToTheEnd yX4_tryToTheEnd, Cond.code yX4_tryToTheEnd cX4_tryToTheEnd 3 none, Cond.methodLink RX4 205 yX3_copy, Cond.methodLink RL 169 yX5_occurrences, Cond.instanceMethod yX5_occurrences, Cond.selects RX5 yX5_occurrences yX5_occurrences, Cond.code yX5_occurrences cX5_occurrences 1 (some .int), Cond.methodLink RX5 101 yX5_stands, Cond.instanceMethod yX5_stands, Cond.selects RX5 yX5_stands yX5_stands, Cond.code yX5_stands cX5_stands 3 (some .int), Cond.methodLink RL 170 yX4_occurrencesByTrying, Cond.instanceMethod yX4_occurrencesByTrying, Cond.selects RX4 yX4_occurrencesByTrying yX4_occurrencesByTrying, Cond.code yX4_occurrencesByTrying cX4_occurrencesByTrying 3 (some .int), Cond.methodLink RX4 158 yX2_isEmpty, Cond.methodLink RX4 161 yX4_wordStandsAt, Cond.instanceMethod yX4_wordStandsAt]
def wsL_law0_r25 : List Cond := [Cond.selects RX4 yX4_wordStandsAt yX4_wordStandsAt, Cond.code yX4_wordStandsAt cX4_wordStandsAt 3 (some .boolean), Cond.methodLink RL 173 yX5_occurrencesByTrying, Cond.instanceMethod yX5_occurrencesByTrying, Cond.selects RX5 yX5_occurrencesByTrying yX5_occurrencesByTrying, Cond.code yX5_occurrencesByTrying cX5_occurrencesByTrying 1 (some .int), Cond.methodLink RL 174 yX4_comparedWith, Cond.instanceMethod yX4_comparedWith, Cond.selects RX4 yX4_comparedWith yX4_comparedWith, Cond.code yX4_comparedWith cX4_comparedWith 3 (some .int), Cond.methodLink RL 177 yX5_comparedWith, Cond.instanceMethod yX5_comparedWith, Cond.selects RX5 yX5_comparedWith yX5_comparedWith, Cond.code yX5_comparedWith cX5_comparedWith 6 (some .int), Cond.methodLink RL 178 yL_differenceAt, Cond.static yL_differenceAt, Cond.codeWith yL_differenceAt cL_differenceAt 4 (some .int) [(0, 9, 12, 25), (0, 9, 15, 13)], Cond.methodLink RL 51 yX4_differenceAt, Cond.instanceMethod yX4_differenceAt, Cond.selects RX4 yX4_differenceAt yX4_differenceAt, Cond.code yX4_differenceAt cX4_differenceAt 2 (some .int), Cond.methodLink RX4 172 yX3_lastDifferenceAt, Cond.methodLink RL 180 yX5_differenceAt, Cond.instanceMethod yX5_differenceAt]
def wsL_law0_r26 : List Cond := [Cond.selects RX5 yX5_differenceAt yX5_differenceAt, Cond.code yX5_differenceAt cX5_differenceAt 2 (some .int), Cond.methodLink RL 183 yL_appendText, Cond.static yL_appendText, Cond.codeWith yL_appendText cL_appendText 5 (some .int) [(0, 9, 12, 27), (0, 9, 16, 13)], Cond.methodLink RL 54 yX4_appendText, Cond.instanceMethod yX4_appendText, Cond.selects RX4 yX4_appendText yX4_appendText, Cond.code yX4_appendText cX4_appendText 5 (some .int), Cond.methodLink RX4 175 yX4_countCharacters, Cond.static yX4_countCharacters, Cond.code yX4_countCharacters cX4_countCharacters 4 (some .int), Cond.methodLink RX4 186 yX4_codeOf, Cond.static yX4_codeOf, Cond.code yX4_codeOf cX4_codeOf 3 (some .int), Cond.constantLong RX4 226 (255), Cond.methodLink RX4 228 yX4_isZeroFrom, Cond.static yX4_isZeroFrom, Cond.code yX4_isZeroFrom cX4_isZeroFrom 3 (some .boolean), Cond.methodLink RL 186 yX5_appendText, Cond.instanceMethod yX5_appendText, Cond.selects RX5 yX5_appendText yX5_appendText, Cond.code yX5_appendText cX5_appendText 9 (some .int), Cond.constantLong RX5 104 (255)]
def wsL_law0_r27 : List Cond := [Cond.constantLong RX5 106 (33), Cond.constantLong RX5 108 (126), Cond.methodLink RL 187 yX4_clearText, Cond.instanceMethod yX4_clearText, Cond.selects RX4 yX4_clearText yX4_clearText, Cond.code yX4_clearText cX4_clearText 2 (some .int), Cond.methodLink RL 190 yX5_clearText, Cond.instanceMethod yX5_clearText, Cond.selects RX5 yX5_clearText yX5_clearText, Cond.code yX5_clearText cX5_clearText 2 (some .int), Cond.methodLink RL 191 yX4_textLength, Cond.instanceMethod yX4_textLength, Cond.selects RX4 yX4_textLength yX4_textLength, Cond.code yX4_textLength cX4_textLength 1 (some .int), Cond.methodLink RL 194 yX5_textLength, Cond.instanceMethod yX5_textLength, Cond.selects RX5 yX5_textLength yX5_textLength, Cond.code yX5_textLength cX5_textLength 1 (some .int), Cond.methodLink RL 195 yX4_textError, Cond.methodLink RL 198 yX5_textError, Cond.instanceMethod yX5_textError, Cond.selects RX5 yX5_textError yX5_textError, Cond.code yX5_textError cX5_textError 1 (some .int), Cond.methodLink RL 199 yL_undo]
def wsL_law0_r28 : List Cond := [Cond.static yL_undo, Cond.codeWith yL_undo cL_undo 3 (some .int) [(0, 8, 11, 13)], Cond.methodLink RL 58 yX4_undo, Cond.instanceMethod yX4_undo, Cond.selects RX4 yX4_undo yX4_undo, Cond.code yX4_undo cX4_undo 1 (some .int), Cond.methodLink RX4 196 yX1_size, Cond.instanceMethod yX1_size, Cond.selects RX1 yX1_size yX1_size, Cond.code yX1_size cX1_size 1 (some .int), Cond.methodLink RX4 199 yX1_giveBack, Cond.instanceMethod yX1_giveBack, Cond.selects RX1 yX1_giveBack yX1_giveBack, Cond.code yX1_giveBack cX1_giveBack 2 none, Cond.methodLink RL 201 yX5_undo, Cond.instanceMethod yX5_undo, Cond.selects RX5 yX5_undo yX5_undo, Cond.code yX5_undo cX5_undo 2 (some .int), Cond.methodLink RL 202 yX4_undoCount, Cond.instanceMethod yX4_undoCount, Cond.selects RX4 yX4_undoCount yX4_undoCount, Cond.code yX4_undoCount cX4_undoCount 1 (some .int), Cond.methodLink RL 205 yX5_undoCount, Cond.instanceMethod yX5_undoCount]
def wsL_law0_r29 : List Cond := [Cond.selects RX5 yX5_undoCount yX5_undoCount, Cond.code yX5_undoCount cX5_undoCount 1 (some .int), Cond.methodLink RL 206 yL_saveState, Cond.static yL_saveState, Cond.codeWith yL_saveState cL_saveState 4 (some .int) [(0, 9, 12, 25)], Cond.methodLink RL 61 yX4_saveState, Cond.instanceMethod yX4_saveState, Cond.selects RX4 yX4_saveState yX4_saveState, Cond.code yX4_saveState cX4_saveState 2 (some .int), Cond.methodLink RX4 202 yX4_refuseUnlessSlot, Cond.static yX4_refuseUnlessSlot, Cond.code yX4_refuseUnlessSlot cX4_refuseUnlessSlot 1 none, Cond.methodLink RL 208 yX5_saveState, Cond.instanceMethod yX5_saveState, Cond.selects RX5 yX5_saveState yX5_saveState, Cond.code yX5_saveState cX5_saveState 3 (some .int), Cond.methodLink RX5 114 yX5_isSlot, Cond.static yX5_isSlot, Cond.code yX5_isSlot cX5_isSlot 1 (some .boolean), Cond.methodLink RL 209 yL_loadState, Cond.static yL_loadState, Cond.codeWith yL_loadState cL_loadState 4 (some .int) [(0, 9, 12, 25), (0, 9, 15, 13)], Cond.methodLink RL 64 yX4_loadState, Cond.instanceMethod yX4_loadState]
def wsL_law0_r30 : List Cond := [Cond.selects RX4 yX4_loadState yX4_loadState, Cond.code yX4_loadState cX4_loadState 2 (some .int), Cond.methodLink RL 211 yX5_loadState, Cond.instanceMethod yX5_loadState, Cond.selects RX5 yX5_loadState yX5_loadState, Cond.code yX5_loadState cX5_loadState 3 (some .int)]
def wsL_law0 : List Cond := (wsL_law0_r1 ++ (wsL_law0_r2 ++ (wsL_law0_r3 ++ (wsL_law0_r4 ++ (wsL_law0_r5 ++ (wsL_law0_r6 ++ (wsL_law0_r7 ++ (wsL_law0_r8 ++ (wsL_law0_r9 ++ (wsL_law0_r10 ++ (wsL_law0_r11 ++ (wsL_law0_r12 ++ (wsL_law0_r13 ++ (wsL_law0_r14 ++ (wsL_law0_r15 ++ (wsL_law0_r16 ++ (wsL_law0_r17 ++ (wsL_law0_r18 ++ (wsL_law0_r19 ++ (wsL_law0_r20 ++ (wsL_law0_r21 ++ (wsL_law0_r22 ++ (wsL_law0_r23 ++ (wsL_law0_r24 ++ (wsL_law0_r25 ++ (wsL_law0_r26 ++ (wsL_law0_r27 ++ (wsL_law0_r28 ++ (wsL_law0_r29 ++ wsL_law0_r30))))))))))))))))))))))))))))) ++ wsX40 ++ wsX50 ++ wsX30 ++ wsX00 ++ wsX10 ++ wsX20 ++ ([] : List Cond)
def wsL_law : List Cond := wsL_law0 ++ (vx_atS RX4 89 "java/lang/IllegalStateException" ["java/lang/RuntimeException", "java/lang/Exception"]).filter goodWord ++ (vx_atS RX4 169 "java/lang/IndexOutOfBoundsException" ["java/lang/RuntimeException", "java/lang/Exception"]).filter goodWord ++ (vx_atS RX4 183 "java/lang/IllegalArgumentException" ["java/lang/RuntimeException", "java/lang/Exception"]).filter goodWord
abbrev vwCl : List vw_C := [(RX0, TX0, 3), (RX1, TX1, 3), (RX2, TX2, 2), (RX3, TX3, 8), (RX4, TX4, 7), (RX5, TX5, 8)]
end
section
/-! numbers: every int that the walks reckon with is iI z, z an Int -/
def iI (z : Int) : Int32 := Int32.ofInt z
theorem iI_t {z : Int} (h1 : -2147483648 ≤ z) (h2 : z < 2147483648) : (iI z).toInt = z := Int32.toInt_ofInt_of_le (by omega) (by omega)
theorem iI_of (x : Int32) : iI x.toInt = x := Int32.ofInt_toInt x
theorem iI_lo (x : Int32) : -2147483648 ≤ x.toInt := Int32.le_toInt x
theorem iI_hi (x : Int32) : x.toInt < 2147483648 := Int32.toInt_lt x
theorem iI_add (a b : Int) : iI a + iI b = iI (a + b) := (Int32.ofInt_add a b).symm
theorem iI_sub (a b : Int) : iI a - iI b = iI (a - b) := (Int32.ofInt_sub a b).symm
theorem iI_mul (a b : Int) : iI a * iI b = iI (a * b) := (Int32.ofInt_mul a b).symm
theorem iI_nat (n : Nat) : iI (n : Int) = Int32.ofNat n := Int32.ofInt_eq_ofNat
theorem iI_cl {z : Int} (h0 : 0 ≤ z) (h1 : z < 2147483648) : (iI z).toNatClampNeg = z.toNat := Int32.toNatClampNeg_ofInt_of_le (by omega) (by omega)
theorem iI_in {z : Int} {N : Nat} (h0 : 0 ≤ z) (h1 : z < N) (hN : N < 2147483648) : vp_in (iI z) N := vp_in_iff.mpr (by rw [iI_t (by omega) (by omega)]; exact ⟨h0, h1⟩)
theorem iI_inj {a b : Int} (ha : -2147483648 ≤ a) (ha' : a < 2147483648) (hb : -2147483648 ≤ b) (hb' : b < 2147483648) (h : iI a = iI b) : a = b := by
  have := congrArg Int32.toInt h
  rwa [iI_t ha ha', iI_t hb hb'] at this
/-! the classes of the rows -/
def tysA (cy : Nat → ClassId) : List (ClassId × FieldType) := [(cy 0, .int), (cy 1, .boolean), (cy 2, .object RX3), (cy 3, .long)]
/-! what the tables say of the nest, and of the texts -/
def tbF : List (Nat × String × String × String) := [(57, RX3, "line", "LBackwardSearch$Row;"), (71, RX3, "word", "LBackwardSearch$Row;"), (127, RX3, "found", "LBackwardSearch$Row;"), (121, RX3, "place", "I"), (102, RX3, "looks", "I"), (124, RX3, "compared", "I")]
def tbM : List (String × Nat × MethodName) := [(RX4, 9, yX3_init), (RX4, 21, yX0_init), (RX1, 17, yX3_init)]
def tbS : List (Nat × String) := [(222, "the text has an error"), (224, "the text has too many letters"), (87, "the search is over"), (213, "there is no such place"), (215, "there is no such letter"), (167, "the word does not fit there"), (170, "the word is empty"), (181, "no characters that can be appended"), (184, "the text would be too long"), (197, "no state is recorded"), (217, "there is no such slot"), (208, "nothing was saved in the slot")]
def TB (U : State) : Prop := (∀ q ∈ tbF, va_Nw (.fieldLinkNest RX4 q.1 q.2.1 q.2.2.1 q.2.2.2 RX4) U) ∧ (∀ q ∈ tbM, va_Nw (.methodLinkNest q.1 q.2.1 q.2.2 RX4) U) ∧ ∀ q ∈ tbS, ∃ a, vk_R RX4 q.1 q.2 a U
theorem TB.same {u U : State} (h : u.vm = U.vm) (hT : TB u) : TB U :=
  ⟨fun q hq => va_Nw.same rfl h (hT.1 q hq), fun q hq => va_Nw.same rfl h (hT.2.1 q hq), fun q hq => by
    obtain ⟨a, ha⟩ := hT.2.2 q hq
    exact ⟨a, vk_R.same h.symm ha⟩⟩
theorem TB.warm {s U : State} (hW : s.WarmedH U.vm) (hT : TB s) : TB U :=
  ⟨fun q hq => va_Nw.warmF hW (hT.1 q hq), fun q hq => va_Nw.warmM hW (hT.2.1 q hq), fun q hq => by
    obtain ⟨a, ha⟩ := hT.2.2 q hq
    exact ⟨a, vk_R.warm hW ha⟩⟩
/-! what a throw asks of the machine's statics -/
def SZ (A : Nat → Prop) (U : State) (H : Heap) : Prop := vx_Zq Bundle.tN "UNASSIGNED_STACK" Bundle.steD A U H ∧ vx_Zq Bundle.tN "SUPPRESSED_SENTINEL" Bundle.listD A U H
/-! worlds whose cells are put anew at their places -/
def wput : va_W → List Nat → va_W → va_W
  | ws, i :: is, e :: es => wput (ws.set i e) is es
  | ws, _, _ => ws
theorem wput_get (is : List Nat) : ∀ (ws w1 : va_W), is.length = w1.length → ∀ (k : Nat) (q : Nat × va_E), (wput ws is w1)[k]? = some q → (∃ j : Nat, w1[j]? = some q) ∨ (ws[k]? = some q ∧ k ∉ is) := by
  induction is with
  | nil =>
    intro ws w1 hl k q h
    cases w1 with
    | nil => exact Or.inr ⟨h, List.not_mem_nil⟩
    | cons a t => simp at hl
  | cons i is ih =>
    intro ws w1 hl k q h
    cases w1 with
    | nil => simp at hl
    | cons e es =>
      rcases ih (ws.set i e) es (by simpa using hl) k q h with ⟨j, hj⟩ | ⟨h1, h2⟩
      · exact Or.inl ⟨j + 1, by simpa using hj⟩
      · rw [List.getElem?_set] at h1
        by_cases hik : i = k
        · subst hik
          simp only [if_true] at h1
          split at h1
          · exact Or.inl ⟨0, by simpa using h1⟩
          · cases h1
        · rw [if_neg hik] at h1
          exact Or.inr ⟨h1, by simp only [List.mem_cons, not_or]; exact ⟨fun e => hik e.symm, h2⟩⟩
theorem map_set_fst (ws : va_W) (i : Nat) (e : Nat × va_E) (h : (ws.map Prod.fst)[i]? = some e.1) : (ws.set i e).map Prod.fst = ws.map Prod.fst := by
  rw [List.map_set]
  apply List.ext_getElem?
  intro j
  rw [List.getElem?_set]
  split
  · rename_i hij
    subst hij
    have hlt := (List.getElem?_eq_some_iff.mp h).1
    rw [if_pos hlt, h]
  · rfl
theorem wput_fst (is : List Nat) : ∀ (ws w1 : va_W), is.map (fun i => (ws.map Prod.fst)[i]?) = (w1.map Prod.fst).map some → (wput ws is w1).map Prod.fst = ws.map Prod.fst := by
  induction is with
  | nil => intro ws w1 _; cases w1 <;> rfl
  | cons i is ih =>
    intro ws w1 h
    cases w1 with
    | nil => rfl
    | cons e es =>
      simp only [List.map_cons, List.cons.injEq] at h
      have h1 := map_set_fst ws i e h.1
      show (wput (ws.set i e) is es).map Prod.fst = _
      rw [ih (ws.set i e) es (by rw [h1]; exact h.2), h1]
theorem va_D_fst {A : Nat → Prop} {ws ws' : va_W} (h : ws'.map Prod.fst = ws.map Prod.fst) (hD : va_D A ws) : va_D A ws' := by
  have key : ∀ (k : Nat) (q : Nat × va_E), ws'[k]? = some q → ∃ q', ws[k]? = some q' ∧ q'.1 = q.1 := by
    intro k q hk
    have h1 : (ws.map Prod.fst)[k]? = some q.1 := by rw [← h, List.getElem?_map, hk]; rfl
    rw [List.getElem?_map] at h1
    cases hw : ws[k]? with
    | none => rw [hw] at h1; cases h1
    | some q' => rw [hw] at h1; exact ⟨q', rfl, by simpa using h1⟩
  refine ⟨fun i j p q hi hj hpq => ?_, fun k q hk => ?_⟩
  · obtain ⟨p', hp', e1⟩ := key i p hi
    obtain ⟨q', hq', e2⟩ := key j q hj
    exact hD.1 i j p' q' hp' hq' (by rw [e1, e2, hpq])
  · obtain ⟨q', hq', e1⟩ := key k q hk
    rw [← e1]; exact hD.2 k q' hq'
theorem mapget_fst {ws wc : va_W} {is : List Nat} (hC : is.map (fun i => ws[i]?) = wc.map some) : is.map (fun i => (ws.map Prod.fst)[i]?) = (wc.map Prod.fst).map some := by
  have := congrArg (List.map (Option.map Prod.fst)) hC
  simpa [List.map_map, Function.comp_def, List.getElem?_map] using this
theorem wjoin {A0 : Nat → Prop} {D : va_G} {cl : List vw_C} {ws wc w1 : va_W} {H H1 : Heap} (hP : va_P D cl ws H) (hD : va_D A0 ws) (is : List Nat) (hC : is.map (fun i => ws[i]?) = wc.map some) (hL : w1.map Prod.fst = wc.map Prod.fst)
    (hk : ∀ q : Nat, q < H.size → ¬ va_A wc H.size q → H1[q]? = H[q]?) (hP1 : va_P D cl w1 H1) : va_P D cl (wput ws is w1) H1 ∧ va_D A0 (wput ws is w1) := by
  have hlen : is.length = w1.length := by
    have h1 := congrArg List.length hC
    have h2 := congrArg List.length hL
    simp only [List.length_map] at h1 h2
    omega
  refine ⟨fun k q hq => ?_, va_D_fst (wput_fst is ws w1 (by rw [hL]; exact mapget_fst hC)) hD⟩
  rcases wput_get is ws w1 hlen k q hq with ⟨j, hj⟩ | ⟨h1, h2⟩
  · exact hP1 j q hj
  · refine (hP k q h1).kept (hk q.1 (hP k q h1).lt ?_)
    rintro (⟨j, e, hj⟩ | h)
    · have h3 : (is.map (fun i => ws[i]?))[j]? = some (some (q.1, e)) := by rw [hC, List.getElem?_map, hj]; rfl
      rw [List.getElem?_map] at h3
      cases hij : is[j]? with
      | none => rw [hij] at h3; cases h3
      | some i =>
        rw [hij] at h3
        have h4 : ws[i]? = some (q.1, e) := by simpa using h3
        have := hD.1 k i q (q.1, e) h1 h4 rfl
        exact h2 (this ▸ List.mem_of_getElem? hij)
    · exact absurd (hP k q h1).lt (Nat.not_lt.mpr h)
/-! contracts of methods that make nothing: the world w before, w' u behind, at the same addresses -/
def Pcw (D : va_G) (cy : Nat → ClassId) (av : List Value) (w : va_W) (sz : Nat) : Array Value → State → Prop := va_Pc av (fun U => U.heap.size = sz ∧ va_P D vwCl w U.heap ∧ va_K D vwCl (tysA cy) U ∧ va_D (fun _ => True) w ∧ TB U)
def Ci (l : Launch) (D : va_G) (cy : Nat → ClassId) (y : MethodName) (ws : List Cond) (fr lo : Nat) (av : List Value) (w : va_W) {S : Type} (post : Int32 → S → Prop) (w' : S → va_W) : Prop :=
  ∀ sz : Nat, Met l y ws { frames := fr, cells := 0, slots := 0, locals := lo } (Pcw D cy av w sz) (va_Qi post (fun u t => va_P D vwCl (w' u) t.heap) (va_A w sz)) 0 0 (va_A w sz)
def Cv (l : Launch) (D : va_G) (cy : Nat → ClassId) (y : MethodName) (ws : List Cond) (fr lo : Nat) (av : List Value) (w : va_W) {S : Type} (post : S → Prop) (w' : S → va_W) : Prop :=
  ∀ sz : Nat, Met l y ws { frames := fr, cells := 0, slots := 0, locals := lo } (Pcw D cy av w sz) (va_Qv post (fun u t => va_P D vwCl (w' u) t.heap) (va_A w sz)) 0 0 (va_A w sz)
theorem Pcw.blind {D : va_G} {cy : Nat → ClassId} {av : List Value} {w : va_W} {sz : Nat} : FrameBlind (Pcw D cy av w sz) := fun a U g mk q => by
  obtain ⟨q0, q1, qP, qK, qD, qT⟩ := q
  exact ⟨q0, q1, qP, va_K.moved (u := U) (U := U.calling g mk a) (Vm.Alike.refl U.vm) qK, qD, TB.same rfl qT⟩
/-- how a walk begins -/
theorem met_of {l : Launch} {D : va_G} {cy : Nat → ClassId} {y : MethodName} {ws ws0 : List Cond} {fr lo maxL : Nat} {av : List Value} {w : va_W} {Qc : Array Value → State → Outcome → State → Prop} {cc : ByteArray} {ret : Option FieldType} {sz : Nat}
    (hy : plainName y.cls = true) (hw : ws = Cond.code y cc maxL ret :: ws0) (hle : Nat.ble (lg_sl av).length maxL = true)
    (body : ∀ (p : Program) (e : Env) (s : State) (m : MethodId) (args : Array Value) (below : List Frame) (meth : Method) (c : Code), p.tables.exec = Jvm.exec → c.code = cc → meth.sig.returnType = ret → (∀ w ∈ ws, w.before args s = true) → s.vm.findClass y.cls = some m.cls → meth.locks = false → c.maxLocals = maxL →
      s.heap.size = sz → va_P D vwCl w s.heap → va_K D vwCl (tysA cy) s → va_D (va_A w sz) w → TB s → (∀ q : Nat, s.heap.size ≤ q → va_A w sz q) → ∀ ls : Array Slot, lv_has ls maxL (lv_args 0 av) →
      W p l e ({ frames := fr, cells := 0, slots := 0, locals := lo } : Room) s m args below meth c s.heap [] 0 0 (MQ below Qc args s 0 0 (va_A w sz)) (F0 m 0 ls [])) :
    Met l y ws { frames := fr, cells := 0, slots := 0, locals := lo } (Pcw D cy av w sz) Qc 0 0 (va_A w sz) := by
  refine Met.ofW (cc := cc) (maxL := maxL) (ret := ret) hy hw ?_
  intro p e s m args below meth c s₁ B hml hv
  obtain ⟨rfl, hsz, hP, hK, hD0, hT⟩ := hv
  have hts := atoms_spec (ws := ws) B.pre
  have hl := lv_entry av (n := maxL) (Nat.le_of_ble_eq_true hle)
  rw [lg_entry_eq]
  exact body p e s m _ below meth c B.exec B.bytes B.returns hts (findClass_of_methodNamed B.named) B.notSynchronized hml hsz hP hK hD0.self hT (fun q h => Or.inr (by rw [← hsz]; exact h)) _ hl
theorem Ci_of {l : Launch} {D : va_G} {cy : Nat → ClassId} {y : MethodName} {ws ws0 : List Cond} {fr lo maxL : Nat} {av : List Value} {w : va_W} {S : Type} {post : Int32 → S → Prop} {w' : S → va_W} {cc : ByteArray} {ret : Option FieldType}
    (hy : plainName y.cls = true) (hw : ws = Cond.code y cc maxL ret :: ws0) (hle : Nat.ble (lg_sl av).length maxL = true)
    (body : ∀ (p : Program) (e : Env) (s : State) (m : MethodId) (args : Array Value) (below : List Frame) (meth : Method) (c : Code) (A : Nat → Prop), p.tables.exec = Jvm.exec → c.code = cc → meth.sig.returnType = ret → (∀ w ∈ ws, w.before args s = true) → s.vm.findClass y.cls = some m.cls → meth.locks = false → c.maxLocals = maxL →
      va_P D vwCl w s.heap → va_K D vwCl (tysA cy) s → va_D A w → TB s → (∀ q : Nat, s.heap.size ≤ q → A q) → ∀ ls : Array Slot, lv_has ls maxL (lv_args 0 av) →
      W p l e ({ frames := fr, cells := 0, slots := 0, locals := lo } : Room) s m args below meth c s.heap [] 0 0 (MQ below (va_Qi post (fun u t => va_P D vwCl (w' u) t.heap) A) args s 0 0 A) (F0 m 0 ls [])) :
    Ci l D cy y ws fr lo av w post w' := fun sz => met_of hy hw hle fun p e s m args below meth c h1 h2 h3 h4 h5 h6 h7 _ h9 h10 h11 h12 h13 ls hl => body p e s m args below meth c _ h1 h2 h3 h4 h5 h6 h7 h9 h10 h11 h12 h13 ls hl
theorem Cv_of {l : Launch} {D : va_G} {cy : Nat → ClassId} {y : MethodName} {ws ws0 : List Cond} {fr lo maxL : Nat} {av : List Value} {w : va_W} {S : Type} {post : S → Prop} {w' : S → va_W} {cc : ByteArray} {ret : Option FieldType}
    (hy : plainName y.cls = true) (hw : ws = Cond.code y cc maxL ret :: ws0) (hle : Nat.ble (lg_sl av).length maxL = true)
    (body : ∀ (p : Program) (e : Env) (s : State) (m : MethodId) (args : Array Value) (below : List Frame) (meth : Method) (c : Code) (A : Nat → Prop), p.tables.exec = Jvm.exec → c.code = cc → meth.sig.returnType = ret → (∀ w ∈ ws, w.before args s = true) → s.vm.findClass y.cls = some m.cls → meth.locks = false → c.maxLocals = maxL →
      va_P D vwCl w s.heap → va_K D vwCl (tysA cy) s → va_D A w → TB s → (∀ q : Nat, s.heap.size ≤ q → A q) → ∀ ls : Array Slot, lv_has ls maxL (lv_args 0 av) →
      W p l e ({ frames := fr, cells := 0, slots := 0, locals := lo } : Room) s m args below meth c s.heap [] 0 0 (MQ below (va_Qv post (fun u t => va_P D vwCl (w' u) t.heap) A) args s 0 0 A) (F0 m 0 ls [])) :
    Cv l D cy y ws fr lo av w post w' := fun sz => met_of hy hw hle fun p e s m args below meth c h1 h2 h3 h4 h5 h6 h7 _ h9 h10 h11 h12 h13 ls hl => body p e s m args below meth c _ h1 h2 h3 h4 h5 h6 h7 h9 h10 h11 h12 h13 ls hl
/-! bits of the walks -/
theorem z_nb {z : Int} (h0 : 0 ≤ z) (h1 : z ≤ 1) : narrow .boolean (.int (iI z)) = .int (iI z) := by
  rcases (show z = 0 ∨ z = 1 by omega) with rfl | rfl <;> decide +kernel
theorem z_fb {z : Int} (h0 : 0 ≤ z) (h1 : z ≤ 1) : fits .boolean (.int (iI z)) = true := by
  rcases (show z = 0 ∨ z = 1 by omega) with rfl | rfl <;> decide +kernel
theorem upd_same (f : Nat → Int32) (k : Nat) (x : Int32) : upd f k x k = x := pk_us
theorem upd_ne (f : Nat → Int32) {k j : Nat} (x : Int32) (h : j ≠ k) : upd f k x j = f j := pk_un h
theorem upd_more {f g : Nat → Int32} {i : Int} (h0 : 0 ≤ i) (h : ∀ j : Nat, (j : Int) < i → g j = f j) : ∀ j : Nat, (j : Int) < i + 1 → upd g i.toNat (f i.toNat) j = f j := by
  intro j hj
  by_cases hji : j = i.toNat
  · subst hji; exact upd_same _ _ _
  · rw [upd_ne _ _ hji]; exact h j (by omega)
/-! a contract over a larger world -/
theorem va_A_mono {w W0 : va_W} {sz : Nat} {is : List Nat} (hC : is.map (fun i => W0[i]?) = w.map some) : ∀ q, va_A w sz q → va_A W0 sz q := by
  rintro q (⟨k, e, hk⟩ | h)
  · have h3 : (is.map (fun i => W0[i]?))[k]? = some (some (q, e)) := by rw [hC, List.getElem?_map, hk]; rfl
    rw [List.getElem?_map] at h3
    cases hij : is[k]? with
    | none => rw [hij] at h3; cases h3
    | some i => rw [hij] at h3; exact Or.inl ⟨i, e, by simpa using h3⟩
  · exact Or.inr h
theorem Pcw.sub {D : va_G} {cy : Nat → ClassId} {av : List Value} {w W0 : va_W} {sz : Nat} {a : Array Value} {U : State} (h : Pcw D cy av W0 sz a U) (is : List Nat) (hC : is.map (fun i => W0[i]?) = w.map some) (hnd : va_nd is = true) : Pcw D cy av w sz a U := by
  obtain ⟨q0, q1, qP, qK, qD, qT⟩ := h
  exact ⟨q0, q1, qP.sub is (by
    have := congrArg (List.filterMap id) hC
    simpa [List.filterMap_map] using this), qK, qD.sub is hnd hC, qT⟩
theorem Cv.frame {l : Launch} {D : va_G} {cy : Nat → ClassId} {y : MethodName} {ws : List Cond} {fr lo : Nat} {av : List Value} {w W0 : va_W} {S S2 : Type} {post : S → Prop} {w' : S → va_W} {post2 : S2 → Prop} {w2 : S2 → va_W} (hM : Cv l D cy y ws fr lo av w post w') (is : List Nat) (hC : is.map (fun i => W0[i]?) = w.map some) (hnd : va_nd is = true) (hsm : ∀ u, (w' u).map Prod.fst = w.map Prod.fst)
    (himp : ∀ u, post u → ∃ u2, post2 u2 ∧ wput W0 is (w' u) = w2 u2) : Cv l D cy y ws fr lo av W0 post2 w2 := by
  intro sz p e ha hc hk s m args below hf happ hpre hT
  obtain ⟨n, o, h1, h2, h3, ⟨⟨u, ho, hp, hB⟩, hF⟩, L, hfe, hL⟩ := hM sz p e ha hc hk s m args below hf happ (hpre.sub is hC hnd) hT
  have hsz : s.heap.size = sz := hpre.2.1
  have hkk : ∀ q : Nat, q < s.heap.size → ¬ va_A w s.heap.size q → (stepsAlone p.tables e n s).heap[q]? = s.heap[q]? := by rw [hsz]; exact fun q q1 q2 => hF.2 q (by rw [hsz]; exact q1) q2
  have hj := (wjoin (A0 := fun _ => True) hpre.2.2.1 hpre.2.2.2.2.1 is hC (hsm u) hkk hB).1
  obtain ⟨u2, hp2, hw2⟩ := himp u hp
  exact ⟨n, o, h1, h2, h3, ⟨⟨u2, ho, hp2, by show va_P D vwCl (w2 u2) _; rw [← hw2]; exact hj⟩, hF.1, fun q q1 q2 => hF.2 q q1 (fun z => q2 (va_A_mono hC q z))⟩, L, hfe, fun q hq => va_A_mono hC _ (hL q hq)⟩
theorem Ci.frame {l : Launch} {D : va_G} {cy : Nat → ClassId} {y : MethodName} {ws : List Cond} {fr lo : Nat} {av : List Value} {w W0 : va_W} {S S2 : Type} {post : Int32 → S → Prop} {w' : S → va_W} {post2 : Int32 → S2 → Prop} {w2 : S2 → va_W} (hM : Ci l D cy y ws fr lo av w post w') (is : List Nat) (hC : is.map (fun i => W0[i]?) = w.map some) (hnd : va_nd is = true) (hsm : ∀ u, (w' u).map Prod.fst = w.map Prod.fst)
    (himp : ∀ r u, post r u → ∃ u2, post2 r u2 ∧ wput W0 is (w' u) = w2 u2) : Ci l D cy y ws fr lo av W0 post2 w2 := by
  intro sz p e ha hc hk s m args below hf happ hpre hT
  obtain ⟨n, o, h1, h2, h3, ⟨⟨r, u, ho, hp, hB⟩, hF⟩, L, hfe, hL⟩ := hM sz p e ha hc hk s m args below hf happ (hpre.sub is hC hnd) hT
  have hsz : s.heap.size = sz := hpre.2.1
  have hkk : ∀ q : Nat, q < s.heap.size → ¬ va_A w s.heap.size q → (stepsAlone p.tables e n s).heap[q]? = s.heap[q]? := by rw [hsz]; exact fun q q1 q2 => hF.2 q (by rw [hsz]; exact q1) q2
  have hj := (wjoin (A0 := fun _ => True) hpre.2.2.1 hpre.2.2.2.2.1 is hC (hsm u) hkk hB).1
  obtain ⟨u2, hp2, hw2⟩ := himp r u hp
  exact ⟨n, o, h1, h2, h3, ⟨⟨r, u2, ho, hp2, by show va_P D vwCl (w2 u2) _; rw [← hw2]; exact hj⟩, hF.1, fun q q1 q2 => hF.2 q q1 (fun z => q2 (va_A_mono hC q z))⟩, L, hfe, fun q hq => va_A_mono hC _ (hL q hq)⟩
/-- the same contract, told in other words -/
theorem Ci.tell {l : Launch} {D : va_G} {cy : Nat → ClassId} {y : MethodName} {ws : List Cond} {fr lo : Nat} {av : List Value} {w : va_W} {S S2 : Type} {post : Int32 → S → Prop} {w' : S → va_W} {post2 : Int32 → S2 → Prop} {w2 : S2 → va_W} (hM : Ci l D cy y ws fr lo av w post w') (himp : ∀ r u, post r u → ∃ u2, post2 r u2 ∧ w' u = w2 u2) : Ci l D cy y ws fr lo av w post2 w2 := by
  intro sz p e ha hc hk s m args below hf happ hpre hT
  obtain ⟨n, o, h1, h2, h3, ⟨⟨r, u, ho, hp, hB⟩, hF⟩, hL⟩ := hM sz p e ha hc hk s m args below hf happ hpre hT
  obtain ⟨u2, hp2, hw2⟩ := himp r u hp
  exact ⟨n, o, h1, h2, h3, ⟨⟨r, u2, ho, hp2, by show va_P D vwCl (w2 u2) _; rw [← hw2]; exact hB⟩, hF⟩, hL⟩
/-! longs -/
def lI (z : Int) : Int64 := Int64.ofInt z
theorem lI_t {z : Int} (h1 : -9223372036854775808 ≤ z) (h2 : z < 9223372036854775808) : (lI z).toInt = z := Int64.toInt_ofInt_of_le (by omega) (by omega)
theorem lI_sub (a b : Int) : lI a - lI b = lI (a - b) := (Int64.ofInt_sub a b).symm
theorem lI_inj {a b : Int} (ha : -9223372036854775808 ≤ a) (ha' : a < 9223372036854775808) (hb : -9223372036854775808 ≤ b) (hb' : b < 9223372036854775808) (h : lI a = lI b) : a = b := by
  have := congrArg Int64.toInt h
  rwa [lI_t ha ha', lI_t hb hb'] at this
theorem iI_l {z : Int} (h1 : -2147483648 ≤ z) (h2 : z < 2147483648) : (iI z).toInt64 = lI z := by
  apply Int64.toInt_inj.mp
  rw [Int32.toInt_toInt64, iI_t h1 h2, lI_t (by omega) (by omega)]
theorem lg_cmp_iI (x y : Int64) : lg_cmp x y = iI (if x.toInt < y.toInt then -1 else if x.toInt = y.toInt then 0 else 1) := by
  unfold lg_cmp
  simp only [gt_iff_lt, Int64.lt_iff_toInt_lt, ← Int64.toInt_inj]
  rcases Int.lt_trichotomy x.toInt y.toInt with h | h | h
  · rw [if_neg (by omega), if_neg (by omega), if_pos h]; rfl
  · rw [if_neg (by omega), if_pos h, if_neg (by omega), if_pos h]; rfl
  · rw [if_pos h, if_neg (by omega), if_neg (by omega)]; rfl
theorem r_l (x : Int32) : x.toInt64 = lI x.toInt := by
  apply Int64.toInt_inj.mp
  have := iI_lo x
  have := iI_hi x
  rw [Int32.toInt_toInt64, lI_t (by omega) (by omega)]
section ZR
variable {p : Program} {l : Launch} {e : Env} {R : Room} {s : State} {m : MethodId} {args : Array Value} {below : List Frame} {meth : Method} {c : Code} {H : Heap} {locs : List Loc} {cells slots : Nat} {Q : State → Prop}
variable {cc : ByteArray} {pc : Nat} {ls : Array Slot} {rest st0 : List Value} {D : va_G} {cy : Nat → ClassId} {A A0 : Nat → Prop} {H0 : Heap} {W0 w : va_W}
/-! ends -/
theorem z_iret {S : Type} {post : Int32 → S → Prop} {w' : S → va_W} {v : Int32} (hx : p.tables.exec = Jvm.exec) (hb : c.code = cc) (hr : meth.sig.returnType = some .int) (hlocks : meth.locks = false) (hS : va_S A s.heap H locs) (u : S) (hp : post v u) (hP : va_P D vwCl (w' u) H) (hdg : decode cc pc = .ok (.ireturn, 1)) :
    W p l e R s m args below meth c H locs cells slots (MQ below (va_Qi post (fun u t => va_P D vwCl (w' u) t.heap) A) args s cells slots A) (F0 m pc ls [.int v]) :=
  W.iret hx hb hr (fun t ht _ => ⟨⟨v, u, rfl, hp, by show va_P D vwCl (w' u) t.heap; rw [ht]; exact hP⟩, hS.F ht⟩) hS.2.2 hdg hlocks
theorem z_zret {S : Type} {post : Int32 → S → Prop} {w' : S → va_W} {v : Int32} (hx : p.tables.exec = Jvm.exec) (hb : c.code = cc) (hr : meth.sig.returnType = some .boolean) (hlocks : meth.locks = false) (hn : narrow .boolean (.int v) = .int v) (hS : va_S A s.heap H locs) (u : S) (hp : post v u) (hP : va_P D vwCl (w' u) H) (hdg : decode cc pc = .ok (.ireturn, 1)) :
    W p l e R s m args below meth c H locs cells slots (MQ below (va_Qi post (fun u t => va_P D vwCl (w' u) t.heap) A) args s cells slots A) (F0 m pc ls [.int v]) :=
  W.zret hx hb hr hn (fun t ht _ => ⟨⟨v, u, rfl, hp, by show va_P D vwCl (w' u) t.heap; rw [ht]; exact hP⟩, hS.F ht⟩) hS.2.2 hdg hlocks
theorem z_vret {S : Type} {post : S → Prop} {w' : S → va_W} (hx : p.tables.exec = Jvm.exec) (hb : c.code = cc) (hr : meth.sig.returnType = none) (hlocks : meth.locks = false) (hS : va_S A s.heap H locs) (u : S) (hp : post u) (hP : va_P D vwCl (w' u) H) (hdg : decode cc pc = .ok (.return_, 1)) :
    W p l e R s m args below meth c H locs cells slots (MQ below (va_Qv post (fun u t => va_P D vwCl (w' u) t.heap) A) args s cells slots A) (F0 m pc ls []) :=
  W.vret hx hb hr (fun t ht _ => ⟨⟨u, rfl, hp, by show va_P D vwCl (w' u) t.heap; rw [ht]; exact hP⟩, hS.F ht⟩) hS.2.2 hdg hlocks
/-! numbers on the stack -/
theorem z_add (hx : p.tables.exec = Jvm.exec) (hb : c.code = cc) {a b : Int} (hdg : decode cc pc = .ok (.iadd, 1)) (k : W p l e R s m args below meth c H locs cells slots Q (F0 m (pc + 1) ls (.int (iI (a + b)) :: rest))) : W p l e R s m args below meth c H locs cells slots Q (F0 m pc ls (.int (iI b) :: .int (iI a) :: rest)) := lv_iadd hx hb hdg (by rw [iI_add]; exact k)
theorem z_sub (hx : p.tables.exec = Jvm.exec) (hb : c.code = cc) {a b : Int} (hdg : decode cc pc = .ok (.isub, 1)) (k : W p l e R s m args below meth c H locs cells slots Q (F0 m (pc + 1) ls (.int (iI (a - b)) :: rest))) : W p l e R s m args below meth c H locs cells slots Q (F0 m pc ls (.int (iI b) :: .int (iI a) :: rest)) := lv_isub hx hb hdg (by rw [iI_sub]; exact k)
theorem z_mul (hx : p.tables.exec = Jvm.exec) (hb : c.code = cc) {a b : Int} (hdg : decode cc pc = .ok (.imul, 1)) (k : W p l e R s m args below meth c H locs cells slots Q (F0 m (pc + 1) ls (.int (iI (a * b)) :: rest))) : W p l e R s m args below meth c H locs cells slots Q (F0 m pc ls (.int (iI b) :: .int (iI a) :: rest)) := lv_imul hx hb hdg (by rw [iI_mul]; exact k)
theorem z_iinc (hx : p.tables.exec = Jvm.exec) (hb : c.code = cc) {i nL k : Nat} {n z : Int} {lv lv' : List (Nat × Value)} (hdg : decode cc pc = .ok (.iinc i n, 3)) (h : lv_has ls nL lv) (hk : lv[k]? = some (i, .int (iI z))) (hn : i < nL) (hl : (i, Value.int (iI (z + n))) :: lv.filter (fun q => !(q.1 == i) && !(q.1 + 1 == i && q.2.category == 2)) = lv')
    (kk : ∀ ls' : Array Slot, lv_has ls' nL lv' → W p l e R s m args below meth c H locs cells slots Q (F0 m (pc + 3) ls' rest)) : W p l e R s m args below meth c H locs cells slots Q (F0 m pc ls rest) := lv_iinc hx hb hdg h hk (iI_add z n) hn hl kk
/-! branches, over Int -/
theorem z_if_eq (hx : p.tables.exec = Jvm.exec) (hb : c.code = cc) {x : Int32} {a : Int} {off : Int} {tgt : Nat} (ea : x.toInt = a) (hdg : decode cc pc = .ok (.ifCond .eq off, 3)) (ht : (pc : Int) + off = (tgt : Int)) (kt : a = 0 → W p l e R s m args below meth c H locs cells slots Q (F0 m tgt ls rest)) (kf : ¬ a = 0 → W p l e R s m args below meth c H locs cells slots Q (F0 m (pc + 3) ls rest)) : W p l e R s m args below meth c H locs cells slots Q (F0 m pc ls (.int x :: rest)) :=
  lv_if_eq hx hb hdg ht (fun h => kt (by rw [← ea, h]; rfl)) (fun h => kf (fun h2 => h (Int32.toInt_inj.mp (by rw [ea, h2]; rfl))))
theorem z_if_ne (hx : p.tables.exec = Jvm.exec) (hb : c.code = cc) {x : Int32} {a : Int} {off : Int} {tgt : Nat} (ea : x.toInt = a) (hdg : decode cc pc = .ok (.ifCond .ne off, 3)) (ht : (pc : Int) + off = (tgt : Int)) (kt : ¬ a = 0 → W p l e R s m args below meth c H locs cells slots Q (F0 m tgt ls rest)) (kf : a = 0 → W p l e R s m args below meth c H locs cells slots Q (F0 m (pc + 3) ls rest)) : W p l e R s m args below meth c H locs cells slots Q (F0 m pc ls (.int x :: rest)) :=
  lv_if_ne hx hb hdg ht (fun h => kt (fun h2 => h (Int32.toInt_inj.mp (by rw [ea, h2]; rfl)))) (fun h => kf (by rw [← ea, h]; rfl))
theorem z_if_lt (hx : p.tables.exec = Jvm.exec) (hb : c.code = cc) {x : Int32} {a : Int} {off : Int} {tgt : Nat} (ea : x.toInt = a) (hdg : decode cc pc = .ok (.ifCond .lt off, 3)) (ht : (pc : Int) + off = (tgt : Int)) (kt : a < 0 → W p l e R s m args below meth c H locs cells slots Q (F0 m tgt ls rest)) (kf : ¬ a < 0 → W p l e R s m args below meth c H locs cells slots Q (F0 m (pc + 3) ls rest)) : W p l e R s m args below meth c H locs cells slots Q (F0 m pc ls (.int x :: rest)) :=
  lv_if_lt hx hb hdg ht (fun h => kt (by rw [← ea]; exact Int32.lt_iff_toInt_lt.mp h)) (fun h => kf (fun h2 => h (Int32.lt_iff_toInt_lt.mpr (by rw [ea]; exact h2))))
theorem z_if_ge (hx : p.tables.exec = Jvm.exec) (hb : c.code = cc) {x : Int32} {a : Int} {off : Int} {tgt : Nat} (ea : x.toInt = a) (hdg : decode cc pc = .ok (.ifCond .ge off, 3)) (ht : (pc : Int) + off = (tgt : Int)) (kt : 0 ≤ a → W p l e R s m args below meth c H locs cells slots Q (F0 m tgt ls rest)) (kf : ¬ 0 ≤ a → W p l e R s m args below meth c H locs cells slots Q (F0 m (pc + 3) ls rest)) : W p l e R s m args below meth c H locs cells slots Q (F0 m pc ls (.int x :: rest)) :=
  lv_if_ge hx hb hdg ht (fun h => kt (by rw [← ea]; exact Int32.le_iff_toInt_le.mp h)) (fun h => kf (fun h2 => h (Int32.le_iff_toInt_le.mpr (by rw [ea]; exact h2))))
theorem z_if_gt (hx : p.tables.exec = Jvm.exec) (hb : c.code = cc) {x : Int32} {a : Int} {off : Int} {tgt : Nat} (ea : x.toInt = a) (hdg : decode cc pc = .ok (.ifCond .gt off, 3)) (ht : (pc : Int) + off = (tgt : Int)) (kt : 0 < a → W p l e R s m args below meth c H locs cells slots Q (F0 m tgt ls rest)) (kf : ¬ 0 < a → W p l e R s m args below meth c H locs cells slots Q (F0 m (pc + 3) ls rest)) : W p l e R s m args below meth c H locs cells slots Q (F0 m pc ls (.int x :: rest)) :=
  lv_if_gt hx hb hdg ht (fun h => kt (by rw [← ea]; exact Int32.lt_iff_toInt_lt.mp h)) (fun h => kf (fun h2 => h (Int32.lt_iff_toInt_lt.mpr (by rw [ea]; exact h2))))
theorem z_if_le (hx : p.tables.exec = Jvm.exec) (hb : c.code = cc) {x : Int32} {a : Int} {off : Int} {tgt : Nat} (ea : x.toInt = a) (hdg : decode cc pc = .ok (.ifCond .le off, 3)) (ht : (pc : Int) + off = (tgt : Int)) (kt : a ≤ 0 → W p l e R s m args below meth c H locs cells slots Q (F0 m tgt ls rest)) (kf : ¬ a ≤ 0 → W p l e R s m args below meth c H locs cells slots Q (F0 m (pc + 3) ls rest)) : W p l e R s m args below meth c H locs cells slots Q (F0 m pc ls (.int x :: rest)) :=
  lv_if_le hx hb hdg ht (fun h => kt (by rw [← ea]; exact Int32.le_iff_toInt_le.mp h)) (fun h => kf (fun h2 => h (Int32.le_iff_toInt_le.mpr (by rw [ea]; exact h2))))
theorem z_icmp_eq (hx : p.tables.exec = Jvm.exec) (hb : c.code = cc) {x y : Int32} {a b : Int} {off : Int} {tgt : Nat} (ea : x.toInt = a) (eb : y.toInt = b) (hdg : decode cc pc = .ok (.if_icmp .eq off, 3)) (ht : (pc : Int) + off = (tgt : Int)) (kt : a = b → W p l e R s m args below meth c H locs cells slots Q (F0 m tgt ls rest)) (kf : ¬ a = b → W p l e R s m args below meth c H locs cells slots Q (F0 m (pc + 3) ls rest)) : W p l e R s m args below meth c H locs cells slots Q (F0 m pc ls (.int y :: .int x :: rest)) :=
  lv_icmp_eq hx hb hdg ht (fun h => kt (by rw [← ea, ← eb, h])) (fun h => kf (fun h2 => h (Int32.toInt_inj.mp (by rw [ea, eb, h2]))))
theorem z_icmp_ne (hx : p.tables.exec = Jvm.exec) (hb : c.code = cc) {x y : Int32} {a b : Int} {off : Int} {tgt : Nat} (ea : x.toInt = a) (eb : y.toInt = b) (hdg : decode cc pc = .ok (.if_icmp .ne off, 3)) (ht : (pc : Int) + off = (tgt : Int)) (kt : ¬ a = b → W p l e R s m args below meth c H locs cells slots Q (F0 m tgt ls rest)) (kf : a = b → W p l e R s m args below meth c H locs cells slots Q (F0 m (pc + 3) ls rest)) : W p l e R s m args below meth c H locs cells slots Q (F0 m pc ls (.int y :: .int x :: rest)) :=
  lv_icmp_ne hx hb hdg ht (fun h => kt (fun h2 => h (Int32.toInt_inj.mp (by rw [ea, eb, h2])))) (fun h => kf (by rw [← ea, ← eb, h]))
theorem z_icmp_lt (hx : p.tables.exec = Jvm.exec) (hb : c.code = cc) {x y : Int32} {a b : Int} {off : Int} {tgt : Nat} (ea : x.toInt = a) (eb : y.toInt = b) (hdg : decode cc pc = .ok (.if_icmp .lt off, 3)) (ht : (pc : Int) + off = (tgt : Int)) (kt : a < b → W p l e R s m args below meth c H locs cells slots Q (F0 m tgt ls rest)) (kf : ¬ a < b → W p l e R s m args below meth c H locs cells slots Q (F0 m (pc + 3) ls rest)) : W p l e R s m args below meth c H locs cells slots Q (F0 m pc ls (.int y :: .int x :: rest)) :=
  lv_icmp_lt hx hb hdg ht (fun h => kt (by rw [← ea, ← eb]; exact Int32.lt_iff_toInt_lt.mp h)) (fun h => kf (fun h2 => h (Int32.lt_iff_toInt_lt.mpr (by rw [ea, eb]; exact h2))))
theorem z_icmp_ge (hx : p.tables.exec = Jvm.exec) (hb : c.code = cc) {x y : Int32} {a b : Int} {off : Int} {tgt : Nat} (ea : x.toInt = a) (eb : y.toInt = b) (hdg : decode cc pc = .ok (.if_icmp .ge off, 3)) (ht : (pc : Int) + off = (tgt : Int)) (kt : b ≤ a → W p l e R s m args below meth c H locs cells slots Q (F0 m tgt ls rest)) (kf : ¬ b ≤ a → W p l e R s m args below meth c H locs cells slots Q (F0 m (pc + 3) ls rest)) : W p l e R s m args below meth c H locs cells slots Q (F0 m pc ls (.int y :: .int x :: rest)) :=
  lv_icmp_ge hx hb hdg ht (fun h => kt (by rw [← ea, ← eb]; exact Int32.le_iff_toInt_le.mp h)) (fun h => kf (fun h2 => h (Int32.le_iff_toInt_le.mpr (by rw [ea, eb]; exact h2))))
theorem z_icmp_gt (hx : p.tables.exec = Jvm.exec) (hb : c.code = cc) {x y : Int32} {a b : Int} {off : Int} {tgt : Nat} (ea : x.toInt = a) (eb : y.toInt = b) (hdg : decode cc pc = .ok (.if_icmp .gt off, 3)) (ht : (pc : Int) + off = (tgt : Int)) (kt : b < a → W p l e R s m args below meth c H locs cells slots Q (F0 m tgt ls rest)) (kf : ¬ b < a → W p l e R s m args below meth c H locs cells slots Q (F0 m (pc + 3) ls rest)) : W p l e R s m args below meth c H locs cells slots Q (F0 m pc ls (.int y :: .int x :: rest)) :=
  lv_icmp_gt hx hb hdg ht (fun h => kt (by rw [← ea, ← eb]; exact Int32.lt_iff_toInt_lt.mp h)) (fun h => kf (fun h2 => h (Int32.lt_iff_toInt_lt.mpr (by rw [ea, eb]; exact h2))))
theorem z_icmp_le (hx : p.tables.exec = Jvm.exec) (hb : c.code = cc) {x y : Int32} {a b : Int} {off : Int} {tgt : Nat} (ea : x.toInt = a) (eb : y.toInt = b) (hdg : decode cc pc = .ok (.if_icmp .le off, 3)) (ht : (pc : Int) + off = (tgt : Int)) (kt : a ≤ b → W p l e R s m args below meth c H locs cells slots Q (F0 m tgt ls rest)) (kf : ¬ a ≤ b → W p l e R s m args below meth c H locs cells slots Q (F0 m (pc + 3) ls rest)) : W p l e R s m args below meth c H locs cells slots Q (F0 m pc ls (.int y :: .int x :: rest)) :=
  lv_icmp_le hx hb hdg ht (fun h => kt (by rw [← ea, ← eb]; exact Int32.le_iff_toInt_le.mp h)) (fun h => kf (fun h2 => h (Int32.le_iff_toInt_le.mpr (by rw [ea, eb]; exact h2))))
theorem z_i2l (hx : p.tables.exec = Jvm.exec) (hb : c.code = cc) {x : Int32} {z : Int} (hz : x.toInt64 = lI z) (hdg : decode cc pc = .ok (.i2l, 1)) (k : W p l e R s m args below meth c H locs cells slots Q (F0 m (pc + 1) ls (.long (lI z) :: rest))) : W p l e R s m args below meth c H locs cells slots Q (F0 m pc ls (.int x :: rest)) := lv_i2l hx hb hdg hz k
theorem z_lsub (hx : p.tables.exec = Jvm.exec) (hb : c.code = cc) {a b : Int} (hdg : decode cc pc = .ok (.lsub, 1)) (k : W p l e R s m args below meth c H locs cells slots Q (F0 m (pc + 1) ls (.long (lI (a - b)) :: rest))) : W p l e R s m args below meth c H locs cells slots Q (F0 m pc ls (.long (lI b) :: .long (lI a) :: rest)) := lv_lsub hx hb hdg (by rw [lI_sub]; exact k)
theorem z_ldc2 (hx : p.tables.exec = Jvm.exec) (hb : c.code = cc) {own : String} {index : Nat} {v : Int64} {z : Int} (hv : v = lI z) (hown : s.vm.findClass own = some m.cls) (hconst : (Jvm.Cond.constantLong own index v).before args s = true) (hdg : decode cc pc = .ok (.ldc2_w index, 3)) (k : W p l e R s m args below meth c H locs cells slots Q (F0 m (pc + 3) ls (.long (lI z) :: rest))) : W p l e R s m args below meth c H locs cells slots Q (F0 m pc ls rest) := lv_ldc2 hx hb hown hconst hdg (by rw [hv]; exact k)
theorem z_lcmp_lt (hx : p.tables.exec = Jvm.exec) (hb : c.code = cc) {x y : Int64} {a b : Int} {off : Int} {tgt : Nat} (ea : x.toInt = a) (eb : y.toInt = b) (hdg : decode cc pc = .ok (.lcmp, 1)) (hdg2 : decode cc (pc + 1) = .ok (.ifCond .lt off, 3)) (ht : ((pc + 1 : Nat) : Int) + off = (tgt : Int)) (kt : a < b → W p l e R s m args below meth c H locs cells slots Q (F0 m tgt ls rest)) (kf : ¬ a < b → W p l e R s m args below meth c H locs cells slots Q (F0 m (pc + 1 + 3) ls rest)) : W p l e R s m args below meth c H locs cells slots Q (F0 m pc ls (.long y :: .long x :: rest)) := by
  refine W.lcmp hx hb hdg ?_
  have h1 : lg_cmp x y = iI (if a < b then -1 else if a = b then 0 else 1) := by
    rw [← ea, ← eb]; exact lg_cmp_iI x y
  rw [h1]
  refine z_if_lt (tgt := tgt) hx hb (iI_t (by omega) (by omega)) hdg2 ht (fun h => kt (by omega)) (fun h => kf (by omega))
theorem z_lcmp_ge (hx : p.tables.exec = Jvm.exec) (hb : c.code = cc) {x y : Int64} {a b : Int} {off : Int} {tgt : Nat} (ea : x.toInt = a) (eb : y.toInt = b) (hdg : decode cc pc = .ok (.lcmp, 1)) (hdg2 : decode cc (pc + 1) = .ok (.ifCond .ge off, 3)) (ht : ((pc + 1 : Nat) : Int) + off = (tgt : Int)) (kt : b ≤ a → W p l e R s m args below meth c H locs cells slots Q (F0 m tgt ls rest)) (kf : ¬ b ≤ a → W p l e R s m args below meth c H locs cells slots Q (F0 m (pc + 1 + 3) ls rest)) : W p l e R s m args below meth c H locs cells slots Q (F0 m pc ls (.long y :: .long x :: rest)) := by
  refine W.lcmp hx hb hdg ?_
  have h1 : lg_cmp x y = iI (if a < b then -1 else if a = b then 0 else 1) := by
    rw [← ea, ← eb]; exact lg_cmp_iI x y
  rw [h1]
  refine z_if_ge (tgt := tgt) hx hb (iI_t (by omega) (by omega)) hdg2 ht (fun h => kt (by omega)) (fun h => kf (by omega))
theorem z_lcmp_gt (hx : p.tables.exec = Jvm.exec) (hb : c.code = cc) {x y : Int64} {a b : Int} {off : Int} {tgt : Nat} (ea : x.toInt = a) (eb : y.toInt = b) (hdg : decode cc pc = .ok (.lcmp, 1)) (hdg2 : decode cc (pc + 1) = .ok (.ifCond .gt off, 3)) (ht : ((pc + 1 : Nat) : Int) + off = (tgt : Int)) (kt : b < a → W p l e R s m args below meth c H locs cells slots Q (F0 m tgt ls rest)) (kf : ¬ b < a → W p l e R s m args below meth c H locs cells slots Q (F0 m (pc + 1 + 3) ls rest)) : W p l e R s m args below meth c H locs cells slots Q (F0 m pc ls (.long y :: .long x :: rest)) := by
  refine W.lcmp hx hb hdg ?_
  have h1 : lg_cmp x y = iI (if a < b then -1 else if a = b then 0 else 1) := by
    rw [← ea, ← eb]; exact lg_cmp_iI x y
  rw [h1]
  refine z_if_gt (tgt := tgt) hx hb (iI_t (by omega) (by omega)) hdg2 ht (fun h => kt (by omega)) (fun h => kf (by omega))
theorem z_lcmp_le (hx : p.tables.exec = Jvm.exec) (hb : c.code = cc) {x y : Int64} {a b : Int} {off : Int} {tgt : Nat} (ea : x.toInt = a) (eb : y.toInt = b) (hdg : decode cc pc = .ok (.lcmp, 1)) (hdg2 : decode cc (pc + 1) = .ok (.ifCond .le off, 3)) (ht : ((pc + 1 : Nat) : Int) + off = (tgt : Int)) (kt : a ≤ b → W p l e R s m args below meth c H locs cells slots Q (F0 m tgt ls rest)) (kf : ¬ a ≤ b → W p l e R s m args below meth c H locs cells slots Q (F0 m (pc + 1 + 3) ls rest)) : W p l e R s m args below meth c H locs cells slots Q (F0 m pc ls (.long y :: .long x :: rest)) := by
  refine W.lcmp hx hb hdg ?_
  have h1 : lg_cmp x y = iI (if a < b then -1 else if a = b then 0 else 1) := by
    rw [← ea, ← eb]; exact lg_cmp_iI x y
  rw [h1]
  refine z_if_le (tgt := tgt) hx hb (iI_t (by omega) (by omega)) hdg2 ht (fun h => kt (by omega)) (fun h => kf (by omega))
theorem z_lcmp_eq (hx : p.tables.exec = Jvm.exec) (hb : c.code = cc) {x y : Int64} {a b : Int} {off : Int} {tgt : Nat} (ea : x.toInt = a) (eb : y.toInt = b) (hdg : decode cc pc = .ok (.lcmp, 1)) (hdg2 : decode cc (pc + 1) = .ok (.ifCond .eq off, 3)) (ht : ((pc + 1 : Nat) : Int) + off = (tgt : Int)) (kt : a = b → W p l e R s m args below meth c H locs cells slots Q (F0 m tgt ls rest)) (kf : ¬ a = b → W p l e R s m args below meth c H locs cells slots Q (F0 m (pc + 1 + 3) ls rest)) : W p l e R s m args below meth c H locs cells slots Q (F0 m pc ls (.long y :: .long x :: rest)) := by
  refine W.lcmp hx hb hdg ?_
  have h1 : lg_cmp x y = iI (if a < b then -1 else if a = b then 0 else 1) := by
    rw [← ea, ← eb]; exact lg_cmp_iI x y
  rw [h1]
  refine z_if_eq (tgt := tgt) hx hb (iI_t (by omega) (by omega)) hdg2 ht (fun h => kt (by omega)) (fun h => kf (by omega))
theorem z_lcmp_ne (hx : p.tables.exec = Jvm.exec) (hb : c.code = cc) {x y : Int64} {a b : Int} {off : Int} {tgt : Nat} (ea : x.toInt = a) (eb : y.toInt = b) (hdg : decode cc pc = .ok (.lcmp, 1)) (hdg2 : decode cc (pc + 1) = .ok (.ifCond .ne off, 3)) (ht : ((pc + 1 : Nat) : Int) + off = (tgt : Int)) (kt : ¬ a = b → W p l e R s m args below meth c H locs cells slots Q (F0 m tgt ls rest)) (kf : a = b → W p l e R s m args below meth c H locs cells slots Q (F0 m (pc + 1 + 3) ls rest)) : W p l e R s m args below meth c H locs cells slots Q (F0 m pc ls (.long y :: .long x :: rest)) := by
  refine W.lcmp hx hb hdg ?_
  have h1 : lg_cmp x y = iI (if a < b then -1 else if a = b then 0 else 1) := by
    rw [← ea, ← eb]; exact lg_cmp_iI x y
  rw [h1]
  refine z_if_ne (tgt := tgt) hx hb (iI_t (by omega) (by omega)) hdg2 ht (fun h => kt (by omega)) (fun h => kf (by omega))
/-! rows of ints -/
theorem z_iald (hx : p.tables.exec = Jvm.exec) (hb : c.code = cc) {a : Nat} (hK : va_K D vwCl (tysA cy) s) (hP : va_P D vwCl W0 H) (q0 : Nat) {n : Nat} {f : Nat → Int32} (ha : W0[q0]? = some (a, .inl (cy 0, n, .inl f))) {z : Int} (h0 : 0 ≤ z) (h1 : z < n) (hn : n < 2147483648) (hdg : decode cc pc = .ok (.iaload, 1))
    (kk : W p l e R s m args below meth c H locs cells slots Q (F0 m (pc + 1) ls (.int (f z.toNat) :: rest))) : W p l e R s m args below meth c H locs cells slots Q (F0 m pc ls (.int (iI z) :: .ref a :: rest)) :=
  va_iald hx hb hK hP q0 0 ha rfl (iI_in h0 h1 hn) hdg (by rw [iI_cl h0 (by omega)]; exact kk)
theorem z_iast (hx : p.tables.exec = Jvm.exec) (hb : c.code = cc) {a : Nat} (hK : va_K D vwCl (tysA cy) s) (hP : va_P D vwCl W0 H) (hD : va_D A W0) (hS : va_S A H0 H locs) (q0 : Nat) {n : Nat} {f : Nat → Int32} (ha : W0[q0]? = some (a, .inl (cy 0, n, .inl f))) {z : Int} {x : Int32} (h0 : 0 ≤ z) (h1 : z < n) (hn : n < 2147483648) (hdg : decode cc pc = .ok (.iastore, 1))
    (kk : ∀ (H1 : Heap) (locs1 : List Loc), va_P D vwCl (W0.set q0 (a, .inl (cy 0, n, .inl (upd f z.toNat x)))) H1 → va_D A (W0.set q0 (a, .inl (cy 0, n, .inl (upd f z.toNat x)))) → va_S A H0 H1 locs1 → W p l e R s m args below meth c H1 locs1 cells slots Q (F0 m (pc + 1) ls rest)) : W p l e R s m args below meth c H locs cells slots Q (F0 m pc ls (.int x :: .int (iI z) :: .ref a :: rest)) :=
  va_iast hx hb hK hP hD hS q0 0 ha rfl (iI_in h0 h1 hn) hdg (by rw [iI_cl h0 (by omega)]; exact kk)
theorem z_aldq (hx : p.tables.exec = Jvm.exec) (hb : c.code = cc) {a : Nat} (hK : va_K D vwCl (tysA cy) s) (hP : va_P D vwCl W0 H) (q0 : Nat) {n : Nat} {f : Nat → Option Nat} (ha : W0[q0]? = some (a, .inl (cy 2, n, .inr (.inr (.inr (.inr f)))))) {z : Int} (h0 : 0 ≤ z) (h1 : z < n) (hn : n < 2147483648) {b : Nat} (hv : f z.toNat = some b) (hdg : decode cc pc = .ok (.aaload, 1))
    (kk : W p l e R s m args below meth c H locs cells slots Q (F0 m (pc + 1) ls (.ref b :: rest))) : W p l e R s m args below meth c H locs cells slots Q (F0 m pc ls (.int (iI z) :: .ref a :: rest)) :=
  va_aldq (C := RX3) hx hb hK hP q0 2 ha rfl (iI_in h0 h1 hn) hdg (by rw [iI_cl h0 (by omega), hv]; exact kk)
theorem z_alen (hx : p.tables.exec = Jvm.exec) (hb : c.code = cc) {a : Nat} (hK : va_K D vwCl (tysA cy) s) (hP : va_P D vwCl W0 H) (q0 t0 : Nat) {cA : ClassId} {x : vp_A} (ha : W0[q0]? = some (a, .inl (cA, x))) {ty : FieldType} (ht : (tysA cy)[t0]? = some (cA, ty)) (hdg : decode cc pc = .ok (.arraylength, 1))
    (kk : W p l e R s m args below meth c H locs cells slots Q (F0 m (pc + 1) ls (.int (iI (x.1 : Nat)) :: rest))) : W p l e R s m args below meth c H locs cells slots Q (F0 m pc ls (.ref a :: rest)) :=
  va_alen hx hb hK hP q0 t0 ha ht (iI_nat x.1).symm hdg kk
/-- the int on top, in other words -/
theorem z_top {x x' : Int32} (h : x = x') (k : W p l e R s m args below meth c H locs cells slots Q (F0 m pc ls (.int x' :: rest))) : W p l e R s m args below meth c H locs cells slots Q (F0 m pc ls (.int x :: rest)) := by rw [h]; exact k
theorem z_mmax (hml : c.maxLocals = ls.size) (hx : p.tables.exec = Jvm.exec) (hb : c.code = cc) {own : String} {index : Nat} (hown : s.vm.findClass own = some m.cls) (hlink : (Cond.methodLink own index Lib.Math.max.name).before args s = true) (hstat : (Cond.static Lib.Math.max.name).before args s = true) (hini : (Cond.initialized "java/lang/Math").before args s = true) (hcode : (Cond.code Lib.Math.max.name Lib.Math.max.code 2 (some .int)).before args s = true)
    (hframes : 1 ≤ R.frames) (hlocals : (rest.map fun v => v.category).sum + 13 ≤ R.locals) (hc : cells ≤ R.cells) (hs : slots ≤ R.slots) {a b : Int} (ha : -2147483648 ≤ a) (ha' : a < 2147483648) (hb1 : -2147483648 ≤ b) (hb2 : b < 2147483648) (hdg : decode cc pc = .ok (.invokestatic index, 3))
    (kk : ∀ z : Int, (a < b ∧ z = b) ∨ (b ≤ a ∧ z = a) → W p l e R s m args below meth c H locs cells slots Q (F0 m (pc + 3) ls (.int (iI z) :: rest))) : W p l e R s m args below meth c H locs cells slots Q (F0 m pc ls (.int (iI b) :: .int (iI a) :: rest)) := by
  refine va_mmax hx hb hml hown hlink hstat hini hcode hframes hlocals hc hs hdg ?_
  have e : iI a < iI b ↔ a < b := by rw [Int32.lt_iff_toInt_lt, iI_t ha ha', iI_t hb1 hb2]
  by_cases h : a < b
  · rw [if_pos (e.mpr h)]; exact kk b (Or.inl ⟨h, rfl⟩)
  · rw [if_neg (fun q => h (e.mp q))]; exact kk a (Or.inr ⟨by omega, rfl⟩)
theorem z_mmin (hml : c.maxLocals = ls.size) (hx : p.tables.exec = Jvm.exec) (hb : c.code = cc) {own : String} {index : Nat} (hown : s.vm.findClass own = some m.cls) (hlink : (Cond.methodLink own index Lib.Math.min.name).before args s = true) (hstat : (Cond.static Lib.Math.min.name).before args s = true) (hini : (Cond.initialized "java/lang/Math").before args s = true) (hcode : (Cond.code Lib.Math.min.name Lib.Math.min.code 2 (some .int)).before args s = true)
    (hframes : 1 ≤ R.frames) (hlocals : (rest.map fun v => v.category).sum + 13 ≤ R.locals) (hc : cells ≤ R.cells) (hs : slots ≤ R.slots) {a b : Int} (ha : -2147483648 ≤ a) (ha' : a < 2147483648) (hb1 : -2147483648 ≤ b) (hb2 : b < 2147483648) (hdg : decode cc pc = .ok (.invokestatic index, 3))
    (kk : ∀ z : Int, (b < a ∧ z = b) ∨ (a ≤ b ∧ z = a) → W p l e R s m args below meth c H locs cells slots Q (F0 m (pc + 3) ls (.int (iI z) :: rest))) : W p l e R s m args below meth c H locs cells slots Q (F0 m pc ls (.int (iI b) :: .int (iI a) :: rest)) := by
  refine va_mmin hx hb hml hown hlink hstat hini hcode hframes hlocals hc hs hdg ?_
  have e : iI b < iI a ↔ b < a := by rw [Int32.lt_iff_toInt_lt, iI_t ha ha', iI_t hb1 hb2]
  by_cases h : b < a
  · rw [if_pos (e.mpr h)]; exact kk b (Or.inl ⟨h, rfl⟩)
  · rw [if_neg (fun q => h (e.mp q))]; exact kk a (Or.inr ⟨by omega, rfl⟩)
/-! calls -/
variable {y : MethodName} {bytes : ByteArray} {maxL nL n index fr lo : Nat} {ret : Option FieldType} {ws ws0 Ts : List Cond} {own C : String} {b : Addr} {As : List Value} {S : Type}
theorem pre_of {av : List Value} (hK : va_K D vwCl (tysA cy) s) (hT : TB s) (hP : va_P D vwCl W0 H) (hD : va_D A0 W0) (is : List Nat) (hC : is.map (fun i => W0[i]?) = w.map some) (hnd : va_nd is = true) : FrameBlind (Pcw D cy av w H.size) ∧ ∀ U : State, U.heap = H → s.WarmedH U.vm → Pcw D cy av w H.size av.toArray U := by
  have hPc : va_P D vwCl w H := hP.sub is (by
    have := congrArg (List.filterMap id) hC
    simpa [List.filterMap_map] using this)
  have hDc : va_D A0 w := hD.sub is hnd hC
  exact ⟨Pcw.blind, fun U hU hW => ⟨rfl, by rw [hU], by rw [hU]; exact hPc, va_K.moved hW.alike hK, hDc.weaken (fun _ _ _ _ => trivial), TB.warm hW hT⟩⟩
theorem zrecv_of {q : vw_C} {q0 ci : Nat} {fs : List Value} (hK : va_K D vwCl (tysA cy) s) (hP : va_P D vwCl W0 H) (hc : vwCl[ci]? = some q) (hq : q.1 = C) (he : W0[q0]? = some (b, .inr (ci, fs))) : ∃ cellB : Cell, H[b]? = some cellB ∧ cellB.vm.isStatics = false ∧ s.vm.findClass C = some cellB.cls := by
  subst hq
  exact va_recv hK hP hc he
theorem z_cVi {post : Int32 → S → Prop} {w' : S → va_W} (F : CallFix p m c cc nL s args Ts own) (hM : Ci l D cy y ws fr lo (.ref b :: As) w post w') (hg : GoodIn Ts (wsV own index C y ws)) (hw : ws = Cond.code y bytes maxL ret :: ws0)
    (hd : y.cls = C ∧ y.cls ≠ "java/lang/invoke/MethodHandle" ∧ y.cls ≠ "java/lang/invoke/VarHandle" ∧ (parseMethodDescriptor y.desc).map (fun d => d.parameters.length) = some n) (hR : fr + 1 ≤ R.frames ∧ 8 + (maxL + 11) + lo ≤ R.locals)
    (hK : va_K D vwCl (tysA cy) s) (hT : TB s) (hP : va_P D vwCl W0 H) (hD : va_D A0 W0) (hS : va_S A0 H0 H locs) (hA : ∀ q : Nat, H0.size ≤ q → A0 q) (is : List Nat) (hC : is.map (fun i => W0[i]?) = w.map some) (hnd : va_nd is = true)
    (q0 ci : Nat) {qc : vw_C} {fs : List Value} (hc : vwCl[ci]? = some qc) (hq : qc.1 = C) (he : W0[q0]? = some (b, .inr (ci, fs))) (hsm : ∀ u, (w' u).map Prod.fst = w.map Prod.fst) (hn : As.length = n) (hsz : ls.size = nL) (hst : st0 = As.reverse ++ .ref b :: rest) (hcat : (rest.map fun v => v.category).sum ≤ 8)
    (hdg : decode cc pc = .ok (.invokevirtual index, 3)) (hcs : cells ≤ R.cells ∧ slots ≤ R.slots)
    (kk : ∀ (r : Int32) (u : S) (H1 : Heap) (locs1 : List Loc), post r u → va_P D vwCl (wput W0 is (w' u)) H1 → va_D A0 (wput W0 is (w' u)) → va_S A0 H0 H1 locs1 → W p l e R s m args below meth c H1 locs1 cells slots Q (F0 m (pc + 3) ls (.int r :: rest))) : W p l e R s m args below meth c H locs cells slots Q (F0 m pc ls st0) := by
  have hF := va_free (wc := w) hD hS hA is hC
  refine va_calli (va_runV (As := As) (rest := rest) F (hM H.size) (cwV n F.2.2.2.2 hg hw rfl rfl hd hR) ⟨(pre_of hK hT hP hD is hC hnd).1, zrecv_of hK hP hc hq he, (pre_of hK hT hP hD is hC hnd).2⟩ rfl hn hsz hst (lv_room hcat) hdg hcs) hS (fun q _ h => hF q h) hF (fun r u t H1 locs1 ht _ hw1 hB _ hk1 hS1 => ?_)
  rw [ht] at hB
  obtain ⟨h1, h2⟩ := wjoin hP hD is hC (hsm u) hk1 hB
  exact kk r u H1 locs1 hw1 h1 h2 hS1
theorem z_cVv {post : S → Prop} {w' : S → va_W} (F : CallFix p m c cc nL s args Ts own) (hM : Cv l D cy y ws fr lo (.ref b :: As) w post w') (hg : GoodIn Ts (wsV own index C y ws)) (hw : ws = Cond.code y bytes maxL ret :: ws0)
    (hd : y.cls = C ∧ y.cls ≠ "java/lang/invoke/MethodHandle" ∧ y.cls ≠ "java/lang/invoke/VarHandle" ∧ (parseMethodDescriptor y.desc).map (fun d => d.parameters.length) = some n) (hR : fr + 1 ≤ R.frames ∧ 8 + (maxL + 11) + lo ≤ R.locals)
    (hK : va_K D vwCl (tysA cy) s) (hT : TB s) (hP : va_P D vwCl W0 H) (hD : va_D A0 W0) (hS : va_S A0 H0 H locs) (hA : ∀ q : Nat, H0.size ≤ q → A0 q) (is : List Nat) (hC : is.map (fun i => W0[i]?) = w.map some) (hnd : va_nd is = true)
    (q0 ci : Nat) {qc : vw_C} {fs : List Value} (hc : vwCl[ci]? = some qc) (hq : qc.1 = C) (he : W0[q0]? = some (b, .inr (ci, fs))) (hsm : ∀ u, (w' u).map Prod.fst = w.map Prod.fst) (hn : As.length = n) (hsz : ls.size = nL) (hst : st0 = As.reverse ++ .ref b :: rest) (hcat : (rest.map fun v => v.category).sum ≤ 8)
    (hdg : decode cc pc = .ok (.invokevirtual index, 3)) (hcs : cells ≤ R.cells ∧ slots ≤ R.slots)
    (kk : ∀ (u : S) (H1 : Heap) (locs1 : List Loc), post u → va_P D vwCl (wput W0 is (w' u)) H1 → va_D A0 (wput W0 is (w' u)) → va_S A0 H0 H1 locs1 → W p l e R s m args below meth c H1 locs1 cells slots Q (F0 m (pc + 3) ls rest)) : W p l e R s m args below meth c H locs cells slots Q (F0 m pc ls st0) := by
  have hF := va_free (wc := w) hD hS hA is hC
  refine va_callv (va_runV (As := As) (rest := rest) F (hM H.size) (cwV n F.2.2.2.2 hg hw rfl rfl hd hR) ⟨(pre_of hK hT hP hD is hC hnd).1, zrecv_of hK hP hc hq he, (pre_of hK hT hP hD is hC hnd).2⟩ rfl hn hsz hst (lv_room hcat) hdg hcs) hS (fun q _ h => hF q h) hF (fun u t H1 locs1 ht _ hw1 hB _ hk1 hS1 => ?_)
  rw [ht] at hB
  obtain ⟨h1, h2⟩ := wjoin hP hD is hC (hsm u) hk1 hB
  exact kk u H1 locs1 hw1 h1 h2 hS1
theorem z_cSi {post : Int32 → S → Prop} {w' : S → va_W} (F : CallFix p m c cc nL s args Ts own) (hM : Ci l D cy y ws fr lo As w post w') (hg : GoodIn Ts (va_wsS own index y ws)) (hw : ws = Cond.code y bytes maxL ret :: ws0)
    (hd : y.cls ≠ "java/lang/invoke/MethodHandle" ∧ y.cls ≠ "java/lang/invoke/VarHandle" ∧ (parseMethodDescriptor y.desc).map (fun d => d.parameters.length) = some n) (hR : fr + 1 ≤ R.frames ∧ 8 + (maxL + 11) + lo ≤ R.locals)
    (hK : va_K D vwCl (tysA cy) s) (hT : TB s) (hP : va_P D vwCl W0 H) (hD : va_D A0 W0) (hS : va_S A0 H0 H locs) (hA : ∀ q : Nat, H0.size ≤ q → A0 q) (is : List Nat) (hC : is.map (fun i => W0[i]?) = w.map some) (hnd : va_nd is = true)
    (hsm : ∀ u, (w' u).map Prod.fst = w.map Prod.fst) (hn : As.length = n) (hsz : ls.size = nL) (hst : st0 = As.reverse ++ rest) (hcat : (rest.map fun v => v.category).sum ≤ 8)
    (hdg : decode cc pc = .ok (.invokestatic index, 3)) (hcs : cells ≤ R.cells ∧ slots ≤ R.slots)
    (kk : ∀ (r : Int32) (u : S) (H1 : Heap) (locs1 : List Loc), post r u → va_P D vwCl (wput W0 is (w' u)) H1 → va_D A0 (wput W0 is (w' u)) → va_S A0 H0 H1 locs1 → W p l e R s m args below meth c H1 locs1 cells slots Q (F0 m (pc + 3) ls (.int r :: rest))) : W p l e R s m args below meth c H locs cells slots Q (F0 m pc ls st0) := by
  have hF := va_free (wc := w) hD hS hA is hC
  refine va_calli (va_runS (As := As) (rest := rest) F (hM H.size) (va_cwS n F.2.2.2.2 hg hw rfl rfl hd hR) (pre_of hK hT hP hD is hC hnd) rfl hn hsz hst (lv_room hcat) hdg hcs) hS (fun q _ h => hF q h) hF (fun r u t H1 locs1 ht _ hw1 hB _ hk1 hS1 => ?_)
  rw [ht] at hB
  obtain ⟨h1, h2⟩ := wjoin hP hD is hC (hsm u) hk1 hB
  exact kk r u H1 locs1 hw1 h1 h2 hS1
end ZR
end
section
/-! what a look finds: plain functions over rows of letters -/
def diffF : Nat → (Nat → Int32) → (Nat → Int32) → Int → Int
  | 0, _, _, _ => -1
  | m + 1, W, L, s => if W m = L (s + (m : Int)).toNat then diffF m W L s else (m : Int)
def DiffAt (m : Nat) (W L : Nat → Int32) (s k : Int) : Prop := -1 ≤ k ∧ k < m ∧ (0 ≤ k → ¬ W k.toNat = L (s + k).toNat) ∧ ∀ j : Nat, k < j → j < m → W j = L (s + (j : Int)).toNat
theorem diffF_spec (W L : Nat → Int32) (s : Int) : ∀ m : Nat, DiffAt m W L s (diffF m W L s)
  | 0 => ⟨by simp only [diffF]; omega, by simp only [diffF]; omega, fun h => by simp only [diffF] at h; omega, fun j _ h => absurd h (Nat.not_lt_zero _)⟩
  | m + 1 => by
    have ih := diffF_spec W L s m
    simp only [diffF]
    split
    · rename_i h
      refine ⟨ih.1, by have := ih.2.1; omega, ih.2.2.1, fun j h1 h2 => ?_⟩
      by_cases e : j = m
      · rw [e]; exact h
      · exact ih.2.2.2 j h1 (by omega)
    · rename_i h
      exact ⟨by omega, by omega, fun _ => by simpa using h, fun j h1 h2 => absurd h2 (by omega)⟩
theorem DiffAt.uniq {m : Nat} {W L : Nat → Int32} {s a b : Int} (h : DiffAt m W L s a) (g : DiffAt m W L s b) : a = b := by
  obtain ⟨h1, h2, h3, h4⟩ := h
  obtain ⟨g1, g2, g3, g4⟩ := g
  rcases Int.lt_trichotomy a b with q | q | q
  · have e : ((b.toNat : Nat) : Int) = b := by omega
    have := h4 b.toNat (by omega) (by omega)
    rw [e] at this
    exact absurd this (g3 (by omega))
  · exact q
  · have e : ((a.toNat : Nat) : Int) = a := by omega
    have := g4 a.toNat (by omega) (by omega)
    rw [e] at this
    exact absurd this (h3 (by omega))
theorem diffF_eq {m : Nat} {W L : Nat → Int32} {s k : Int} (h : DiffAt m W L s k) : k = diffF m W L s := h.uniq (diffF_spec W L s m)
theorem diffF_rng (m : Nat) (W L : Nat → Int32) (s : Int) : -1 ≤ diffF m W L s ∧ diffF m W L s < m := ⟨(diffF_spec W L s m).1, (diffF_spec W L s m).2.1⟩
theorem diffF_congr {m : Nat} {W L W' L' : Nat → Int32} {s : Int} (h0 : 0 ≤ s) (hW : ∀ j : Nat, j < m → W j = W' j) (hL : ∀ j : Nat, s ≤ j → (j : Int) < s + m → L j = L' j) : diffF m W L s = diffF m W' L' s := by
  induction m with
  | zero => rfl
  | succ m ih =>
    simp only [diffF]
    rw [hW m (by omega), hL (s + (m : Int)).toNat (by omega) (by omega), ih (fun j hj => hW j (by omega)) (fun j h1 h2 => hL j h1 (by omega))]
def lastF : Nat → (Nat → Int32) → Int32 → Int
  | 0, _, _ => -1
  | n + 1, f, x => if f n = x then (n : Int) else lastF n f x
def LastW (n : Nat) (f : Nat → Int32) (x : Int32) (k : Int) : Prop := -1 ≤ k ∧ k < n ∧ (0 ≤ k → f k.toNat = x) ∧ ∀ j : Nat, k < j → j < n → ¬ f j = x
theorem lastF_spec (f : Nat → Int32) (x : Int32) : ∀ n : Nat, LastW n f x (lastF n f x)
  | 0 => ⟨by simp only [lastF]; omega, by simp only [lastF]; omega, fun h => by simp only [lastF] at h; omega, fun j _ h => absurd h (Nat.not_lt_zero _)⟩
  | n + 1 => by
    have ih := lastF_spec f x n
    simp only [lastF]
    split
    · rename_i h
      exact ⟨by omega, by omega, fun _ => by simpa using h, fun j h1 h2 => absurd h2 (by omega)⟩
    · rename_i h
      refine ⟨ih.1, by have := ih.2.1; omega, ih.2.2.1, fun j h1 h2 => ?_⟩
      by_cases e : j = n
      · rw [e]; exact h
      · exact ih.2.2.2 j h1 (by omega)
theorem LastW.uniq {n : Nat} {f : Nat → Int32} {x : Int32} {a b : Int} (h : LastW n f x a) (g : LastW n f x b) : a = b := by
  obtain ⟨h1, h2, h3, h4⟩ := h
  obtain ⟨g1, g2, g3, g4⟩ := g
  rcases Int.lt_trichotomy a b with q | q | q
  · exact absurd (g3 (by omega)) (h4 b.toNat (by omega) (by omega))
  · exact q
  · exact absurd (h3 (by omega)) (g4 a.toNat (by omega) (by omega))
theorem lastF_eq {n : Nat} {f : Nat → Int32} {x : Int32} {k : Int} (h : LastW n f x k) : k = lastF n f x := h.uniq (lastF_spec f x n)
theorem lastF_rng (n : Nat) (f : Nat → Int32) (x : Int32) : -1 ≤ lastF n f x ∧ lastF n f x < n := ⟨(lastF_spec f x n).1, (lastF_spec f x n).2.1⟩
theorem lastF_congr {n : Nat} {f g : Nat → Int32} {x : Int32} (h : ∀ j : Nat, j < n → f j = g j) : lastF n f x = lastF n g x := by
  induction n with
  | zero => rfl
  | succ n ih => simp only [lastF]; rw [h n (by omega), ih (fun j hj => h j (by omega))]
theorem lastw_step {f : Nat → Int32} {x : Int32} {n : Nat} {i : Int} (h0 : -1 ≤ i) (hg : ∀ j : Nat, i < j → j < n → ¬ f j = x) (h : ¬ f i.toNat = x) : ∀ j : Nat, i + (-1) < j → j < n → ¬ f j = x := by
  intro j h1 h2
  by_cases e : (j : Int) = i
  · have e2 : j = i.toNat := by omega
    rw [e2]; exact h
  · exact hg j (by omega) h2
theorem diff_step {W L : Nat → Int32} {m : Nat} {s i : Int} (h0 : 0 ≤ i) (hg : ∀ j : Nat, i < j → j < m → W j = L (s + (j : Int)).toNat) (h : W i.toNat = L (s + i).toNat) : ∀ j : Nat, i + (-1) < j → j < m → W j = L (s + (j : Int)).toNat := by
  intro j h1 h2
  by_cases e : (j : Int) = i
  · have e2 : j = i.toNat := by omega
    rw [e2, show ((i.toNat : Nat) : Int) = i by omega]; exact h
  · exact hg j (by omega) h2
/-! rows of numbers -/
def zI (F : Nat → Int) : Nat → Int32 := fun j => iI (F j)
def updZ (F : Nat → Int) (k : Nat) (v : Int) : Nat → Int := fun j => if j = k then v else F j
theorem zI_upd (F : Nat → Int) (k : Nat) (v : Int) : upd (zI F) k (iI v) = zI (updZ F k v) := by
  funext j
  by_cases h : j = k
  · subst h; rw [upd_same]; simp [zI, updZ]
  · rw [upd_ne _ _ h]; simp [zI, updZ, h]
theorem updZ_same (F : Nat → Int) (k : Nat) (v : Int) : updZ F k v k = v := by simp [updZ]
theorem updZ_ne (F : Nat → Int) {k j : Nat} (v : Int) (h : j ≠ k) : updZ F k v j = F j := by simp [updZ, h]
/-! the skip behind a look, out of a table of end skips -/
def skX (B0 : Int) (Kf : Nat → Int) (lr er : Int) (m : Nat) (W L : Nat → Int32) (pl d : Int) : Int :=
  if d = -1 then (if (m : Int) = 0 then 0 else B0) else max (max 1 (if lr = 0 then 1 else d - lastF m W (L (pl + d).toNat))) (if er = 0 then 1 else Kf (d + 1).toNat)
/-- place, looks, letters compared, places found -/
abbrev LT : Type := Int × Int × Int × List Int32
def Rep (n : Int) (f : Nat → Int32) (l : List Int32) : Prop := n = l.length ∧ ∀ j : Nat, j < l.length → f j = l.getD j 0
theorem Rep.snoc {n : Int} {f : Nat → Int32} {l : List Int32} (h : Rep n f l) (x : Int32) : Rep (n + 1) (upd f n.toNat x) (l ++ [x]) := by
  obtain ⟨h1, h2⟩ := h
  have hn : n.toNat = l.length := by omega
  refine ⟨by simp; omega, fun j hj => ?_⟩
  rw [hn]
  by_cases e : j = l.length
  · subst e; rw [upd_same]; simp
  · rw [upd_ne _ _ e, h2 j (by simp at hj; omega)]
    simp only [List.length_append, List.length_cons, List.length_nil] at hj
    rw [List.getD_eq_getElem?_getD, List.getD_eq_getElem?_getD, List.getElem?_append_left (by omega)]
def lookS (m : Nat) (W L : Nat → Int32) (sk : Int → Int → Int) (t : LT) : LT := (t.1 + sk t.1 (diffF m W L t.1), t.2.1 + 1, t.2.2.1 + ((m : Int) - max (diffF m W L t.1) 0), if diffF m W L t.1 = -1 then t.2.2.2 ++ [iI t.1] else t.2.2.2)
def runS (n m : Nat) (W L : Nat → Int32) (sk : Int → Int → Int) : Nat → LT → LT × Int
  | 0, t => (t, 0)
  | k + 1, t => if (m : Int) = 0 ∨ (n : Int) - m + 1 ≤ t.1 then (t, 0) else ((runS n m W L sk k (lookS m W L sk t)).1, (runS n m W L sk k (lookS m W L sk t)).2 + 1)
theorem runS_over {n m : Nat} {W L : Nat → Int32} {sk : Int → Int → Int} {t : LT} (h : (m : Int) = 0 ∨ (n : Int) - m + 1 ≤ t.1) : ∀ k : Nat, runS n m W L sk k t = (t, 0)
  | 0 => rfl
  | k + 1 => by simp only [runS]; rw [if_pos h]
theorem runS_go {n m : Nat} {W L : Nat → Int32} {sk : Int → Int → Int} {t : LT} (h : ¬ ((m : Int) = 0 ∨ (n : Int) - m + 1 ≤ t.1)) (k : Nat) : runS n m W L sk (k + 1) t = ((runS n m W L sk k (lookS m W L sk t)).1, (runS n m W L sk k (lookS m W L sk t)).2 + 1) := by simp only [runS]; rw [if_neg h]
theorem skX_rng {B0 : Int} {Kf : Nat → Int} {lr er : Int} {m : Nat} {W L : Nat → Int32} {pl d : Int} (hB : 0 ≤ B0 ∧ B0 ≤ 17) (hk : ∀ j : Nat, 0 ≤ Kf j ∧ Kf j ≤ 17) (h1 : -1 ≤ d) (h2 : d < m) (h3 : m ≤ 16) : 0 ≤ skX B0 Kf lr er m W L pl d ∧ skX B0 Kf lr er m W L pl d ≤ 17 := by
  have a1 := lastF_rng m W (L (pl + d).toNat)
  have a2 := hk (d + 1).toNat
  simp only [skX]
  omega
theorem skX_pos {B0 : Int} {Kf : Nat → Int} {lr er : Int} {m : Nat} {W L : Nat → Int32} {pl d : Int} (hB : 1 ≤ B0) (hm : 0 < m) : 1 ≤ skX B0 Kf lr er m W L pl d := by
  simp only [skX]
  omega
theorem look_rep {nf nf1 d pl : Int} {Ff Ff1 : Nat → Int32} {fo : List Int32} (h : Rep nf Ff fo) (q : (d = -1 ∧ nf1 = nf + 1 ∧ Ff1 = upd Ff nf.toNat (iI pl)) ∨ (¬ d = -1 ∧ nf1 = nf ∧ Ff1 = Ff)) : Rep nf1 Ff1 (if d = -1 then fo ++ [iI pl] else fo) := by
  rcases q with ⟨h1, rfl, rfl⟩ | ⟨h1, rfl, rfl⟩
  · rw [if_pos h1]; exact h.snoc _
  · rw [if_neg h1]; exact h
theorem run_step {n m : Nat} {W L : Nat → Int32} {sk : Int → Int → Int} {i pl lk cp mI : Int} {fo : List Int32} {R : LT × Int} (hm : (m : Int) = mI) (hi : 0 ≤ i) (hlt : i < 60) (hno : ¬ ((m : Int) = 0 ∨ (n : Int) - m + 1 ≤ pl))
    (h : (runS n m W L sk (60 - i).toNat (pl, lk, cp, fo)).1 = R.1 ∧ i + (runS n m W L sk (60 - i).toNat (pl, lk, cp, fo)).2 = R.2) :
    (runS n m W L sk (60 - (i + 1)).toNat (pl + sk pl (diffF m W L pl), lk + 1, cp + (mI - max (diffF m W L pl) 0), if diffF m W L pl = -1 then fo ++ [iI pl] else fo)).1 = R.1 ∧ i + 1 + (runS n m W L sk (60 - (i + 1)).toNat (pl + sk pl (diffF m W L pl), lk + 1, cp + (mI - max (diffF m W L pl) 0), if diffF m W L pl = -1 then fo ++ [iI pl] else fo)).2 = R.2 := by
  subst hm
  rw [show (60 - i).toNat = (60 - (i + 1)).toNat + 1 by omega, runS_go hno] at h
  refine ⟨h.1, ?_⟩
  have h2 := h.2
  simp only [lookS] at h2
  omega
/-! the table of the end skips, as the program makes it -/
def growF (m : Int) (W : Nat → Int32) (B : Nat → Int) (e : Int) : Nat → Int → (Nat → Int) → Int × (Nat → Int)
  | 0, b, K => (b, K)
  | n + 1, b, K => if b ≤ 0 ∨ m < b ∨ W (e - 1).toNat = W (b - 1).toNat then (b, K) else growF m W B e n (B b.toNat) (if K b.toNat = 0 then updZ K b.toNat (b - e) else K)
theorem growF_stop {m : Int} {W : Nat → Int32} {B : Nat → Int} {e b : Int} {K : Nat → Int} (h : b ≤ 0 ∨ m < b ∨ W (e - 1).toNat = W (b - 1).toNat) : ∀ n : Nat, growF m W B e n b K = (b, K)
  | 0 => rfl
  | n + 1 => by simp only [growF]; rw [if_pos h]
theorem growF_go {m : Int} {W : Nat → Int32} {B : Nat → Int} {e b : Int} {K : Nat → Int} (h : ¬ (b ≤ 0 ∨ m < b ∨ W (e - 1).toNat = W (b - 1).toNat)) (n : Nat) : growF m W B e (n + 1) b K = growF m W B e n (B b.toNat) (if K b.toNat = 0 then updZ K b.toNat (b - e) else K) := by simp only [growF]; rw [if_neg h]
theorem updZ_rng {K : Nat → Int} {k : Nat} {v : Int} (hK : ∀ j : Nat, 0 ≤ K j ∧ K j ≤ 17) (hv : 0 ≤ v ∧ v ≤ 17) : ∀ j : Nat, 0 ≤ updZ K k v j ∧ updZ K k v j ≤ 17 := by
  intro j
  unfold updZ
  split
  · exact hv
  · exact hK j
theorem growF_rng {m : Int} {W : Nat → Int32} {B : Nat → Int} {e : Int} (hB : ∀ j : Nat, e ≤ j → (j : Int) ≤ m → (j : Int) + 1 ≤ B j ∧ B j ≤ m + 1) (he : 0 < e ∧ m ≤ 16) : ∀ (n : Nat) (b : Int) (K : Nat → Int), e + 1 ≤ b → b ≤ m + 1 → (∀ j : Nat, 0 ≤ K j ∧ K j ≤ 17) →
    (e + 1 ≤ (growF m W B e n b K).1 ∧ (growF m W B e n b K).1 ≤ m + 1) ∧ ∀ j : Nat, 0 ≤ (growF m W B e n b K).2 j ∧ (growF m W B e n b K).2 j ≤ 17
  | 0, b, K, h1, h2, h3 => ⟨⟨h1, h2⟩, h3⟩
  | n + 1, b, K, h1, h2, h3 => by
    simp only [growF]
    split
    · exact ⟨⟨h1, h2⟩, h3⟩
    · rename_i h
      have hb := hB b.toNat (by omega) (by omega)
      refine growF_rng hB he n _ _ (by omega) (by omega) ?_
      split
      · exact updZ_rng h3 (by omega)
      · exact h3
def findF (m : Nat) (W : Nat → Int32) : Nat → Int → (Nat → Int) → (Nat → Int) → (Nat → Int) × (Nat → Int)
  | 0, _, B, K => (B, K)
  | e + 1, b, B, K => findF m W e ((growF m W B ((e : Int) + 1) (m + 1) b K).1 - 1) (updZ B e ((growF m W B ((e : Int) + 1) (m + 1) b K).1 - 1)) (growF m W B ((e : Int) + 1) (m + 1) b K).2
def tailF (B : Nat → Int) : Nat → Nat → Int → (Nat → Int) → (Nat → Int)
  | 0, _, _, K => K
  | n + 1, e, b, K => tailF B n (e + 1) (if (e : Int) = b then B e else b) (if K e = 0 then updZ K e b else K)
def zF (i : Int) (K : Nat → Int) : Nat → Int := fun j => if (j : Int) < i then 0 else K j
def studyB (m : Nat) (W : Nat → Int32) (B K : Nat → Int) : Nat → Int := (findF m W m ((m : Int) + 1) (updZ B m ((m : Int) + 1)) (zF ((m : Int) + 1) K)).1
def studyK (m : Nat) (W : Nat → Int32) (B K : Nat → Int) : Nat → Int := tailF (studyB m W B K) (m + 1) 0 (studyB m W B K 0) (findF m W m ((m : Int) + 1) (updZ B m ((m : Int) + 1)) (zF ((m : Int) + 1) K)).2
theorem zF_step (i : Int) (h : 0 ≤ i) (K : Nat → Int) : updZ (zF i K) i.toNat 0 = zF (i + 1) K := by
  funext j
  simp only [updZ, zF]
  by_cases e : j = i.toNat
  · rw [if_pos e, if_pos (by omega)]
  · rw [if_neg e]
    by_cases q : (j : Int) < i
    · rw [if_pos q, if_pos (by omega)]
    · rw [if_neg q, if_neg (by omega)]
theorem zF_0 (K : Nat → Int) : zF 0 K = K := by
  funext j
  simp only [zF]
  rw [if_neg (by omega)]
theorem zF_rng {K : Nat → Int} (hK : ∀ j : Nat, 0 ≤ K j ∧ K j ≤ 17) (i : Int) : ∀ j : Nat, 0 ≤ zF i K j ∧ zF i K j ≤ 17 := by
  intro j
  simp only [zF]
  split
  · omega
  · exact hK j
theorem find_rngB {B : Nat → Int} {en e g : Int} (he : 0 < e ∧ e ≤ en) (hB : ∀ j : Nat, e ≤ j → (j : Int) ≤ en → (j : Int) + 1 ≤ B j ∧ B j ≤ en + 1) (hg : e + 1 ≤ g ∧ g ≤ en + 1) : ∀ j : Nat, e + (-1) ≤ j → (j : Int) ≤ en → (j : Int) + 1 ≤ updZ B (e - 1).toNat (g - 1) j ∧ updZ B (e - 1).toNat (g - 1) j ≤ en + 1 := by
  intro j h1 h2
  by_cases q : j = (e - 1).toNat
  · rw [q, updZ_same]; omega
  · rw [updZ_ne _ _ q]; exact hB j (by omega) h2
theorem find_step {m : Nat} {W : Nat → Int32} {en e b : Int} {B K : Nat → Int} {R : (Nat → Int) × (Nat → Int)} (hen : en = (m : Int)) (he : 0 < e) (h : findF m W e.toNat b B K = R) : findF m W (e + (-1)).toNat ((growF en W B e (en + 1).toNat b K).1 - 1) (updZ B (e - 1).toNat ((growF en W B e (en + 1).toNat b K).1 - 1)) (growF en W B e (en + 1).toNat b K).2 = R := by
  subst hen
  have h1 : e.toNat = (e + (-1)).toNat + 1 := by omega
  have h2 : (((e + (-1)).toNat : Nat) : Int) + 1 = e := by omega
  have h3 : (e - 1).toNat = (e + (-1)).toNat := by omega
  have h4 : ((m : Int) + 1).toNat = m + 1 := by omega
  rw [h1, findF, h2] at h
  rw [h3, h4]
  exact h
theorem tail_step {en e b b2 : Int} {B K K2 : Nat → Int} {R : Nat → Int} (he : 0 ≤ e) (hlt : e ≤ en) (h : tailF B (en + 1 - e).toNat e.toNat b K = R) (hb : (if e = b then B e.toNat else b) = b2) (hK : (if K e.toNat = 0 then updZ K e.toNat b else K) = K2) : tailF B (en + 1 - (e + 1)).toNat (e + 1).toNat b2 K2 = R := by
  have h1 : (en + 1 - e).toNat = (en + 1 - (e + 1)).toNat + 1 := by omega
  have h2 : (e + 1).toNat = e.toNat + 1 := by omega
  have h3 : ((e.toNat : Nat) : Int) = e := by omega
  rw [h1, tailF, h3, hb, hK] at h
  rw [h2]
  exact h
theorem findF_rng {m : Nat} (hm : m ≤ 16) {W : Nat → Int32} : ∀ (e : Nat) (b : Int) (B K : Nat → Int), e ≤ m → (e : Int) + 1 ≤ b → b ≤ (m : Int) + 1 → (∀ j : Nat, (e : Int) ≤ j → (j : Int) ≤ m → (j : Int) + 1 ≤ B j ∧ B j ≤ (m : Int) + 1) → (∀ j : Nat, 0 ≤ K j ∧ K j ≤ 17) →
    (∀ j : Nat, (j : Int) ≤ m → (j : Int) + 1 ≤ (findF m W e b B K).1 j ∧ (findF m W e b B K).1 j ≤ (m : Int) + 1) ∧ ∀ j : Nat, 0 ≤ (findF m W e b B K).2 j ∧ (findF m W e b B K).2 j ≤ 17
  | 0, b, B, K, h1, h2, h3, h4, h5 => ⟨fun j hj => h4 j (by omega) hj, h5⟩
  | e + 1, b, B, K, h1, h2, h3, h4, h5 => by
    have hg := growF_rng (m := (m : Int)) (W := W) (B := B) (e := (e : Int) + 1) (fun j q1 q2 => h4 j (by omega) q2) ⟨by omega, by omega⟩ (m + 1) b K (by omega) h3 h5
    simp only [findF]
    refine findF_rng hm e _ _ _ (by omega) (by omega) (by omega) (fun j q1 q2 => ?_) hg.2
    by_cases q : j = e
    · rw [q, updZ_same]; omega
    · rw [updZ_ne _ _ q]; exact h4 j (by omega) q2
theorem tailF_rng {B : Nat → Int} {m : Nat} (hm : m ≤ 16) (hB : ∀ j : Nat, (j : Int) ≤ m → 0 ≤ B j ∧ B j ≤ 17) : ∀ (n e : Nat) (b : Int) (K : Nat → Int), n + e ≤ m + 1 → 0 ≤ b ∧ b ≤ 17 → (∀ j : Nat, 0 ≤ K j ∧ K j ≤ 17) → ∀ j : Nat, 0 ≤ tailF B n e b K j ∧ tailF B n e b K j ≤ 17
  | 0, e, b, K, _, _, h => h
  | n + 1, e, b, K, h1, h2, h3 => by
    simp only [tailF]
    refine tailF_rng hm hB n (e + 1) _ _ (by omega) ?_ ?_
    · split
      · exact hB e (by omega)
      · exact h2
    · split
      · exact updZ_rng h3 h2
      · exact h3
end
section
theorem dX2_size_0 : decode cX2_size 0 = .ok (.aload_n 0, 1) := by decide +kernel
theorem dX2_size_1 : decode cX2_size 1 = .ok (.getfield 21, 3) := by decide +kernel
theorem dX2_size_4 : decode cX2_size 4 = .ok (.ireturn, 1) := by decide +kernel
theorem dX2_isEmpty_0 : decode cX2_isEmpty 0 = .ok (.aload_n 0, 1) := by decide +kernel
theorem dX2_isEmpty_1 : decode cX2_isEmpty 1 = .ok (.getfield 21, 3) := by decide +kernel
theorem dX2_isEmpty_4 : decode cX2_isEmpty 4 = .ok (.ifCond .ne 7, 3) := by decide +kernel
theorem dX2_isEmpty_7 : decode cX2_isEmpty 7 = .ok (.iconst 1, 1) := by decide +kernel
theorem dX2_isEmpty_8 : decode cX2_isEmpty 8 = .ok (.goto 4, 3) := by decide +kernel
theorem dX2_isEmpty_11 : decode cX2_isEmpty 11 = .ok (.iconst 0, 1) := by decide +kernel
theorem dX2_isEmpty_12 : decode cX2_isEmpty 12 = .ok (.ireturn, 1) := by decide +kernel
theorem dX2_has_0 : decode cX2_has 0 = .ok (.iload_n 1, 1) := by decide +kernel
theorem dX2_has_1 : decode cX2_has 1 = .ok (.ifCond .lt 15, 3) := by decide +kernel
theorem dX2_has_4 : decode cX2_has 4 = .ok (.iload_n 1, 1) := by decide +kernel
theorem dX2_has_5 : decode cX2_has 5 = .ok (.aload_n 0, 1) := by decide +kernel
theorem dX2_has_6 : decode cX2_has 6 = .ok (.getfield 21, 3) := by decide +kernel
theorem dX2_has_9 : decode cX2_has 9 = .ok (.if_icmp .ge 7, 3) := by decide +kernel
theorem dX2_has_12 : decode cX2_has 12 = .ok (.iconst 1, 1) := by decide +kernel
theorem dX2_has_13 : decode cX2_has 13 = .ok (.goto 4, 3) := by decide +kernel
theorem dX2_has_16 : decode cX2_has 16 = .ok (.iconst 0, 1) := by decide +kernel
theorem dX2_has_17 : decode cX2_has 17 = .ok (.ireturn, 1) := by decide +kernel
theorem dX2_at_0 : decode cX2_at 0 = .ok (.aload_n 0, 1) := by decide +kernel
theorem dX2_at_1 : decode cX2_at 1 = .ok (.iload_n 1, 1) := by decide +kernel
theorem dX2_at_2 : decode cX2_at 2 = .ok (.invokevirtual 25, 3) := by decide +kernel
theorem dX2_at_5 : decode cX2_at 5 = .ok (.ifCond .eq 12, 3) := by decide +kernel
theorem dX2_at_8 : decode cX2_at 8 = .ok (.aload_n 0, 1) := by decide +kernel
theorem dX2_at_9 : decode cX2_at 9 = .ok (.getfield 15, 3) := by decide +kernel
theorem dX2_at_12 : decode cX2_at 12 = .ok (.iload_n 1, 1) := by decide +kernel
theorem dX2_at_13 : decode cX2_at 13 = .ok (.iaload, 1) := by decide +kernel
theorem dX2_at_14 : decode cX2_at 14 = .ok (.goto 4, 3) := by decide +kernel
theorem dX2_at_17 : decode cX2_at 17 = .ok (.iconst (-1), 1) := by decide +kernel
theorem dX2_at_18 : decode cX2_at 18 = .ok (.ireturn, 1) := by decide +kernel
set_option maxRecDepth 20000 in
theorem ggX2_at_X2_has : GoodIn wsX2_at wsX2_has := goodIn_r _ [6, 7, 8, 9] (by decide +kernel) (by decide +kernel)
set_option maxRecDepth 20000 in
theorem gX2_at_X2_has : GoodIn wsX2_at (wsV RX2 25 RX2 yX2_has wsX2_has) := goodIn_app (goodIn_of _ (by decide +kernel)) ggX2_at_X2_has
theorem dX2_put_0 : decode cX2_put 0 = .ok (.aload_n 0, 1) := by decide +kernel
theorem dX2_put_1 : decode cX2_put 1 = .ok (.iload_n 1, 1) := by decide +kernel
theorem dX2_put_2 : decode cX2_put 2 = .ok (.invokevirtual 25, 3) := by decide +kernel
theorem dX2_put_5 : decode cX2_put 5 = .ok (.ifCond .eq 10, 3) := by decide +kernel
theorem dX2_put_8 : decode cX2_put 8 = .ok (.aload_n 0, 1) := by decide +kernel
theorem dX2_put_9 : decode cX2_put 9 = .ok (.getfield 15, 3) := by decide +kernel
theorem dX2_put_12 : decode cX2_put 12 = .ok (.iload_n 1, 1) := by decide +kernel
theorem dX2_put_13 : decode cX2_put 13 = .ok (.iload_n 2, 1) := by decide +kernel
theorem dX2_put_14 : decode cX2_put 14 = .ok (.iastore, 1) := by decide +kernel
theorem dX2_put_15 : decode cX2_put 15 = .ok (.return_, 1) := by decide +kernel
set_option maxRecDepth 20000 in
theorem ggX2_put_X2_has : GoodIn wsX2_put wsX2_has := goodIn_r _ [6, 7, 8, 9] (by decide +kernel) (by decide +kernel)
set_option maxRecDepth 20000 in
theorem gX2_put_X2_has : GoodIn wsX2_put (wsV RX2 25 RX2 yX2_has wsX2_has) := goodIn_app (goodIn_of _ (by decide +kernel)) ggX2_put_X2_has
theorem dX2_add_0 : decode cX2_add 0 = .ok (.aload_n 0, 1) := by decide +kernel
theorem dX2_add_1 : decode cX2_add 1 = .ok (.getfield 21, 3) := by decide +kernel
theorem dX2_add_4 : decode cX2_add 4 = .ok (.aload_n 0, 1) := by decide +kernel
theorem dX2_add_5 : decode cX2_add 5 = .ok (.getfield 15, 3) := by decide +kernel
theorem dX2_add_8 : decode cX2_add 8 = .ok (.arraylength, 1) := by decide +kernel
theorem dX2_add_9 : decode cX2_add 9 = .ok (.if_icmp .ge 23, 3) := by decide +kernel
theorem dX2_add_12 : decode cX2_add 12 = .ok (.aload_n 0, 1) := by decide +kernel
theorem dX2_add_13 : decode cX2_add 13 = .ok (.getfield 15, 3) := by decide +kernel
theorem dX2_add_16 : decode cX2_add 16 = .ok (.aload_n 0, 1) := by decide +kernel
theorem dX2_add_17 : decode cX2_add 17 = .ok (.getfield 21, 3) := by decide +kernel
theorem dX2_add_20 : decode cX2_add 20 = .ok (.iload_n 1, 1) := by decide +kernel
theorem dX2_add_21 : decode cX2_add 21 = .ok (.iastore, 1) := by decide +kernel
theorem dX2_add_22 : decode cX2_add 22 = .ok (.aload_n 0, 1) := by decide +kernel
theorem dX2_add_23 : decode cX2_add 23 = .ok (.dup, 1) := by decide +kernel
theorem dX2_add_24 : decode cX2_add 24 = .ok (.getfield 21, 3) := by decide +kernel
theorem dX2_add_27 : decode cX2_add 27 = .ok (.iconst 1, 1) := by decide +kernel
theorem dX2_add_28 : decode cX2_add 28 = .ok (.iadd, 1) := by decide +kernel
theorem dX2_add_29 : decode cX2_add 29 = .ok (.putfield 21, 3) := by decide +kernel
theorem dX2_add_32 : decode cX2_add 32 = .ok (.return_, 1) := by decide +kernel
theorem dX2_clear_0 : decode cX2_clear 0 = .ok (.aload_n 0, 1) := by decide +kernel
theorem dX2_clear_1 : decode cX2_clear 1 = .ok (.iconst 0, 1) := by decide +kernel
theorem dX2_clear_2 : decode cX2_clear 2 = .ok (.putfield 21, 3) := by decide +kernel
theorem dX2_clear_5 : decode cX2_clear 5 = .ok (.return_, 1) := by decide +kernel
theorem dX2_copy_0 : decode cX2_copy 0 = .ok (.aload_n 0, 1) := by decide +kernel
theorem dX2_copy_1 : decode cX2_copy 1 = .ok (.invokevirtual 29, 3) := by decide +kernel
theorem dX2_copy_4 : decode cX2_copy 4 = .ok (.iconst 0, 1) := by decide +kernel
theorem dX2_copy_5 : decode cX2_copy 5 = .ok (.istore_n 2, 1) := by decide +kernel
theorem dX2_copy_6 : decode cX2_copy 6 = .ok (.iload_n 2, 1) := by decide +kernel
theorem dX2_copy_7 : decode cX2_copy 7 = .ok (.aload_n 1, 1) := by decide +kernel
theorem dX2_copy_8 : decode cX2_copy 8 = .ok (.getfield 21, 3) := by decide +kernel
theorem dX2_copy_11 : decode cX2_copy 11 = .ok (.if_icmp .ge 19, 3) := by decide +kernel
theorem dX2_copy_14 : decode cX2_copy 14 = .ok (.aload_n 0, 1) := by decide +kernel
theorem dX2_copy_15 : decode cX2_copy 15 = .ok (.aload_n 1, 1) := by decide +kernel
theorem dX2_copy_16 : decode cX2_copy 16 = .ok (.getfield 15, 3) := by decide +kernel
theorem dX2_copy_19 : decode cX2_copy 19 = .ok (.iload_n 2, 1) := by decide +kernel
theorem dX2_copy_20 : decode cX2_copy 20 = .ok (.iaload, 1) := by decide +kernel
theorem dX2_copy_21 : decode cX2_copy 21 = .ok (.invokevirtual 32, 3) := by decide +kernel
theorem dX2_copy_24 : decode cX2_copy 24 = .ok (.iinc 2 1, 3) := by decide +kernel
theorem dX2_copy_27 : decode cX2_copy 27 = .ok (.goto (-21), 3) := by decide +kernel
theorem dX2_copy_30 : decode cX2_copy 30 = .ok (.return_, 1) := by decide +kernel
set_option maxRecDepth 20000 in
theorem ggX2_copy_X2_clear : GoodIn wsX2_copy wsX2_clear := goodIn_r _ [7, 1, 12, 13] (by decide +kernel) (by decide +kernel)
set_option maxRecDepth 20000 in
theorem gX2_copy_X2_clear : GoodIn wsX2_copy (wsV RX2 29 RX2 yX2_clear wsX2_clear) := goodIn_app (goodIn_of _ (by decide +kernel)) ggX2_copy_X2_clear
set_option maxRecDepth 20000 in
theorem ggX2_copy_X2_add : GoodIn wsX2_copy wsX2_add := goodIn_r _ [11, 1, 2, 12, 13] (by decide +kernel) (by decide +kernel)
set_option maxRecDepth 20000 in
theorem gX2_copy_X2_add : GoodIn wsX2_copy (wsV RX2 32 RX2 yX2_add wsX2_add) := goodIn_app (goodIn_of _ (by decide +kernel)) ggX2_copy_X2_add
theorem dX2_lastPlaceWith_0 : decode cX2_lastPlaceWith 0 = .ok (.aload_n 0, 1) := by decide +kernel
theorem dX2_lastPlaceWith_1 : decode cX2_lastPlaceWith 1 = .ok (.getfield 21, 3) := by decide +kernel
theorem dX2_lastPlaceWith_4 : decode cX2_lastPlaceWith 4 = .ok (.iconst 1, 1) := by decide +kernel
theorem dX2_lastPlaceWith_5 : decode cX2_lastPlaceWith 5 = .ok (.isub, 1) := by decide +kernel
theorem dX2_lastPlaceWith_6 : decode cX2_lastPlaceWith 6 = .ok (.istore_n 2, 1) := by decide +kernel
theorem dX2_lastPlaceWith_7 : decode cX2_lastPlaceWith 7 = .ok (.iload_n 2, 1) := by decide +kernel
theorem dX2_lastPlaceWith_8 : decode cX2_lastPlaceWith 8 = .ok (.ifCond .lt 21, 3) := by decide +kernel
theorem dX2_lastPlaceWith_11 : decode cX2_lastPlaceWith 11 = .ok (.aload_n 0, 1) := by decide +kernel
theorem dX2_lastPlaceWith_12 : decode cX2_lastPlaceWith 12 = .ok (.getfield 15, 3) := by decide +kernel
theorem dX2_lastPlaceWith_15 : decode cX2_lastPlaceWith 15 = .ok (.iload_n 2, 1) := by decide +kernel
theorem dX2_lastPlaceWith_16 : decode cX2_lastPlaceWith 16 = .ok (.iaload, 1) := by decide +kernel
theorem dX2_lastPlaceWith_17 : decode cX2_lastPlaceWith 17 = .ok (.iload_n 1, 1) := by decide +kernel
theorem dX2_lastPlaceWith_18 : decode cX2_lastPlaceWith 18 = .ok (.if_icmp .ne 5, 3) := by decide +kernel
theorem dX2_lastPlaceWith_21 : decode cX2_lastPlaceWith 21 = .ok (.iload_n 2, 1) := by decide +kernel
theorem dX2_lastPlaceWith_22 : decode cX2_lastPlaceWith 22 = .ok (.ireturn, 1) := by decide +kernel
theorem dX2_lastPlaceWith_23 : decode cX2_lastPlaceWith 23 = .ok (.iinc 2 (-1), 3) := by decide +kernel
theorem dX2_lastPlaceWith_26 : decode cX2_lastPlaceWith 26 = .ok (.goto (-19), 3) := by decide +kernel
theorem dX2_lastPlaceWith_29 : decode cX2_lastPlaceWith 29 = .ok (.iconst (-1), 1) := by decide +kernel
theorem dX2_lastPlaceWith_30 : decode cX2_lastPlaceWith 30 = .ok (.ireturn, 1) := by decide +kernel
set_option maxHeartbeats 4000000 in
set_option maxRecDepth 100000 in
theorem c_X2_size (l : Launch) (D : va_G) (cy : Nat → ClassId) (h0 : Nat) (a0 : Nat) (n : Int) : Ci l D cy yX2_size wsX2_size 0 0 [.ref h0] [(h0, .inr (2, [.ref a0, .int (iI n)]))] (fun (r : Int32) (u : Unit) => r = iI n) (fun u : Unit => [(h0, .inr (2, [.ref a0, .int (iI n)]))]) := by
  refine Ci_of (cc := cX2_size) (maxL := 1) (ret := (some .int)) (by decide) rfl rfl ?_
  intro p e s m args below meth c A hx hb hr hts hown hlocks hml hP hK hD hT hA ls hl
  have hS : va_S A s.heap s.heap [] := va_S.rf
  have hl : lv_has ls 1 [(0, .ref h0)] := hl
  have hiX2 : ∀ w ∈ wsX20, w ∈ wsX2_size := by decide +kernel
  refine lv_aload_n hx hb dX2_size_0 rfl (lv_at hl 0 rfl) ?_
  refine va_get (D := D) (ci := 2) (v := .int (iI n)) (C := RX2) (T := TX2) (N := 2) hx hb hts hiX2 hown hK hP 0 rfl rfl 1 (by decide) (hts (.fieldLink RX2 21 "BackwardSearch$Row" "length" "I") (by decide +kernel)) (fun _ h9 => h9) rfl dX2_size_1 ?_
  exact z_iret hx hb hr hlocks hS () (show (iI n) = iI n from rfl) hP dX2_size_4
set_option maxHeartbeats 4000000 in
set_option maxRecDepth 100000 in
theorem c_X2_isEmpty (l : Launch) (D : va_G) (cy : Nat → ClassId) (h0 : Nat) (a0 : Nat) (n : Int) (hn : 0 ≤ n ∧ n < 2147483648) : Ci l D cy yX2_isEmpty wsX2_isEmpty 0 0 [.ref h0] [(h0, .inr (2, [.ref a0, .int (iI n)]))] (fun (r : Int32) (u : Unit) => (n = 0 ∧ r = iI 1) ∨ (¬ n = 0 ∧ r = iI 0)) (fun u : Unit => [(h0, .inr (2, [.ref a0, .int (iI n)]))]) := by
  refine Ci_of (cc := cX2_isEmpty) (maxL := 1) (ret := (some .boolean)) (by decide) rfl rfl ?_
  intro p e s m args below meth c A hx hb hr hts hown hlocks hml hP hK hD hT hA ls hl
  have hS : va_S A s.heap s.heap [] := va_S.rf
  have hl : lv_has ls 1 [(0, .ref h0)] := hl
  have hiX2 : ∀ w ∈ wsX20, w ∈ wsX2_isEmpty := by decide +kernel
  refine lv_aload_n hx hb dX2_isEmpty_0 rfl (lv_at hl 0 rfl) ?_
  refine va_get (D := D) (ci := 2) (v := .int (iI n)) (C := RX2) (T := TX2) (N := 2) hx hb hts hiX2 hown hK hP 0 rfl rfl 1 (by decide) (hts (.fieldLink RX2 21 "BackwardSearch$Row" "length" "I") (by decide +kernel)) (fun _ h9 => h9) rfl dX2_isEmpty_1 ?_
  refine z_if_ne (tgt := 11) hx hb (iI_t (by omega) (by omega)) dX2_isEmpty_4 (by decide) (fun c1 => ?_) (fun c1 => ?_)
  · --
    refine lv_iconst (v := iI 0) hx hb dX2_isEmpty_11 rfl ?_
    exact z_zret hx hb hr hlocks (by decide +kernel) hS () (show (n = 0 ∧ (iI 0) = iI 1) ∨ (¬ n = 0 ∧ (iI 0) = iI 0) from (by first | exact Or.inl ⟨by omega, rfl⟩ | exact Or.inr ⟨by omega, rfl⟩)) hP dX2_isEmpty_12
  · --
    refine lv_iconst (v := iI 1) hx hb dX2_isEmpty_7 rfl ?_
    refine lv_goto (tgt := 12) hx hb dX2_isEmpty_8 (by decide) ?_
    exact z_zret hx hb hr hlocks (by decide +kernel) hS () (show (n = 0 ∧ (iI 1) = iI 1) ∨ (¬ n = 0 ∧ (iI 1) = iI 0) from (by first | exact Or.inl ⟨by omega, rfl⟩ | exact Or.inr ⟨by omega, rfl⟩)) hP dX2_isEmpty_12
set_option maxHeartbeats 4000000 in
set_option maxRecDepth 100000 in
theorem c_X2_has (l : Launch) (D : va_G) (cy : Nat → ClassId) (h0 : Nat) (a0 : Nat) (n : Int) (i : Int) (hn : 0 ≤ n ∧ n < 2147483648) (hi : -2147483648 ≤ i ∧ i < 2147483648) : Ci l D cy yX2_has wsX2_has 0 0 [.ref h0, .int (iI i)] [(h0, .inr (2, [.ref a0, .int (iI n)]))] (fun (r : Int32) (u : Unit) => (0 ≤ i ∧ i < n ∧ r = iI 1) ∨ (¬ (0 ≤ i ∧ i < n) ∧ r = iI 0)) (fun u : Unit => [(h0, .inr (2, [.ref a0, .int (iI n)]))]) := by
  refine Ci_of (cc := cX2_has) (maxL := 2) (ret := (some .boolean)) (by decide) rfl rfl ?_
  intro p e s m args below meth c A hx hb hr hts hown hlocks hml hP hK hD hT hA ls hl
  have hS : va_S A s.heap s.heap [] := va_S.rf
  have hl : lv_has ls 2 [(0, .ref h0), (1, .int (iI i))] := hl
  have hiX2 : ∀ w ∈ wsX20, w ∈ wsX2_has := by decide +kernel
  refine lv_iload_n hx hb dX2_has_0 rfl (lv_at hl 1 rfl) ?_
  refine z_if_lt (tgt := 16) hx hb (iI_t (by omega) (by omega)) dX2_has_1 (by decide) (fun c1 => ?_) (fun c1 => ?_)
  · --
    refine lv_iconst (v := iI 0) hx hb dX2_has_16 rfl ?_
    exact z_zret hx hb hr hlocks (by decide +kernel) hS () (show (0 ≤ i ∧ i < n ∧ (iI 0) = iI 1) ∨ (¬ (0 ≤ i ∧ i < n) ∧ (iI 0) = iI 0) from (by first | exact Or.inl ⟨by omega, by omega, rfl⟩ | exact Or.inr ⟨by omega, rfl⟩)) hP dX2_has_17
  · --
    refine lv_iload_n hx hb dX2_has_4 rfl (lv_at hl 1 rfl) ?_
    refine lv_aload_n hx hb dX2_has_5 rfl (lv_at hl 0 rfl) ?_
    refine va_get (D := D) (ci := 2) (v := .int (iI n)) (C := RX2) (T := TX2) (N := 2) hx hb hts hiX2 hown hK hP 0 rfl rfl 1 (by decide) (hts (.fieldLink RX2 21 "BackwardSearch$Row" "length" "I") (by decide +kernel)) (fun _ h9 => h9) rfl dX2_has_6 ?_
    refine z_icmp_ge (tgt := 16) hx hb (iI_t (by omega) (by omega)) (iI_t (by omega) (by omega)) dX2_has_9 (by decide) (fun c2 => ?_) (fun c2 => ?_)
    · --
      refine lv_iconst (v := iI 0) hx hb dX2_has_16 rfl ?_
      exact z_zret hx hb hr hlocks (by decide +kernel) hS () (show (0 ≤ i ∧ i < n ∧ (iI 0) = iI 1) ∨ (¬ (0 ≤ i ∧ i < n) ∧ (iI 0) = iI 0) from (by first | exact Or.inl ⟨by omega, by omega, rfl⟩ | exact Or.inr ⟨by omega, rfl⟩)) hP dX2_has_17
    · --
      refine lv_iconst (v := iI 1) hx hb dX2_has_12 rfl ?_
      refine lv_goto (tgt := 17) hx hb dX2_has_13 (by decide) ?_
      exact z_zret hx hb hr hlocks (by decide +kernel) hS () (show (0 ≤ i ∧ i < n ∧ (iI 1) = iI 1) ∨ (¬ (0 ≤ i ∧ i < n) ∧ (iI 1) = iI 0) from (by first | exact Or.inl ⟨by omega, by omega, rfl⟩ | exact Or.inr ⟨by omega, rfl⟩)) hP dX2_has_17
set_option maxHeartbeats 4000000 in
set_option maxRecDepth 100000 in
theorem c_X2_at (l : Launch) (D : va_G) (cy : Nat → ClassId) (h0 : Nat) (a0 : Nat) (K : Nat) (n : Int) (f : Nat → Int32) (i : Int) (hn : 0 ≤ n ∧ n ≤ K ∧ K < 2147483648) (hi : -2147483648 ≤ i ∧ i < 2147483648) : Ci l D cy yX2_at wsX2_at 1 21 [.ref h0, .int (iI i)] [(h0, .inr (2, [.ref a0, .int (iI n)])), (a0, .inl (cy 0, K, .inl f))] (fun (r : Int32) (u : Unit) => (0 ≤ i ∧ i < n ∧ r = f i.toNat) ∨ (¬ (0 ≤ i ∧ i < n) ∧ r = iI (-1))) (fun u : Unit => [(h0, .inr (2, [.ref a0, .int (iI n)])), (a0, .inl (cy 0, K, .inl f))]) := by
  refine Ci_of (cc := cX2_at) (maxL := 2) (ret := (some .int)) (by decide) rfl rfl ?_
  intro p e s m args below meth c A hx hb hr hts hown hlocks hml hP hK hD hT hA ls hl
  have hS : va_S A s.heap s.heap [] := va_S.rf
  have hl : lv_has ls 2 [(0, .ref h0), (1, .int (iI i))] := hl
  have hiX2 : ∀ w ∈ wsX20, w ∈ wsX2_at := by decide +kernel
  refine lv_aload_n hx hb dX2_at_0 rfl (lv_at hl 0 rfl) ?_
  refine lv_iload_n hx hb dX2_at_1 rfl (lv_at hl 1 rfl) ?_
  refine z_cVi (n := 1) (b := h0) (As := [.int (iI i)]) (rest := []) ⟨hx, hb, hml, hown, hts⟩ (c_X2_has l D cy h0 a0 n i (by omega) (by omega)) gX2_at_X2_has rfl (by decide +kernel) ⟨Nat.le_of_ble_eq_true rfl, Nat.le_of_ble_eq_true rfl⟩ hK hT hP hD hS hA [0] rfl rfl 0 2 rfl rfl rfl (fun _ => rfl) rfl hl.1 rfl (Nat.le_of_ble_eq_true rfl) dX2_at_2 ⟨Nat.zero_le _, Nat.zero_le _⟩ (fun r_1 u_1 H locs hw_1 hP hD hS => ?_)
  have hw_1 : (0 ≤ i ∧ i < n ∧ r_1 = iI 1) ∨ (¬ (0 ≤ i ∧ i < n) ∧ r_1 = iI 0) := hw_1
  have hP : va_P D vwCl [(h0, .inr (2, [.ref a0, .int (iI n)])), (a0, .inl (cy 0, K, .inl f))] H := hP
  have hD : va_D A [(h0, .inr (2, [.ref a0, .int (iI n)])), (a0, .inl (cy 0, K, .inl f))] := hD
  rcases hw_1 with ⟨h_1, g_1, rfl⟩ | ⟨h_1, rfl⟩
  · --
    refine z_if_eq (tgt := 17) hx hb (iI_t (by omega) (by omega)) dX2_at_5 (by decide) (fun c2 => absurd c2 (by omega)) (fun _ => ?_)
    refine lv_aload_n hx hb dX2_at_8 rfl (lv_at hl 0 rfl) ?_
    refine va_get (D := D) (ci := 2) (v := .ref a0) (C := RX2) (T := TX2) (N := 2) hx hb hts hiX2 hown hK hP 0 rfl rfl 0 (by decide) (hts (.fieldLink RX2 15 "BackwardSearch$Row" "numbers" "[I") (by decide +kernel)) (fun _ h9 => h9) rfl dX2_at_9 ?_
    refine lv_iload_n hx hb dX2_at_12 rfl (lv_at hl 1 rfl) ?_
    refine z_iald hx hb hK hP 1 rfl (by omega) (by omega) (by omega) dX2_at_13 ?_
    refine lv_goto (tgt := 18) hx hb dX2_at_14 (by decide) ?_
    exact z_iret hx hb hr hlocks hS () (show (0 ≤ i ∧ i < n ∧ (f i.toNat) = f i.toNat) ∨ (¬ (0 ≤ i ∧ i < n) ∧ (f i.toNat) = iI (-1)) from (by first | exact Or.inl ⟨by omega, by omega, rfl⟩ | exact Or.inr ⟨by omega, rfl⟩)) hP dX2_at_18
  · --
    refine z_if_eq (tgt := 17) hx hb (iI_t (by omega) (by omega)) dX2_at_5 (by decide) (fun _ => ?_) (fun c3 => absurd c3 (by omega))
    refine lv_iconst (v := iI (-1)) hx hb dX2_at_17 rfl ?_
    exact z_iret hx hb hr hlocks hS () (show (0 ≤ i ∧ i < n ∧ (iI (-1)) = f i.toNat) ∨ (¬ (0 ≤ i ∧ i < n) ∧ (iI (-1)) = iI (-1)) from (by first | exact Or.inl ⟨by omega, by omega, rfl⟩ | exact Or.inr ⟨by omega, rfl⟩)) hP dX2_at_18
set_option maxHeartbeats 4000000 in
set_option maxRecDepth 100000 in
theorem c_X2_put (l : Launch) (D : va_G) (cy : Nat → ClassId) (h0 : Nat) (a0 : Nat) (K : Nat) (n : Int) (f : Nat → Int32) (i : Int) (x : Int32) (hn : 0 ≤ n ∧ n ≤ K ∧ K < 2147483648) (hi : -2147483648 ≤ i ∧ i < 2147483648) : Cv l D cy yX2_put wsX2_put 1 21 [.ref h0, .int (iI i), .int x] [(h0, .inr (2, [.ref a0, .int (iI n)])), (a0, .inl (cy 0, K, .inl f))] (fun (u : (Nat → Int32)) => (0 ≤ i ∧ i < n ∧ u = upd f i.toNat x) ∨ (¬ (0 ≤ i ∧ i < n) ∧ u = f)) (fun u : (Nat → Int32) => [(h0, .inr (2, [.ref a0, .int (iI n)])), (a0, .inl (cy 0, K, .inl u))]) := by
  refine Cv_of (cc := cX2_put) (maxL := 3) (ret := none) (by decide) rfl rfl ?_
  intro p e s m args below meth c A hx hb hr hts hown hlocks hml hP hK hD hT hA ls hl
  have hS : va_S A s.heap s.heap [] := va_S.rf
  have hl : lv_has ls 3 [(0, .ref h0), (1, .int (iI i)), (2, .int x)] := hl
  have hiX2 : ∀ w ∈ wsX20, w ∈ wsX2_put := by decide +kernel
  refine lv_aload_n hx hb dX2_put_0 rfl (lv_at hl 0 rfl) ?_
  refine lv_iload_n hx hb dX2_put_1 rfl (lv_at hl 1 rfl) ?_
  refine z_cVi (n := 1) (b := h0) (As := [.int (iI i)]) (rest := []) ⟨hx, hb, hml, hown, hts⟩ (c_X2_has l D cy h0 a0 n i (by omega) (by omega)) gX2_put_X2_has rfl (by decide +kernel) ⟨Nat.le_of_ble_eq_true rfl, Nat.le_of_ble_eq_true rfl⟩ hK hT hP hD hS hA [0] rfl rfl 0 2 rfl rfl rfl (fun _ => rfl) rfl hl.1 rfl (Nat.le_of_ble_eq_true rfl) dX2_put_2 ⟨Nat.zero_le _, Nat.zero_le _⟩ (fun r_1 u_1 H locs hw_1 hP hD hS => ?_)
  have hw_1 : (0 ≤ i ∧ i < n ∧ r_1 = iI 1) ∨ (¬ (0 ≤ i ∧ i < n) ∧ r_1 = iI 0) := hw_1
  have hP : va_P D vwCl [(h0, .inr (2, [.ref a0, .int (iI n)])), (a0, .inl (cy 0, K, .inl f))] H := hP
  have hD : va_D A [(h0, .inr (2, [.ref a0, .int (iI n)])), (a0, .inl (cy 0, K, .inl f))] := hD
  rcases hw_1 with ⟨h_1, g_1, rfl⟩ | ⟨h_1, rfl⟩
  · --
    refine z_if_eq (tgt := 15) hx hb (iI_t (by omega) (by omega)) dX2_put_5 (by decide) (fun c2 => absurd c2 (by omega)) (fun _ => ?_)
    refine lv_aload_n hx hb dX2_put_8 rfl (lv_at hl 0 rfl) ?_
    refine va_get (D := D) (ci := 2) (v := .ref a0) (C := RX2) (T := TX2) (N := 2) hx hb hts hiX2 hown hK hP 0 rfl rfl 0 (by decide) (hts (.fieldLink RX2 15 "BackwardSearch$Row" "numbers" "[I") (by decide +kernel)) (fun _ h9 => h9) rfl dX2_put_9 ?_
    refine lv_iload_n hx hb dX2_put_12 rfl (lv_at hl 1 rfl) ?_
    refine lv_iload_n hx hb dX2_put_13 rfl (lv_at hl 2 rfl) ?_
    refine z_iast hx hb hK hP hD hS 1 rfl (by omega) (by omega) (by omega) dX2_put_14 (fun H locs hP hD hS => ?_)
    have hP : va_P D vwCl [(h0, .inr (2, [.ref a0, .int (iI n)])), (a0, .inl (cy 0, K, .inl (upd f i.toNat x)))] H := hP
    have hD : va_D A [(h0, .inr (2, [.ref a0, .int (iI n)])), (a0, .inl (cy 0, K, .inl (upd f i.toNat x)))] := hD
    exact z_vret hx hb hr hlocks hS (upd f i.toNat x) (show (0 ≤ i ∧ i < n ∧ (upd f i.toNat x) = upd f i.toNat x) ∨ (¬ (0 ≤ i ∧ i < n) ∧ (upd f i.toNat x) = f) from (by first | exact Or.inl ⟨by omega, by omega, rfl⟩ | exact Or.inr ⟨by omega, rfl⟩)) hP dX2_put_15
  · --
    refine z_if_eq (tgt := 15) hx hb (iI_t (by omega) (by omega)) dX2_put_5 (by decide) (fun _ => ?_) (fun c3 => absurd c3 (by omega))
    exact z_vret hx hb hr hlocks hS (f) (show (0 ≤ i ∧ i < n ∧ f = upd f i.toNat x) ∨ (¬ (0 ≤ i ∧ i < n) ∧ f = f) from (by first | exact Or.inl ⟨by omega, by omega, rfl⟩ | exact Or.inr ⟨by omega, rfl⟩)) hP dX2_put_15
set_option maxHeartbeats 4000000 in
set_option maxRecDepth 100000 in
theorem c_X2_add (l : Launch) (D : va_G) (cy : Nat → ClassId) (h0 : Nat) (a0 : Nat) (K : Nat) (n : Int) (f : Nat → Int32) (x : Int32) (hn : 0 ≤ n ∧ n ≤ K ∧ K < 2147483648) : Cv l D cy yX2_add wsX2_add 0 0 [.ref h0, .int x] [(h0, .inr (2, [.ref a0, .int (iI n)])), (a0, .inl (cy 0, K, .inl f))] (fun (u : Int × (Nat → Int32)) => (n < K ∧ u.1 = n + 1 ∧ u.2 = upd f n.toNat x) ∨ (¬ n < K ∧ u.1 = n ∧ u.2 = f)) (fun u : Int × (Nat → Int32) => [(h0, .inr (2, [.ref a0, .int (iI u.1)])), (a0, .inl (cy 0, K, .inl u.2))]) := by
  refine Cv_of (cc := cX2_add) (maxL := 2) (ret := none) (by decide) rfl rfl ?_
  intro p e s m args below meth c A hx hb hr hts hown hlocks hml hP hK hD hT hA ls hl
  have hS : va_S A s.heap s.heap [] := va_S.rf
  have hl : lv_has ls 2 [(0, .ref h0), (1, .int x)] := hl
  have hiX2 : ∀ w ∈ wsX20, w ∈ wsX2_add := by decide +kernel
  refine lv_aload_n hx hb dX2_add_0 rfl (lv_at hl 0 rfl) ?_
  refine va_get (D := D) (ci := 2) (v := .int (iI n)) (C := RX2) (T := TX2) (N := 2) hx hb hts hiX2 hown hK hP 0 rfl rfl 1 (by decide) (hts (.fieldLink RX2 21 "BackwardSearch$Row" "length" "I") (by decide +kernel)) (fun _ h9 => h9) rfl dX2_add_1 ?_
  refine lv_aload_n hx hb dX2_add_4 rfl (lv_at hl 0 rfl) ?_
  refine va_get (D := D) (ci := 2) (v := .ref a0) (C := RX2) (T := TX2) (N := 2) hx hb hts hiX2 hown hK hP 0 rfl rfl 0 (by decide) (hts (.fieldLink RX2 15 "BackwardSearch$Row" "numbers" "[I") (by decide +kernel)) (fun _ h9 => h9) rfl dX2_add_5 ?_
  refine z_alen hx hb hK hP 1 0 rfl rfl dX2_add_8 ?_
  refine z_icmp_ge (tgt := 32) hx hb (iI_t (by omega) (by omega)) (iI_t (by omega) (by omega)) dX2_add_9 (by decide) (fun c1 => ?_) (fun c1 => ?_)
  · --
    exact z_vret hx hb hr hlocks hS (n, f) (show (n < K ∧ n = n + 1 ∧ f = upd f n.toNat x) ∨ (¬ n < K ∧ n = n ∧ f = f) from (by first | exact Or.inl ⟨by omega, rfl, rfl⟩ | exact Or.inr ⟨by omega, rfl, rfl⟩)) hP dX2_add_32
  · --
    refine lv_aload_n hx hb dX2_add_12 rfl (lv_at hl 0 rfl) ?_
    refine va_get (D := D) (ci := 2) (v := .ref a0) (C := RX2) (T := TX2) (N := 2) hx hb hts hiX2 hown hK hP 0 rfl rfl 0 (by decide) (hts (.fieldLink RX2 15 "BackwardSearch$Row" "numbers" "[I") (by decide +kernel)) (fun _ h9 => h9) rfl dX2_add_13 ?_
    refine lv_aload_n hx hb dX2_add_16 rfl (lv_at hl 0 rfl) ?_
    refine va_get (D := D) (ci := 2) (v := .int (iI n)) (C := RX2) (T := TX2) (N := 2) hx hb hts hiX2 hown hK hP 0 rfl rfl 1 (by decide) (hts (.fieldLink RX2 21 "BackwardSearch$Row" "length" "I") (by decide +kernel)) (fun _ h9 => h9) rfl dX2_add_17 ?_
    refine lv_iload_n hx hb dX2_add_20 rfl (lv_at hl 1 rfl) ?_
    refine z_iast hx hb hK hP hD hS 1 rfl (by omega) (by omega) (by omega) dX2_add_21 (fun H locs hP hD hS => ?_)
    have hP : va_P D vwCl [(h0, .inr (2, [.ref a0, .int (iI n)])), (a0, .inl (cy 0, K, .inl (upd f n.toNat x)))] H := hP
    have hD : va_D A [(h0, .inr (2, [.ref a0, .int (iI n)])), (a0, .inl (cy 0, K, .inl (upd f n.toNat x)))] := hD
    refine lv_aload_n hx hb dX2_add_22 rfl (lv_at hl 0 rfl) ?_
    refine lv_dup hx hb dX2_add_23 rfl ?_
    refine va_get (D := D) (ci := 2) (v := .int (iI n)) (C := RX2) (T := TX2) (N := 2) hx hb hts hiX2 hown hK hP 0 rfl rfl 1 (by decide) (hts (.fieldLink RX2 21 "BackwardSearch$Row" "length" "I") (by decide +kernel)) (fun _ h9 => h9) rfl dX2_add_24 ?_
    refine lv_iconst (v := iI 1) hx hb dX2_add_27 rfl ?_
    refine z_add hx hb dX2_add_28 ?_
    refine va_put (D := D) (ci := 2) (v := .int (iI (n + 1))) (ty := .int) (C := RX2) (T := TX2) (N := 2) hx hb hts hiX2 tyX2 tyX2_ok nmX2 hown hK hP hD hS 0 rfl rfl 1 (by decide) (hts (.fieldLink RX2 21 "BackwardSearch$Row" "length" "I") (by decide +kernel)) (fun _ h9 => h9) rfl (by decide +kernel) rfl rfl (Nat.le_of_ble_eq_true rfl) dX2_add_29 (fun H locs hP hD hS => ?_)
    have hP : va_P D vwCl [(h0, .inr (2, [.ref a0, .int (iI (n + 1))])), (a0, .inl (cy 0, K, .inl (upd f n.toNat x)))] H := hP
    have hD : va_D A [(h0, .inr (2, [.ref a0, .int (iI (n + 1))])), (a0, .inl (cy 0, K, .inl (upd f n.toNat x)))] := hD
    exact z_vret hx hb hr hlocks hS (n + 1, upd f n.toNat x) (show (n < K ∧ (n + 1) = n + 1 ∧ (upd f n.toNat x) = upd f n.toNat x) ∨ (¬ n < K ∧ (n + 1) = n ∧ (upd f n.toNat x) = f) from (by first | exact Or.inl ⟨by omega, rfl, rfl⟩ | exact Or.inr ⟨by omega, rfl, rfl⟩)) hP dX2_add_32
set_option maxHeartbeats 4000000 in
set_option maxRecDepth 100000 in
theorem c_X2_clear (l : Launch) (D : va_G) (cy : Nat → ClassId) (h0 : Nat) (a0 : Nat) (n : Int) : Cv l D cy yX2_clear wsX2_clear 0 0 [.ref h0] [(h0, .inr (2, [.ref a0, .int (iI n)]))] (fun (u : Unit) => True) (fun u : Unit => [(h0, .inr (2, [.ref a0, .int (iI 0)]))]) := by
  refine Cv_of (cc := cX2_clear) (maxL := 1) (ret := none) (by decide) rfl rfl ?_
  intro p e s m args below meth c A hx hb hr hts hown hlocks hml hP hK hD hT hA ls hl
  have hS : va_S A s.heap s.heap [] := va_S.rf
  have hl : lv_has ls 1 [(0, .ref h0)] := hl
  have hiX2 : ∀ w ∈ wsX20, w ∈ wsX2_clear := by decide +kernel
  refine lv_aload_n hx hb dX2_clear_0 rfl (lv_at hl 0 rfl) ?_
  refine lv_iconst (v := iI 0) hx hb dX2_clear_1 rfl ?_
  refine va_put (D := D) (ci := 2) (v := .int (iI 0)) (ty := .int) (C := RX2) (T := TX2) (N := 2) hx hb hts hiX2 tyX2 tyX2_ok nmX2 hown hK hP hD hS 0 rfl rfl 1 (by decide) (hts (.fieldLink RX2 21 "BackwardSearch$Row" "length" "I") (by decide +kernel)) (fun _ h9 => h9) rfl (by decide +kernel) rfl rfl (Nat.le_of_ble_eq_true rfl) dX2_clear_2 (fun H locs hP hD hS => ?_)
  have hP : va_P D vwCl [(h0, .inr (2, [.ref a0, .int (iI 0)]))] H := hP
  have hD : va_D A [(h0, .inr (2, [.ref a0, .int (iI 0)]))] := hD
  exact z_vret hx hb hr hlocks hS () (show True from trivial) hP dX2_clear_5
set_option maxHeartbeats 4000000 in
set_option maxRecDepth 100000 in
theorem c_X2_copy (l : Launch) (D : va_G) (cy : Nat → ClassId) (h0 : Nat) (a0 : Nat) (K0 : Nat) (n0 : Int) (f0 : Nat → Int32) (h1 : Nat) (a1 : Nat) (K1 : Nat) (n1 : Int) (f1 : Nat → Int32) (hn : 0 ≤ n1 ∧ n1 ≤ K0 ∧ n1 ≤ K1 ∧ K0 < 2147483648 ∧ K1 < 2147483648) : Cv l D cy yX2_copy wsX2_copy 1 21 [.ref h0, .ref h1] [(h0, .inr (2, [.ref a0, .int (iI n0)])), (a0, .inl (cy 0, K0, .inl f0)), (h1, .inr (2, [.ref a1, .int (iI n1)])), (a1, .inl (cy 0, K1, .inl f1))] (fun (u : (Nat → Int32)) => ∀ j : Nat, (j : Int) < n1 → u j = f1 j) (fun u : (Nat → Int32) => [(h0, .inr (2, [.ref a0, .int (iI n1)])), (a0, .inl (cy 0, K0, .inl u)), (h1, .inr (2, [.ref a1, .int (iI n1)])), (a1, .inl (cy 0, K1, .inl f1))]) := by
  refine Cv_of (cc := cX2_copy) (maxL := 3) (ret := none) (by decide) rfl rfl ?_
  intro p e s m args below meth c A hx hb hr hts hown hlocks hml hP hK hD hT hA ls hl
  have hS : va_S A s.heap s.heap [] := va_S.rf
  have hl : lv_has ls 3 [(0, .ref h0), (1, .ref h1)] := hl
  have hiX2 : ∀ w ∈ wsX20, w ∈ wsX2_copy := by decide +kernel
  refine lv_aload_n hx hb dX2_copy_0 rfl (lv_at hl 0 rfl) ?_
  refine z_cVv (n := 0) (b := h0) (As := []) (rest := []) ⟨hx, hb, hml, hown, hts⟩ (c_X2_clear l D cy h0 a0 n0 ) gX2_copy_X2_clear rfl (by decide +kernel) ⟨Nat.le_of_ble_eq_true rfl, Nat.le_of_ble_eq_true rfl⟩ hK hT hP hD hS hA [0] rfl rfl 0 2 rfl rfl rfl (fun _ => rfl) rfl hl.1 rfl (Nat.le_of_ble_eq_true rfl) dX2_copy_1 ⟨Nat.zero_le _, Nat.zero_le _⟩ (fun  u_1 H locs hw_1 hP hD hS => ?_)
  have hw_1 : True := hw_1
  have hP : va_P D vwCl [(h0, .inr (2, [.ref a0, .int (iI 0)])), (a0, .inl (cy 0, K0, .inl f0)), (h1, .inr (2, [.ref a1, .int (iI n1)])), (a1, .inl (cy 0, K1, .inl f1))] H := hP
  have hD : va_D A [(h0, .inr (2, [.ref a0, .int (iI 0)])), (a0, .inl (cy 0, K0, .inl f0)), (h1, .inr (2, [.ref a1, .int (iI n1)])), (a1, .inl (cy 0, K1, .inl f1))] := hD
  refine lv_iconst (v := iI 0) hx hb dX2_copy_4 rfl ?_
  refine lv_istore_n (lv' := [(2, .int (iI 0)), (0, .ref h0), (1, .ref h1)]) hx hb dX2_copy_5 rfl hl (by decide) rfl (fun ls hl => ?_)
  have hloop2 : ∀ (n2 : Nat) (i : Int) (g : Nat → Int32) (hi : 0 ≤ i ∧ i ≤ n1) (hg : ∀ j : Nat, (j : Int) < i → g j = f1 j) (hm : n1 - i < (n2 : Int)) (H : Heap) (locs : List Loc) (ls : Array Slot) (hP : va_P D vwCl [(h0, .inr (2, [.ref a0, .int (iI i)])), (a0, .inl (cy 0, K0, .inl g)), (h1, .inr (2, [.ref a1, .int (iI n1)])), (a1, .inl (cy 0, K1, .inl f1))] H) (hD : va_D A [(h0, .inr (2, [.ref a0, .int (iI i)])), (a0, .inl (cy 0, K0, .inl g)), (h1, .inr (2, [.ref a1, .int (iI n1)])), (a1, .inl (cy 0, K1, .inl f1))]) (hS : va_S A s.heap H locs) (hl : lv_has ls 3 [(2, .int (iI i)), (0, .ref h0), (1, .ref h1)]), W p l e ({ frames := 1, cells := 0, slots := 0, locals := 21 } : Room) s m args below meth c H locs 0 0 (MQ below (va_Qv (fun (u : (Nat → Int32)) => ∀ j : Nat, (j : Int) < n1 → u j = f1 j) (fun u t => va_P D vwCl ((fun u : (Nat → Int32) => [(h0, .inr (2, [.ref a0, .int (iI n1)])), (a0, .inl (cy 0, K0, .inl u)), (h1, .inr (2, [.ref a1, .int (iI n1)])), (a1, .inl (cy 0, K1, .inl f1))]) u) t.heap) A) args s 0 0 A) (F0 m 6 ls []) := by
    intro n2
    induction n2 with
    | zero =>
      intro i g hi hg hm; exact absurd hm (by omega)
    | succ n2 ih2 =>
      intro i g hi hg hm H locs ls hP hD hS hl
      refine lv_iload_n hx hb dX2_copy_6 rfl (lv_at hl 0 rfl) ?_
      refine lv_aload_n hx hb dX2_copy_7 rfl (lv_at hl 2 rfl) ?_
      refine va_get (D := D) (ci := 2) (v := .int (iI n1)) (C := RX2) (T := TX2) (N := 2) hx hb hts hiX2 hown hK hP 2 rfl rfl 1 (by decide) (hts (.fieldLink RX2 21 "BackwardSearch$Row" "length" "I") (by decide +kernel)) (fun _ h9 => h9) rfl dX2_copy_8 ?_
      refine z_icmp_ge (tgt := 30) hx hb (iI_t (by omega) (by omega)) (iI_t (by omega) (by omega)) dX2_copy_11 (by decide) (fun c3 => ?_) (fun c3 => ?_)
      · --
        obtain rfl : n1 = i := by omega
        exact z_vret hx hb hr hlocks hS (g) (show ∀ j : Nat, (j : Int) < n1 → g j = f1 j from (fun j hj => hg j (by omega))) hP dX2_copy_30
      · --
        refine lv_aload_n hx hb dX2_copy_14 rfl (lv_at hl 1 rfl) ?_
        refine lv_aload_n hx hb dX2_copy_15 rfl (lv_at hl 2 rfl) ?_
        refine va_get (D := D) (ci := 2) (v := .ref a1) (C := RX2) (T := TX2) (N := 2) hx hb hts hiX2 hown hK hP 2 rfl rfl 0 (by decide) (hts (.fieldLink RX2 15 "BackwardSearch$Row" "numbers" "[I") (by decide +kernel)) (fun _ h9 => h9) rfl dX2_copy_16 ?_
        refine lv_iload_n hx hb dX2_copy_19 rfl (lv_at hl 0 rfl) ?_
        refine z_iald hx hb hK hP 3 rfl (by omega) (by omega) (by omega) dX2_copy_20 ?_
        refine z_cVv (n := 1) (b := h0) (As := [.int (f1 i.toNat)]) (rest := []) ⟨hx, hb, hml, hown, hts⟩ (c_X2_add l D cy h0 a0 K0 i g (f1 i.toNat) (by omega)) gX2_copy_X2_add rfl (by decide +kernel) ⟨Nat.le_of_ble_eq_true rfl, Nat.le_of_ble_eq_true rfl⟩ hK hT hP hD hS hA [0, 1] rfl rfl 0 2 rfl rfl rfl (fun _ => rfl) rfl hl.1 rfl (Nat.le_of_ble_eq_true rfl) dX2_copy_21 ⟨Nat.zero_le _, Nat.zero_le _⟩ (fun  u_4 H locs hw_4 hP hD hS => ?_)
        obtain ⟨n1_4, f1_4⟩ := u_4
        have hw_4 : (i < K0 ∧ n1_4 = i + 1 ∧ f1_4 = upd g i.toNat (f1 i.toNat)) ∨ (¬ i < K0 ∧ n1_4 = i ∧ f1_4 = g) := hw_4
        have hP : va_P D vwCl [(h0, .inr (2, [.ref a0, .int (iI n1_4)])), (a0, .inl (cy 0, K0, .inl f1_4)), (h1, .inr (2, [.ref a1, .int (iI n1)])), (a1, .inl (cy 0, K1, .inl f1))] H := hP
        have hD : va_D A [(h0, .inr (2, [.ref a0, .int (iI n1_4)])), (a0, .inl (cy 0, K0, .inl f1_4)), (h1, .inr (2, [.ref a1, .int (iI n1)])), (a1, .inl (cy 0, K1, .inl f1))] := hD
        rcases hw_4 with ⟨h_4, rfl, rfl⟩ | ⟨h_4, rfl, rfl⟩
        · --
          refine z_iinc (lv' := [(2, .int (iI (i + 1))), (0, .ref h0), (1, .ref h1)]) hx hb dX2_copy_24 hl (k := 0) rfl (by decide) rfl (fun ls hl => ?_)
          refine lv_goto (tgt := 6) hx hb dX2_copy_27 (by decide) ?_
          exact ih2 (i + 1) (upd g i.toNat (f1 i.toNat)) (by omega) (upd_more hi.1 hg) (by omega) _ _ _ hP hD hS (lv_sub hl [0, 1, 2] rfl)
        · --
          exfalso; omega
  exact hloop2 (Int.toNat (n1 - 0) + 1) 0 f0 (by omega) (fun j hj => absurd hj (by omega)) (by omega) _ _ _ hP hD hS (lv_sub hl [0, 1, 2] rfl)
set_option maxHeartbeats 4000000 in
set_option maxRecDepth 100000 in
theorem c_X2_lastPlaceWith (l : Launch) (D : va_G) (cy : Nat → ClassId) (h0 : Nat) (a0 : Nat) (K : Nat) (n : Int) (f : Nat → Int32) (x : Int32) (hn : 0 ≤ n ∧ n ≤ K ∧ K < 2147483648) : Ci l D cy yX2_lastPlaceWith wsX2_lastPlaceWith 0 0 [.ref h0, .int x] [(h0, .inr (2, [.ref a0, .int (iI n)])), (a0, .inl (cy 0, K, .inl f))] (fun (r : Int32) (u : Unit) => r = iI (lastF n.toNat f x)) (fun u : Unit => [(h0, .inr (2, [.ref a0, .int (iI n)])), (a0, .inl (cy 0, K, .inl f))]) := by
  refine Ci_of (cc := cX2_lastPlaceWith) (maxL := 3) (ret := (some .int)) (by decide) rfl rfl ?_
  intro p e s m args below meth c A hx hb hr hts hown hlocks hml hP hK hD hT hA ls hl
  have hS : va_S A s.heap s.heap [] := va_S.rf
  have hl : lv_has ls 3 [(0, .ref h0), (1, .int x)] := hl
  have hiX2 : ∀ w ∈ wsX20, w ∈ wsX2_lastPlaceWith := by decide +kernel
  refine lv_aload_n hx hb dX2_lastPlaceWith_0 rfl (lv_at hl 0 rfl) ?_
  refine va_get (D := D) (ci := 2) (v := .int (iI n)) (C := RX2) (T := TX2) (N := 2) hx hb hts hiX2 hown hK hP 0 rfl rfl 1 (by decide) (hts (.fieldLink RX2 21 "BackwardSearch$Row" "length" "I") (by decide +kernel)) (fun _ h9 => h9) rfl dX2_lastPlaceWith_1 ?_
  refine lv_iconst (v := iI 1) hx hb dX2_lastPlaceWith_4 rfl ?_
  refine z_sub hx hb dX2_lastPlaceWith_5 ?_
  refine lv_istore_n (lv' := [(2, .int (iI (n - 1))), (0, .ref h0), (1, .int x)]) hx hb dX2_lastPlaceWith_6 rfl hl (by decide) rfl (fun ls hl => ?_)
  have hloop1 : ∀ (n1 : Nat) (i : Int) (hi : -1 ≤ i ∧ i < n) (hg : ∀ j : Nat, i < j → j < n.toNat → ¬ f j = x) (hm : i + 1 < (n1 : Int)) (H : Heap) (locs : List Loc) (ls : Array Slot) (hP : va_P D vwCl [(h0, .inr (2, [.ref a0, .int (iI n)])), (a0, .inl (cy 0, K, .inl f))] H) (hD : va_D A [(h0, .inr (2, [.ref a0, .int (iI n)])), (a0, .inl (cy 0, K, .inl f))]) (hS : va_S A s.heap H locs) (hl : lv_has ls 3 [(2, .int (iI i)), (0, .ref h0), (1, .int x)]), W p l e ({ frames := 0, cells := 0, slots := 0, locals := 0 } : Room) s m args below meth c H locs 0 0 (MQ below (va_Qi (fun (r : Int32) (u : Unit) => r = iI (lastF n.toNat f x)) (fun u t => va_P D vwCl ((fun u : Unit => [(h0, .inr (2, [.ref a0, .int (iI n)])), (a0, .inl (cy 0, K, .inl f))]) u) t.heap) A) args s 0 0 A) (F0 m 7 ls []) := by
    intro n1
    induction n1 with
    | zero =>
      intro i hi hg hm; exact absurd hm (by omega)
    | succ n1 ih1 =>
      intro i hi hg hm H locs ls hP hD hS hl
      refine lv_iload_n hx hb dX2_lastPlaceWith_7 rfl (lv_at hl 0 rfl) ?_
      refine z_if_lt (tgt := 29) hx hb (iI_t (by omega) (by omega)) dX2_lastPlaceWith_8 (by decide) (fun c2 => ?_) (fun c2 => ?_)
      · --
        refine lv_iconst (v := iI (-1)) hx hb dX2_lastPlaceWith_29 rfl ?_
        exact z_iret hx hb hr hlocks hS () (show (iI (-1)) = iI (lastF n.toNat f x) from (congrArg iI (lastF_eq ⟨by omega, by omega, fun h => absurd h (by omega), fun j h1 h2 => hg j (by omega) h2⟩))) hP dX2_lastPlaceWith_30
      · --
        refine lv_aload_n hx hb dX2_lastPlaceWith_11 rfl (lv_at hl 1 rfl) ?_
        refine va_get (D := D) (ci := 2) (v := .ref a0) (C := RX2) (T := TX2) (N := 2) hx hb hts hiX2 hown hK hP 0 rfl rfl 0 (by decide) (hts (.fieldLink RX2 15 "BackwardSearch$Row" "numbers" "[I") (by decide +kernel)) (fun _ h9 => h9) rfl dX2_lastPlaceWith_12 ?_
        refine lv_iload_n hx hb dX2_lastPlaceWith_15 rfl (lv_at hl 0 rfl) ?_
        refine z_iald hx hb hK hP 1 rfl (by omega) (by omega) (by omega) dX2_lastPlaceWith_16 ?_
        refine lv_iload_n hx hb dX2_lastPlaceWith_17 rfl (lv_at hl 2 rfl) ?_
        refine lv_icmp_ne (tgt := 23) hx hb dX2_lastPlaceWith_18 (by decide) (fun c3 => ?_) (fun c3 => ?_)
        · --
          refine z_iinc (lv' := [(2, .int (iI (i + (-1)))), (0, .ref h0), (1, .int x)]) hx hb dX2_lastPlaceWith_23 hl (k := 0) rfl (by decide) rfl (fun ls hl => ?_)
          refine lv_goto (tgt := 7) hx hb dX2_lastPlaceWith_26 (by decide) ?_
          exact ih1 (i + (-1)) (by omega) (lastw_step hi.1 hg (by assumption)) (by omega) _ _ _ hP hD hS (lv_sub hl [0, 1, 2] rfl)
        · --
          refine lv_iload_n hx hb dX2_lastPlaceWith_21 rfl (lv_at hl 0 rfl) ?_
          exact z_iret hx hb hr hlocks hS () (show (iI i) = iI (lastF n.toNat f x) from (congrArg iI (lastF_eq ⟨by omega, by omega, fun _ => by assumption, hg⟩))) hP dX2_lastPlaceWith_22
  exact hloop1 (Int.toNat ((n - 1) + 1) + 1) (n - 1) (by omega) (fun j h1 h2 => absurd h2 (by omega)) (by omega) _ _ _ hP hD hS (lv_sub hl [0, 1, 2] rfl)
end
section
theorem dX3_copy_0 : decode cX3_copy 0 = .ok (.aload_n 0, 1) := by decide +kernel
theorem dX3_copy_1 : decode cX3_copy 1 = .ok (.getfield 14, 3) := by decide +kernel
theorem dX3_copy_4 : decode cX3_copy 4 = .ok (.aload_n 1, 1) := by decide +kernel
theorem dX3_copy_5 : decode cX3_copy 5 = .ok (.getfield 14, 3) := by decide +kernel
theorem dX3_copy_8 : decode cX3_copy 8 = .ok (.invokevirtual 33, 3) := by decide +kernel
theorem dX3_copy_11 : decode cX3_copy 11 = .ok (.aload_n 0, 1) := by decide +kernel
theorem dX3_copy_12 : decode cX3_copy 12 = .ok (.getfield 20, 3) := by decide +kernel
theorem dX3_copy_15 : decode cX3_copy 15 = .ok (.aload_n 1, 1) := by decide +kernel
theorem dX3_copy_16 : decode cX3_copy 16 = .ok (.getfield 20, 3) := by decide +kernel
theorem dX3_copy_19 : decode cX3_copy 19 = .ok (.invokevirtual 33, 3) := by decide +kernel
theorem dX3_copy_22 : decode cX3_copy 22 = .ok (.aload_n 0, 1) := by decide +kernel
theorem dX3_copy_23 : decode cX3_copy 23 = .ok (.getfield 23, 3) := by decide +kernel
theorem dX3_copy_26 : decode cX3_copy 26 = .ok (.aload_n 1, 1) := by decide +kernel
theorem dX3_copy_27 : decode cX3_copy 27 = .ok (.getfield 23, 3) := by decide +kernel
theorem dX3_copy_30 : decode cX3_copy 30 = .ok (.invokevirtual 33, 3) := by decide +kernel
theorem dX3_copy_33 : decode cX3_copy 33 = .ok (.aload_n 0, 1) := by decide +kernel
theorem dX3_copy_34 : decode cX3_copy 34 = .ok (.aload_n 1, 1) := by decide +kernel
theorem dX3_copy_35 : decode cX3_copy 35 = .ok (.getfield 26, 3) := by decide +kernel
theorem dX3_copy_38 : decode cX3_copy 38 = .ok (.putfield 26, 3) := by decide +kernel
theorem dX3_copy_41 : decode cX3_copy 41 = .ok (.aload_n 0, 1) := by decide +kernel
theorem dX3_copy_42 : decode cX3_copy 42 = .ok (.aload_n 1, 1) := by decide +kernel
theorem dX3_copy_43 : decode cX3_copy 43 = .ok (.getfield 30, 3) := by decide +kernel
theorem dX3_copy_46 : decode cX3_copy 46 = .ok (.putfield 30, 3) := by decide +kernel
theorem dX3_copy_49 : decode cX3_copy 49 = .ok (.aload_n 0, 1) := by decide +kernel
theorem dX3_copy_50 : decode cX3_copy 50 = .ok (.aload_n 1, 1) := by decide +kernel
theorem dX3_copy_51 : decode cX3_copy 51 = .ok (.getfield 37, 3) := by decide +kernel
theorem dX3_copy_54 : decode cX3_copy 54 = .ok (.putfield 37, 3) := by decide +kernel
theorem dX3_copy_57 : decode cX3_copy 57 = .ok (.aload_n 0, 1) := by decide +kernel
theorem dX3_copy_58 : decode cX3_copy 58 = .ok (.aload_n 1, 1) := by decide +kernel
theorem dX3_copy_59 : decode cX3_copy 59 = .ok (.getfield 41, 3) := by decide +kernel
theorem dX3_copy_62 : decode cX3_copy 62 = .ok (.putfield 41, 3) := by decide +kernel
theorem dX3_copy_65 : decode cX3_copy 65 = .ok (.aload_n 0, 1) := by decide +kernel
theorem dX3_copy_66 : decode cX3_copy 66 = .ok (.aload_n 1, 1) := by decide +kernel
theorem dX3_copy_67 : decode cX3_copy 67 = .ok (.getfield 44, 3) := by decide +kernel
theorem dX3_copy_70 : decode cX3_copy 70 = .ok (.putfield 44, 3) := by decide +kernel
theorem dX3_copy_73 : decode cX3_copy 73 = .ok (.return_, 1) := by decide +kernel
set_option maxRecDepth 20000 in
theorem ggX3_copy_X2_copy : GoodIn wsX3_copy wsX2_copy := goodIn_r _ [13, 14, 15, 16, 17, 18, 12, 19, 20, 21, 22, 23, 32, 33] (by decide +kernel) (by decide +kernel)
set_option maxRecDepth 20000 in
theorem gX3_copy_X2_copy : GoodIn wsX3_copy (wsV RX3 33 RX2 yX2_copy wsX2_copy) := goodIn_app (goodIn_of _ (by decide +kernel)) ggX3_copy_X2_copy
theorem dX3_beginAnew_0 : decode cX3_beginAnew 0 = .ok (.aload_n 0, 1) := by decide +kernel
theorem dX3_beginAnew_1 : decode cX3_beginAnew 1 = .ok (.iconst 0, 1) := by decide +kernel
theorem dX3_beginAnew_2 : decode cX3_beginAnew 2 = .ok (.putfield 37, 3) := by decide +kernel
theorem dX3_beginAnew_5 : decode cX3_beginAnew 5 = .ok (.aload_n 0, 1) := by decide +kernel
theorem dX3_beginAnew_6 : decode cX3_beginAnew 6 = .ok (.iconst 0, 1) := by decide +kernel
theorem dX3_beginAnew_7 : decode cX3_beginAnew 7 = .ok (.putfield 41, 3) := by decide +kernel
theorem dX3_beginAnew_10 : decode cX3_beginAnew 10 = .ok (.aload_n 0, 1) := by decide +kernel
theorem dX3_beginAnew_11 : decode cX3_beginAnew 11 = .ok (.iconst 0, 1) := by decide +kernel
theorem dX3_beginAnew_12 : decode cX3_beginAnew 12 = .ok (.putfield 44, 3) := by decide +kernel
theorem dX3_beginAnew_15 : decode cX3_beginAnew 15 = .ok (.aload_n 0, 1) := by decide +kernel
theorem dX3_beginAnew_16 : decode cX3_beginAnew 16 = .ok (.getfield 23, 3) := by decide +kernel
theorem dX3_beginAnew_19 : decode cX3_beginAnew 19 = .ok (.invokevirtual 47, 3) := by decide +kernel
theorem dX3_beginAnew_22 : decode cX3_beginAnew 22 = .ok (.return_, 1) := by decide +kernel
set_option maxRecDepth 20000 in
theorem ggX3_beginAnew_X2_clear : GoodIn wsX3_beginAnew wsX2_clear := goodIn_r _ [9, 10, 19, 20] (by decide +kernel) (by decide +kernel)
set_option maxRecDepth 20000 in
theorem gX3_beginAnew_X2_clear : GoodIn wsX3_beginAnew (wsV RX3 47 RX2 yX2_clear wsX2_clear) := goodIn_app (goodIn_of _ (by decide +kernel)) ggX3_beginAnew_X2_clear
theorem dX3_useRules_0 : decode cX3_useRules 0 = .ok (.aload_n 0, 1) := by decide +kernel
theorem dX3_useRules_1 : decode cX3_useRules 1 = .ok (.iload_n 1, 1) := by decide +kernel
theorem dX3_useRules_2 : decode cX3_useRules 2 = .ok (.putfield 26, 3) := by decide +kernel
theorem dX3_useRules_5 : decode cX3_useRules 5 = .ok (.aload_n 0, 1) := by decide +kernel
theorem dX3_useRules_6 : decode cX3_useRules 6 = .ok (.iload_n 2, 1) := by decide +kernel
theorem dX3_useRules_7 : decode cX3_useRules 7 = .ok (.putfield 30, 3) := by decide +kernel
theorem dX3_useRules_10 : decode cX3_useRules 10 = .ok (.return_, 1) := by decide +kernel
theorem dX3_rulesOn_0 : decode cX3_rulesOn 0 = .ok (.aload_n 0, 1) := by decide +kernel
theorem dX3_rulesOn_1 : decode cX3_rulesOn 1 = .ok (.getfield 26, 3) := by decide +kernel
theorem dX3_rulesOn_4 : decode cX3_rulesOn 4 = .ok (.ifCond .eq 7, 3) := by decide +kernel
theorem dX3_rulesOn_7 : decode cX3_rulesOn 7 = .ok (.iconst 1, 1) := by decide +kernel
theorem dX3_rulesOn_8 : decode cX3_rulesOn 8 = .ok (.goto 4, 3) := by decide +kernel
theorem dX3_rulesOn_11 : decode cX3_rulesOn 11 = .ok (.iconst 0, 1) := by decide +kernel
theorem dX3_rulesOn_12 : decode cX3_rulesOn 12 = .ok (.aload_n 0, 1) := by decide +kernel
theorem dX3_rulesOn_13 : decode cX3_rulesOn 13 = .ok (.getfield 30, 3) := by decide +kernel
theorem dX3_rulesOn_16 : decode cX3_rulesOn 16 = .ok (.ifCond .eq 7, 3) := by decide +kernel
theorem dX3_rulesOn_19 : decode cX3_rulesOn 19 = .ok (.iconst 1, 1) := by decide +kernel
theorem dX3_rulesOn_20 : decode cX3_rulesOn 20 = .ok (.goto 4, 3) := by decide +kernel
theorem dX3_rulesOn_23 : decode cX3_rulesOn 23 = .ok (.iconst 0, 1) := by decide +kernel
theorem dX3_rulesOn_24 : decode cX3_rulesOn 24 = .ok (.iadd, 1) := by decide +kernel
theorem dX3_rulesOn_25 : decode cX3_rulesOn 25 = .ok (.ireturn, 1) := by decide +kernel
theorem dX3_beginnings_0 : decode cX3_beginnings 0 = .ok (.aload_n 0, 1) := by decide +kernel
theorem dX3_beginnings_1 : decode cX3_beginnings 1 = .ok (.getfield 14, 3) := by decide +kernel
theorem dX3_beginnings_4 : decode cX3_beginnings 4 = .ok (.invokevirtual 50, 3) := by decide +kernel
theorem dX3_beginnings_7 : decode cX3_beginnings 7 = .ok (.aload_n 0, 1) := by decide +kernel
theorem dX3_beginnings_8 : decode cX3_beginnings 8 = .ok (.getfield 20, 3) := by decide +kernel
theorem dX3_beginnings_11 : decode cX3_beginnings 11 = .ok (.invokevirtual 50, 3) := by decide +kernel
theorem dX3_beginnings_14 : decode cX3_beginnings 14 = .ok (.isub, 1) := by decide +kernel
theorem dX3_beginnings_15 : decode cX3_beginnings 15 = .ok (.iconst 1, 1) := by decide +kernel
theorem dX3_beginnings_16 : decode cX3_beginnings 16 = .ok (.iadd, 1) := by decide +kernel
theorem dX3_beginnings_17 : decode cX3_beginnings 17 = .ok (.iconst 0, 1) := by decide +kernel
theorem dX3_beginnings_18 : decode cX3_beginnings 18 = .ok (.invokestatic 54, 3) := by decide +kernel
theorem dX3_beginnings_21 : decode cX3_beginnings 21 = .ok (.ireturn, 1) := by decide +kernel
set_option maxRecDepth 20000 in
theorem ggX3_beginnings_X2_size : GoodIn wsX3_beginnings wsX2_size := goodIn_r _ [11, 12, 21, 22] (by decide +kernel) (by decide +kernel)
set_option maxRecDepth 20000 in
theorem gX3_beginnings_X2_size : GoodIn wsX3_beginnings (wsV RX3 50 RX2 yX2_size wsX2_size) := goodIn_app (goodIn_of _ (by decide +kernel)) ggX3_beginnings_X2_size
theorem dX3_hasEnded_0 : decode cX3_hasEnded 0 = .ok (.aload_n 0, 1) := by decide +kernel
theorem dX3_hasEnded_1 : decode cX3_hasEnded 1 = .ok (.getfield 20, 3) := by decide +kernel
theorem dX3_hasEnded_4 : decode cX3_hasEnded 4 = .ok (.invokevirtual 60, 3) := by decide +kernel
theorem dX3_hasEnded_7 : decode cX3_hasEnded 7 = .ok (.ifCond .ne 14, 3) := by decide +kernel
theorem dX3_hasEnded_10 : decode cX3_hasEnded 10 = .ok (.aload_n 0, 1) := by decide +kernel
theorem dX3_hasEnded_11 : decode cX3_hasEnded 11 = .ok (.getfield 37, 3) := by decide +kernel
theorem dX3_hasEnded_14 : decode cX3_hasEnded 14 = .ok (.aload_n 0, 1) := by decide +kernel
theorem dX3_hasEnded_15 : decode cX3_hasEnded 15 = .ok (.invokevirtual 64, 3) := by decide +kernel
theorem dX3_hasEnded_18 : decode cX3_hasEnded 18 = .ok (.if_icmp .lt 7, 3) := by decide +kernel
theorem dX3_hasEnded_21 : decode cX3_hasEnded 21 = .ok (.iconst 1, 1) := by decide +kernel
theorem dX3_hasEnded_22 : decode cX3_hasEnded 22 = .ok (.goto 4, 3) := by decide +kernel
theorem dX3_hasEnded_25 : decode cX3_hasEnded 25 = .ok (.iconst 0, 1) := by decide +kernel
theorem dX3_hasEnded_26 : decode cX3_hasEnded 26 = .ok (.ireturn, 1) := by decide +kernel
set_option maxRecDepth 20000 in
theorem ggX3_hasEnded_X2_isEmpty : GoodIn wsX3_hasEnded wsX2_isEmpty := goodIn_r _ [7, 8, 31, 32] (by decide +kernel) (by decide +kernel)
set_option maxRecDepth 20000 in
theorem gX3_hasEnded_X2_isEmpty : GoodIn wsX3_hasEnded (wsV RX3 60 RX2 yX2_isEmpty wsX2_isEmpty) := goodIn_app (goodIn_of _ (by decide +kernel)) ggX3_hasEnded_X2_isEmpty
set_option maxRecDepth 20000 in
theorem ggX3_hasEnded_X3_beginnings : GoodIn wsX3_hasEnded wsX3_beginnings := goodIn_r _ [13, 14, 1, 15, 16, 17, 18, 19, 20, 21, 6, 22, 8, 23, 24, 25, 26, 27, 28, 29, 30, 31, 32] (by decide +kernel) (by decide +kernel)
set_option maxRecDepth 20000 in
theorem gX3_hasEnded_X3_beginnings : GoodIn wsX3_hasEnded (wsV RX3 64 RX3 yX3_beginnings wsX3_beginnings) := goodIn_app (goodIn_of _ (by decide +kernel)) ggX3_hasEnded_X3_beginnings
theorem dX3_lastDifferenceAt_0 : decode cX3_lastDifferenceAt 0 = .ok (.aload_n 0, 1) := by decide +kernel
theorem dX3_lastDifferenceAt_1 : decode cX3_lastDifferenceAt 1 = .ok (.getfield 20, 3) := by decide +kernel
theorem dX3_lastDifferenceAt_4 : decode cX3_lastDifferenceAt 4 = .ok (.invokevirtual 50, 3) := by decide +kernel
theorem dX3_lastDifferenceAt_7 : decode cX3_lastDifferenceAt 7 = .ok (.iconst 1, 1) := by decide +kernel
theorem dX3_lastDifferenceAt_8 : decode cX3_lastDifferenceAt 8 = .ok (.isub, 1) := by decide +kernel
theorem dX3_lastDifferenceAt_9 : decode cX3_lastDifferenceAt 9 = .ok (.istore_n 2, 1) := by decide +kernel
theorem dX3_lastDifferenceAt_10 : decode cX3_lastDifferenceAt 10 = .ok (.iload_n 2, 1) := by decide +kernel
theorem dX3_lastDifferenceAt_11 : decode cX3_lastDifferenceAt 11 = .ok (.ifCond .lt 32, 3) := by decide +kernel
theorem dX3_lastDifferenceAt_14 : decode cX3_lastDifferenceAt 14 = .ok (.aload_n 0, 1) := by decide +kernel
theorem dX3_lastDifferenceAt_15 : decode cX3_lastDifferenceAt 15 = .ok (.getfield 20, 3) := by decide +kernel
theorem dX3_lastDifferenceAt_18 : decode cX3_lastDifferenceAt 18 = .ok (.iload_n 2, 1) := by decide +kernel
theorem dX3_lastDifferenceAt_19 : decode cX3_lastDifferenceAt 19 = .ok (.invokevirtual 85, 3) := by decide +kernel
theorem dX3_lastDifferenceAt_22 : decode cX3_lastDifferenceAt 22 = .ok (.aload_n 0, 1) := by decide +kernel
theorem dX3_lastDifferenceAt_23 : decode cX3_lastDifferenceAt 23 = .ok (.getfield 14, 3) := by decide +kernel
theorem dX3_lastDifferenceAt_26 : decode cX3_lastDifferenceAt 26 = .ok (.iload_n 1, 1) := by decide +kernel
theorem dX3_lastDifferenceAt_27 : decode cX3_lastDifferenceAt 27 = .ok (.iload_n 2, 1) := by decide +kernel
theorem dX3_lastDifferenceAt_28 : decode cX3_lastDifferenceAt 28 = .ok (.iadd, 1) := by decide +kernel
theorem dX3_lastDifferenceAt_29 : decode cX3_lastDifferenceAt 29 = .ok (.invokevirtual 85, 3) := by decide +kernel
theorem dX3_lastDifferenceAt_32 : decode cX3_lastDifferenceAt 32 = .ok (.if_icmp .eq 5, 3) := by decide +kernel
theorem dX3_lastDifferenceAt_35 : decode cX3_lastDifferenceAt 35 = .ok (.iload_n 2, 1) := by decide +kernel
theorem dX3_lastDifferenceAt_36 : decode cX3_lastDifferenceAt 36 = .ok (.ireturn, 1) := by decide +kernel
theorem dX3_lastDifferenceAt_37 : decode cX3_lastDifferenceAt 37 = .ok (.iinc 2 (-1), 3) := by decide +kernel
theorem dX3_lastDifferenceAt_40 : decode cX3_lastDifferenceAt 40 = .ok (.goto (-30), 3) := by decide +kernel
theorem dX3_lastDifferenceAt_43 : decode cX3_lastDifferenceAt 43 = .ok (.iconst (-1), 1) := by decide +kernel
theorem dX3_lastDifferenceAt_44 : decode cX3_lastDifferenceAt 44 = .ok (.ireturn, 1) := by decide +kernel
set_option maxRecDepth 20000 in
theorem ggX3_lastDifferenceAt_X2_size : GoodIn wsX3_lastDifferenceAt wsX2_size := goodIn_r _ [7, 8, 26, 27] (by decide +kernel) (by decide +kernel)
set_option maxRecDepth 20000 in
theorem gX3_lastDifferenceAt_X2_size : GoodIn wsX3_lastDifferenceAt (wsV RX3 50 RX2 yX2_size wsX2_size) := goodIn_app (goodIn_of _ (by decide +kernel)) ggX3_lastDifferenceAt_X2_size
set_option maxRecDepth 20000 in
theorem ggX3_lastDifferenceAt_X2_at : GoodIn wsX3_lastDifferenceAt wsX2_at := goodIn_r _ [12, 13, 14, 15, 16, 6, 17, 8, 26, 27] (by decide +kernel) (by decide +kernel)
set_option maxRecDepth 20000 in
theorem gX3_lastDifferenceAt_X2_at : GoodIn wsX3_lastDifferenceAt (wsV RX3 85 RX2 yX2_at wsX2_at) := goodIn_app (goodIn_of _ (by decide +kernel)) ggX3_lastDifferenceAt_X2_at
theorem dX3_skipByLetter_0 : decode cX3_skipByLetter 0 = .ok (.iload_n 1, 1) := by decide +kernel
theorem dX3_skipByLetter_1 : decode cX3_skipByLetter 1 = .ok (.aload_n 0, 1) := by decide +kernel
theorem dX3_skipByLetter_2 : decode cX3_skipByLetter 2 = .ok (.getfield 20, 3) := by decide +kernel
theorem dX3_skipByLetter_5 : decode cX3_skipByLetter 5 = .ok (.iload_n 2, 1) := by decide +kernel
theorem dX3_skipByLetter_6 : decode cX3_skipByLetter 6 = .ok (.invokevirtual 99, 3) := by decide +kernel
theorem dX3_skipByLetter_9 : decode cX3_skipByLetter 9 = .ok (.isub, 1) := by decide +kernel
theorem dX3_skipByLetter_10 : decode cX3_skipByLetter 10 = .ok (.ireturn, 1) := by decide +kernel
set_option maxRecDepth 20000 in
theorem ggX3_skipByLetter_X2_lastPlaceWith : GoodIn wsX3_skipByLetter wsX2_lastPlaceWith := goodIn_r _ [6, 7, 8, 17, 18] (by decide +kernel) (by decide +kernel)
set_option maxRecDepth 20000 in
theorem gX3_skipByLetter_X2_lastPlaceWith : GoodIn wsX3_skipByLetter (wsV RX3 99 RX2 yX2_lastPlaceWith wsX2_lastPlaceWith) := goodIn_app (goodIn_of _ (by decide +kernel)) ggX3_skipByLetter_X2_lastPlaceWith
theorem dX0_skipAt_0 : decode cX0_skipAt 0 = .ok (.iload_n 1, 1) := by decide +kernel
theorem dX0_skipAt_1 : decode cX0_skipAt 1 = .ok (.ifCond .lt 22, 3) := by decide +kernel
theorem dX0_skipAt_4 : decode cX0_skipAt 4 = .ok (.iload_n 1, 1) := by decide +kernel
theorem dX0_skipAt_5 : decode cX0_skipAt 5 = .ok (.aload_n 0, 1) := by decide +kernel
theorem dX0_skipAt_6 : decode cX0_skipAt 6 = .ok (.getfield 30, 3) := by decide +kernel
theorem dX0_skipAt_9 : decode cX0_skipAt 9 = .ok (.if_icmp .ge 14, 3) := by decide +kernel
theorem dX0_skipAt_12 : decode cX0_skipAt 12 = .ok (.aload_n 0, 1) := by decide +kernel
theorem dX0_skipAt_13 : decode cX0_skipAt 13 = .ok (.getfield 15, 3) := by decide +kernel
theorem dX0_skipAt_16 : decode cX0_skipAt 16 = .ok (.iload_n 1, 1) := by decide +kernel
theorem dX0_skipAt_17 : decode cX0_skipAt 17 = .ok (.iconst 1, 1) := by decide +kernel
theorem dX0_skipAt_18 : decode cX0_skipAt 18 = .ok (.iadd, 1) := by decide +kernel
theorem dX0_skipAt_19 : decode cX0_skipAt 19 = .ok (.iaload, 1) := by decide +kernel
theorem dX0_skipAt_20 : decode cX0_skipAt 20 = .ok (.goto 4, 3) := by decide +kernel
theorem dX0_skipAt_23 : decode cX0_skipAt 23 = .ok (.iconst 0, 1) := by decide +kernel
theorem dX0_skipAt_24 : decode cX0_skipAt 24 = .ok (.ireturn, 1) := by decide +kernel
theorem dX0_wordPeriod_0 : decode cX0_wordPeriod 0 = .ok (.aload_n 0, 1) := by decide +kernel
theorem dX0_wordPeriod_1 : decode cX0_wordPeriod 1 = .ok (.getfield 30, 3) := by decide +kernel
theorem dX0_wordPeriod_4 : decode cX0_wordPeriod 4 = .ok (.ifCond .ne 7, 3) := by decide +kernel
theorem dX0_wordPeriod_7 : decode cX0_wordPeriod 7 = .ok (.iconst 0, 1) := by decide +kernel
theorem dX0_wordPeriod_8 : decode cX0_wordPeriod 8 = .ok (.goto 9, 3) := by decide +kernel
theorem dX0_wordPeriod_11 : decode cX0_wordPeriod 11 = .ok (.aload_n 0, 1) := by decide +kernel
theorem dX0_wordPeriod_12 : decode cX0_wordPeriod 12 = .ok (.getfield 9, 3) := by decide +kernel
theorem dX0_wordPeriod_15 : decode cX0_wordPeriod 15 = .ok (.iconst 0, 1) := by decide +kernel
theorem dX0_wordPeriod_16 : decode cX0_wordPeriod 16 = .ok (.iaload, 1) := by decide +kernel
theorem dX0_wordPeriod_17 : decode cX0_wordPeriod 17 = .ok (.ireturn, 1) := by decide +kernel
theorem dX3_skipBehind_0 : decode cX3_skipBehind 0 = .ok (.iload_n 1, 1) := by decide +kernel
theorem dX3_skipBehind_1 : decode cX3_skipBehind 1 = .ok (.iconst (-1), 1) := by decide +kernel
theorem dX3_skipBehind_2 : decode cX3_skipBehind 2 = .ok (.if_icmp .ne 8, 3) := by decide +kernel
theorem dX3_skipBehind_5 : decode cX3_skipBehind 5 = .ok (.aload_n 2, 1) := by decide +kernel
theorem dX3_skipBehind_6 : decode cX3_skipBehind 6 = .ok (.invokevirtual 88, 3) := by decide +kernel
theorem dX3_skipBehind_9 : decode cX3_skipBehind 9 = .ok (.ireturn, 1) := by decide +kernel
theorem dX3_skipBehind_10 : decode cX3_skipBehind 10 = .ok (.iconst 1, 1) := by decide +kernel
theorem dX3_skipBehind_11 : decode cX3_skipBehind 11 = .ok (.istore_n 3, 1) := by decide +kernel
theorem dX3_skipBehind_12 : decode cX3_skipBehind 12 = .ok (.aload_n 0, 1) := by decide +kernel
theorem dX3_skipBehind_13 : decode cX3_skipBehind 13 = .ok (.getfield 26, 3) := by decide +kernel
theorem dX3_skipBehind_16 : decode cX3_skipBehind 16 = .ok (.ifCond .eq 26, 3) := by decide +kernel
theorem dX3_skipBehind_19 : decode cX3_skipBehind 19 = .ok (.iload_n 3, 1) := by decide +kernel
theorem dX3_skipBehind_20 : decode cX3_skipBehind 20 = .ok (.aload_n 0, 1) := by decide +kernel
theorem dX3_skipBehind_21 : decode cX3_skipBehind 21 = .ok (.iload_n 1, 1) := by decide +kernel
theorem dX3_skipBehind_22 : decode cX3_skipBehind 22 = .ok (.aload_n 0, 1) := by decide +kernel
theorem dX3_skipBehind_23 : decode cX3_skipBehind 23 = .ok (.getfield 14, 3) := by decide +kernel
theorem dX3_skipBehind_26 : decode cX3_skipBehind 26 = .ok (.aload_n 0, 1) := by decide +kernel
theorem dX3_skipBehind_27 : decode cX3_skipBehind 27 = .ok (.getfield 37, 3) := by decide +kernel
theorem dX3_skipBehind_30 : decode cX3_skipBehind 30 = .ok (.iload_n 1, 1) := by decide +kernel
theorem dX3_skipBehind_31 : decode cX3_skipBehind 31 = .ok (.iadd, 1) := by decide +kernel
theorem dX3_skipBehind_32 : decode cX3_skipBehind 32 = .ok (.invokevirtual 85, 3) := by decide +kernel
theorem dX3_skipBehind_35 : decode cX3_skipBehind 35 = .ok (.invokevirtual 93, 3) := by decide +kernel
theorem dX3_skipBehind_38 : decode cX3_skipBehind 38 = .ok (.invokestatic 54, 3) := by decide +kernel
theorem dX3_skipBehind_41 : decode cX3_skipBehind 41 = .ok (.istore_n 3, 1) := by decide +kernel
theorem dX3_skipBehind_42 : decode cX3_skipBehind 42 = .ok (.aload_n 0, 1) := by decide +kernel
theorem dX3_skipBehind_43 : decode cX3_skipBehind 43 = .ok (.getfield 30, 3) := by decide +kernel
theorem dX3_skipBehind_46 : decode cX3_skipBehind 46 = .ok (.ifCond .eq 13, 3) := by decide +kernel
theorem dX3_skipBehind_49 : decode cX3_skipBehind 49 = .ok (.iload_n 3, 1) := by decide +kernel
theorem dX3_skipBehind_50 : decode cX3_skipBehind 50 = .ok (.aload_n 2, 1) := by decide +kernel
theorem dX3_skipBehind_51 : decode cX3_skipBehind 51 = .ok (.iload_n 1, 1) := by decide +kernel
theorem dX3_skipBehind_52 : decode cX3_skipBehind 52 = .ok (.invokevirtual 96, 3) := by decide +kernel
theorem dX3_skipBehind_55 : decode cX3_skipBehind 55 = .ok (.invokestatic 54, 3) := by decide +kernel
theorem dX3_skipBehind_58 : decode cX3_skipBehind 58 = .ok (.istore_n 3, 1) := by decide +kernel
theorem dX3_skipBehind_59 : decode cX3_skipBehind 59 = .ok (.iload_n 3, 1) := by decide +kernel
theorem dX3_skipBehind_60 : decode cX3_skipBehind 60 = .ok (.ireturn, 1) := by decide +kernel
set_option maxRecDepth 20000 in
theorem ggX3_skipBehind_X0_wordPeriod : GoodIn wsX3_skipBehind wsX0_wordPeriod := goodIn_r _ [13, 14, 15, 50, 51, 52] (by decide +kernel) (by decide +kernel)
set_option maxRecDepth 20000 in
theorem gX3_skipBehind_X0_wordPeriod : GoodIn wsX3_skipBehind (wsV RX3 88 RX0 yX0_wordPeriod wsX0_wordPeriod) := goodIn_app (goodIn_of _ (by decide +kernel)) ggX3_skipBehind_X0_wordPeriod
set_option maxRecDepth 20000 in
theorem ggX3_skipBehind_X2_at : GoodIn wsX3_skipBehind wsX2_at := goodIn_r _ [20, 21, 22, 23, 24, 19, 25, 26, 53, 54] (by decide +kernel) (by decide +kernel)
set_option maxRecDepth 20000 in
theorem gX3_skipBehind_X2_at : GoodIn wsX3_skipBehind (wsV RX3 85 RX2 yX2_at wsX2_at) := goodIn_app (goodIn_of _ (by decide +kernel)) ggX3_skipBehind_X2_at
set_option maxRecDepth 20000 in
theorem ggX3_skipBehind_X3_skipByLetter : GoodIn wsX3_skipBehind wsX3_skipByLetter := goodIn_r _ [31, 32, 33, 34, 35, 19, 36, 26, 21, 42, 43, 44, 45, 46, 47, 48, 49, 53, 54] (by decide +kernel) (by decide +kernel)
set_option maxRecDepth 20000 in
theorem gX3_skipBehind_X3_skipByLetter : GoodIn wsX3_skipBehind (wsV RX3 93 RX3 yX3_skipByLetter wsX3_skipByLetter) := goodIn_app (goodIn_of _ (by decide +kernel)) ggX3_skipBehind_X3_skipByLetter
set_option maxRecDepth 20000 in
theorem ggX3_skipBehind_X0_skipAt : GoodIn wsX3_skipBehind wsX0_skipAt := goodIn_r _ [40, 14, 41, 50, 51, 52] (by decide +kernel) (by decide +kernel)
set_option maxRecDepth 20000 in
theorem gX3_skipBehind_X0_skipAt : GoodIn wsX3_skipBehind (wsV RX3 96 RX0 yX0_skipAt wsX0_skipAt) := goodIn_app (goodIn_of _ (by decide +kernel)) ggX3_skipBehind_X0_skipAt
theorem dX3_lookOnce_0 : decode cX3_lookOnce 0 = .ok (.aload_n 0, 1) := by decide +kernel
theorem dX3_lookOnce_1 : decode cX3_lookOnce 1 = .ok (.aload_n 0, 1) := by decide +kernel
theorem dX3_lookOnce_2 : decode cX3_lookOnce 2 = .ok (.getfield 37, 3) := by decide +kernel
theorem dX3_lookOnce_5 : decode cX3_lookOnce 5 = .ok (.invokevirtual 74, 3) := by decide +kernel
theorem dX3_lookOnce_8 : decode cX3_lookOnce 8 = .ok (.istore_n 2, 1) := by decide +kernel
theorem dX3_lookOnce_9 : decode cX3_lookOnce 9 = .ok (.aload_n 0, 1) := by decide +kernel
theorem dX3_lookOnce_10 : decode cX3_lookOnce 10 = .ok (.dup, 1) := by decide +kernel
theorem dX3_lookOnce_11 : decode cX3_lookOnce 11 = .ok (.getfield 41, 3) := by decide +kernel
theorem dX3_lookOnce_14 : decode cX3_lookOnce 14 = .ok (.iconst 1, 1) := by decide +kernel
theorem dX3_lookOnce_15 : decode cX3_lookOnce 15 = .ok (.iadd, 1) := by decide +kernel
theorem dX3_lookOnce_16 : decode cX3_lookOnce 16 = .ok (.putfield 41, 3) := by decide +kernel
theorem dX3_lookOnce_19 : decode cX3_lookOnce 19 = .ok (.aload_n 0, 1) := by decide +kernel
theorem dX3_lookOnce_20 : decode cX3_lookOnce 20 = .ok (.dup, 1) := by decide +kernel
theorem dX3_lookOnce_21 : decode cX3_lookOnce 21 = .ok (.getfield 44, 3) := by decide +kernel
theorem dX3_lookOnce_24 : decode cX3_lookOnce 24 = .ok (.aload_n 0, 1) := by decide +kernel
theorem dX3_lookOnce_25 : decode cX3_lookOnce 25 = .ok (.getfield 20, 3) := by decide +kernel
theorem dX3_lookOnce_28 : decode cX3_lookOnce 28 = .ok (.invokevirtual 50, 3) := by decide +kernel
theorem dX3_lookOnce_31 : decode cX3_lookOnce 31 = .ok (.iload_n 2, 1) := by decide +kernel
theorem dX3_lookOnce_32 : decode cX3_lookOnce 32 = .ok (.iconst 0, 1) := by decide +kernel
theorem dX3_lookOnce_33 : decode cX3_lookOnce 33 = .ok (.invokestatic 54, 3) := by decide +kernel
theorem dX3_lookOnce_36 : decode cX3_lookOnce 36 = .ok (.isub, 1) := by decide +kernel
theorem dX3_lookOnce_37 : decode cX3_lookOnce 37 = .ok (.iadd, 1) := by decide +kernel
theorem dX3_lookOnce_38 : decode cX3_lookOnce 38 = .ok (.putfield 44, 3) := by decide +kernel
theorem dX3_lookOnce_41 : decode cX3_lookOnce 41 = .ok (.aload_n 0, 1) := by decide +kernel
theorem dX3_lookOnce_42 : decode cX3_lookOnce 42 = .ok (.iload_n 2, 1) := by decide +kernel
theorem dX3_lookOnce_43 : decode cX3_lookOnce 43 = .ok (.aload_n 1, 1) := by decide +kernel
theorem dX3_lookOnce_44 : decode cX3_lookOnce 44 = .ok (.invokevirtual 78, 3) := by decide +kernel
theorem dX3_lookOnce_47 : decode cX3_lookOnce 47 = .ok (.istore_n 3, 1) := by decide +kernel
theorem dX3_lookOnce_48 : decode cX3_lookOnce 48 = .ok (.iload_n 2, 1) := by decide +kernel
theorem dX3_lookOnce_49 : decode cX3_lookOnce 49 = .ok (.iconst (-1), 1) := by decide +kernel
theorem dX3_lookOnce_50 : decode cX3_lookOnce 50 = .ok (.if_icmp .ne 14, 3) := by decide +kernel
theorem dX3_lookOnce_53 : decode cX3_lookOnce 53 = .ok (.aload_n 0, 1) := by decide +kernel
theorem dX3_lookOnce_54 : decode cX3_lookOnce 54 = .ok (.getfield 23, 3) := by decide +kernel
theorem dX3_lookOnce_57 : decode cX3_lookOnce 57 = .ok (.aload_n 0, 1) := by decide +kernel
theorem dX3_lookOnce_58 : decode cX3_lookOnce 58 = .ok (.getfield 37, 3) := by decide +kernel
theorem dX3_lookOnce_61 : decode cX3_lookOnce 61 = .ok (.invokevirtual 82, 3) := by decide +kernel
theorem dX3_lookOnce_64 : decode cX3_lookOnce 64 = .ok (.aload_n 0, 1) := by decide +kernel
theorem dX3_lookOnce_65 : decode cX3_lookOnce 65 = .ok (.dup, 1) := by decide +kernel
theorem dX3_lookOnce_66 : decode cX3_lookOnce 66 = .ok (.getfield 37, 3) := by decide +kernel
theorem dX3_lookOnce_69 : decode cX3_lookOnce 69 = .ok (.iload_n 3, 1) := by decide +kernel
theorem dX3_lookOnce_70 : decode cX3_lookOnce 70 = .ok (.iadd, 1) := by decide +kernel
theorem dX3_lookOnce_71 : decode cX3_lookOnce 71 = .ok (.putfield 37, 3) := by decide +kernel
theorem dX3_lookOnce_74 : decode cX3_lookOnce 74 = .ok (.iload_n 3, 1) := by decide +kernel
theorem dX3_lookOnce_75 : decode cX3_lookOnce 75 = .ok (.ireturn, 1) := by decide +kernel
set_option maxRecDepth 20000 in
theorem ggX3_lookOnce_X3_lastDifferenceAt : GoodIn wsX3_lookOnce wsX3_lastDifferenceAt := goodIn_r _ [14, 4, 15, 16, 17, 18, 19, 20, 21, 22, 23, 24, 25, 26, 27, 28, 29, 30, 61, 62, 63, 64, 65, 66, 67, 68, 69, 70] (by decide +kernel) (by decide +kernel)
set_option maxRecDepth 20000 in
theorem gX3_lookOnce_X3_lastDifferenceAt : GoodIn wsX3_lookOnce (wsV RX3 74 RX3 yX3_lastDifferenceAt wsX3_lastDifferenceAt) := goodIn_app (goodIn_of _ (by decide +kernel)) ggX3_lookOnce_X3_lastDifferenceAt
set_option maxRecDepth 20000 in
theorem ggX3_lookOnce_X2_size : GoodIn wsX3_lookOnce wsX2_size := goodIn_r _ [20, 21, 69, 70] (by decide +kernel) (by decide +kernel)
set_option maxRecDepth 20000 in
theorem gX3_lookOnce_X2_size : GoodIn wsX3_lookOnce (wsV RX3 50 RX2 yX2_size wsX2_size) := goodIn_app (goodIn_of _ (by decide +kernel)) ggX3_lookOnce_X2_size
set_option maxRecDepth 20000 in
theorem ggX3_lookOnce_X3_skipBehind : GoodIn wsX3_lookOnce wsX3_skipBehind := goodIn_r _ [34, 35, 15, 1, 5, 6, 7, 8, 36, 37, 38, 39, 40, 41, 42, 43, 22, 23, 24, 19, 25, 26, 27, 28, 29, 30, 21, 44, 45, 46, 13, 47, 4, 48, 49, 50, 51, 52, 53, 54, 55, 56, 61, 62, 63, 64, 65, 66, 67, 68, 71, 72, 73, 69, 70] (by decide +kernel) (by decide +kernel)
set_option maxRecDepth 20000 in
theorem gX3_lookOnce_X3_skipBehind : GoodIn wsX3_lookOnce (wsV RX3 78 RX3 yX3_skipBehind wsX3_skipBehind) := goodIn_app (goodIn_of _ (by decide +kernel)) ggX3_lookOnce_X3_skipBehind
set_option maxRecDepth 20000 in
theorem ggX3_lookOnce_X2_add : GoodIn wsX3_lookOnce wsX2_add := goodIn_r _ [60, 21, 26, 69, 70] (by decide +kernel) (by decide +kernel)
set_option maxRecDepth 20000 in
theorem gX3_lookOnce_X2_add : GoodIn wsX3_lookOnce (wsV RX3 82 RX2 yX2_add wsX2_add) := goodIn_app (goodIn_of _ (by decide +kernel)) ggX3_lookOnce_X2_add
set_option maxHeartbeats 4000000 in
set_option maxRecDepth 100000 in
theorem c_X3_copy (l : Launch) (D : va_G) (cy : Nat → ClassId) (sia : Nat) (lia : Nat) (mia : Nat) (wia : Nat) (via : Nat) (gia : Nat) (eia : Nat) (nla : Int) (Fla : Nat → Int32) (nwa : Int) (Fwa : Nat → Int32) (nfa : Int) (Ffa : Nat → Int32) (lra : Int) (era : Int) (pla : Int) (lka : Int) (cpa : Int) (sib : Nat) (lib : Nat) (mib : Nat) (wib : Nat) (vib : Nat) (gib : Nat) (eib : Nat) (nlb : Int) (Flb : Nat → Int32) (nwb : Int) (Fwb : Nat → Int32) (nfb : Int) (Ffb : Nat → Int32) (lrb : Int) (erb : Int) (plb : Int) (lkb : Int) (cpb : Int) (hb : 0 ≤ nlb ∧ nlb ≤ 60 ∧ 0 ≤ nwb ∧ nwb ≤ 16 ∧ 0 ≤ nfb ∧ nfb ≤ plb ∧ plb ≤ 100 ∧ nfb ≤ 60 ∧ 0 ≤ lkb ∧ lkb ≤ plb ∧ 0 ≤ cpb ∧ cpb ≤ 16 * lkb ∧ 0 ≤ lrb ∧ lrb ≤ 1 ∧ 0 ≤ erb ∧ erb ≤ 1) : Cv l D cy yX3_copy wsX3_copy 2 43 [.ref sia, .ref sib] [(sia, .inr (3, [.ref lia, .ref wia, .ref gia, .int (iI lra), .int (iI era), .int (iI pla), .int (iI lka), .int (iI cpa)])), (lia, .inr (2, [.ref mia, .int (iI nla)])), (mia, .inl (cy 0, 60, .inl Fla)), (wia, .inr (2, [.ref via, .int (iI nwa)])), (via, .inl (cy 0, 16, .inl Fwa)), (gia, .inr (2, [.ref eia, .int (iI nfa)])), (eia, .inl (cy 0, 60, .inl Ffa)), (sib, .inr (3, [.ref lib, .ref wib, .ref gib, .int (iI lrb), .int (iI erb), .int (iI plb), .int (iI lkb), .int (iI cpb)])), (lib, .inr (2, [.ref mib, .int (iI nlb)])), (mib, .inl (cy 0, 60, .inl Flb)), (wib, .inr (2, [.ref vib, .int (iI nwb)])), (vib, .inl (cy 0, 16, .inl Fwb)), (gib, .inr (2, [.ref eib, .int (iI nfb)])), (eib, .inl (cy 0, 60, .inl Ffb))] (fun (u : (Nat → Int32) × (Nat → Int32) × (Nat → Int32)) => (∀ j : Nat, (j : Int) < nlb → u.1 j = Flb j) ∧ (∀ j : Nat, (j : Int) < nwb → u.2.1 j = Fwb j) ∧ ∀ j : Nat, (j : Int) < nfb → u.2.2 j = Ffb j) (fun u : (Nat → Int32) × (Nat → Int32) × (Nat → Int32) => [(sia, .inr (3, [.ref lia, .ref wia, .ref gia, .int (iI lrb), .int (iI erb), .int (iI plb), .int (iI lkb), .int (iI cpb)])), (lia, .inr (2, [.ref mia, .int (iI nlb)])), (mia, .inl (cy 0, 60, .inl u.1)), (wia, .inr (2, [.ref via, .int (iI nwb)])), (via, .inl (cy 0, 16, .inl u.2.1)), (gia, .inr (2, [.ref eia, .int (iI nfb)])), (eia, .inl (cy 0, 60, .inl u.2.2)), (sib, .inr (3, [.ref lib, .ref wib, .ref gib, .int (iI lrb), .int (iI erb), .int (iI plb), .int (iI lkb), .int (iI cpb)])), (lib, .inr (2, [.ref mib, .int (iI nlb)])), (mib, .inl (cy 0, 60, .inl Flb)), (wib, .inr (2, [.ref vib, .int (iI nwb)])), (vib, .inl (cy 0, 16, .inl Fwb)), (gib, .inr (2, [.ref eib, .int (iI nfb)])), (eib, .inl (cy 0, 60, .inl Ffb))]) := by
  refine Cv_of (cc := cX3_copy) (maxL := 2) (ret := none) (by decide) rfl rfl ?_
  intro p e s m args below meth c A hx hb hr hts hown hlocks hml hP hK hD hT hA ls hl
  have hS : va_S A s.heap s.heap [] := va_S.rf
  have hl : lv_has ls 2 [(0, .ref sia), (1, .ref sib)] := hl
  have hiX3 : ∀ w ∈ wsX30, w ∈ wsX3_copy := by decide +kernel
  refine lv_aload_n hx hb dX3_copy_0 rfl (lv_at hl 0 rfl) ?_
  refine va_get (D := D) (ci := 3) (v := .ref lia) (C := RX3) (T := TX3) (N := 8) hx hb hts hiX3 hown hK hP 0 rfl rfl 0 (by decide) (hts (.fieldLink RX3 14 "BackwardSearch$State" "line" "LBackwardSearch$Row;") (by decide +kernel)) (fun _ h9 => h9) rfl dX3_copy_1 ?_
  refine lv_aload_n hx hb dX3_copy_4 rfl (lv_at hl 1 rfl) ?_
  refine va_get (D := D) (ci := 3) (v := .ref lib) (C := RX3) (T := TX3) (N := 8) hx hb hts hiX3 hown hK hP 7 rfl rfl 0 (by decide) (hts (.fieldLink RX3 14 "BackwardSearch$State" "line" "LBackwardSearch$Row;") (by decide +kernel)) (fun _ h9 => h9) rfl dX3_copy_5 ?_
  refine z_cVv (n := 1) (b := lia) (As := [.ref lib]) (rest := []) ⟨hx, hb, hml, hown, hts⟩ (c_X2_copy l D cy lia mia 60 nla Fla lib mib 60 nlb Flb (by omega)) gX3_copy_X2_copy rfl (by decide +kernel) ⟨Nat.le_of_ble_eq_true rfl, Nat.le_of_ble_eq_true rfl⟩ hK hT hP hD hS hA [1, 2, 8, 9] rfl rfl 1 2 rfl rfl rfl (fun _ => rfl) rfl hl.1 rfl (Nat.le_of_ble_eq_true rfl) dX3_copy_8 ⟨Nat.zero_le _, Nat.zero_le _⟩ (fun  u_1 H locs hw_1 hP hD hS => ?_)
  obtain ⟨g_1, rfl⟩ : ∃ z, z = u_1 := ⟨_, rfl⟩
  have hw_1 : ∀ j : Nat, (j : Int) < nlb → g_1 j = Flb j := hw_1
  have hP : va_P D vwCl [(sia, .inr (3, [.ref lia, .ref wia, .ref gia, .int (iI lra), .int (iI era), .int (iI pla), .int (iI lka), .int (iI cpa)])), (lia, .inr (2, [.ref mia, .int (iI nlb)])), (mia, .inl (cy 0, 60, .inl g_1)), (wia, .inr (2, [.ref via, .int (iI nwa)])), (via, .inl (cy 0, 16, .inl Fwa)), (gia, .inr (2, [.ref eia, .int (iI nfa)])), (eia, .inl (cy 0, 60, .inl Ffa)), (sib, .inr (3, [.ref lib, .ref wib, .ref gib, .int (iI lrb), .int (iI erb), .int (iI plb), .int (iI lkb), .int (iI cpb)])), (lib, .inr (2, [.ref mib, .int (iI nlb)])), (mib, .inl (cy 0, 60, .inl Flb)), (wib, .inr (2, [.ref vib, .int (iI nwb)])), (vib, .inl (cy 0, 16, .inl Fwb)), (gib, .inr (2, [.ref eib, .int (iI nfb)])), (eib, .inl (cy 0, 60, .inl Ffb))] H := hP
  have hD : va_D A [(sia, .inr (3, [.ref lia, .ref wia, .ref gia, .int (iI lra), .int (iI era), .int (iI pla), .int (iI lka), .int (iI cpa)])), (lia, .inr (2, [.ref mia, .int (iI nlb)])), (mia, .inl (cy 0, 60, .inl g_1)), (wia, .inr (2, [.ref via, .int (iI nwa)])), (via, .inl (cy 0, 16, .inl Fwa)), (gia, .inr (2, [.ref eia, .int (iI nfa)])), (eia, .inl (cy 0, 60, .inl Ffa)), (sib, .inr (3, [.ref lib, .ref wib, .ref gib, .int (iI lrb), .int (iI erb), .int (iI plb), .int (iI lkb), .int (iI cpb)])), (lib, .inr (2, [.ref mib, .int (iI nlb)])), (mib, .inl (cy 0, 60, .inl Flb)), (wib, .inr (2, [.ref vib, .int (iI nwb)])), (vib, .inl (cy 0, 16, .inl Fwb)), (gib, .inr (2, [.ref eib, .int (iI nfb)])), (eib, .inl (cy 0, 60, .inl Ffb))] := hD
  refine lv_aload_n hx hb dX3_copy_11 rfl (lv_at hl 0 rfl) ?_
  refine va_get (D := D) (ci := 3) (v := .ref wia) (C := RX3) (T := TX3) (N := 8) hx hb hts hiX3 hown hK hP 0 rfl rfl 1 (by decide) (hts (.fieldLink RX3 20 "BackwardSearch$State" "word" "LBackwardSearch$Row;") (by decide +kernel)) (fun _ h9 => h9) rfl dX3_copy_12 ?_
  refine lv_aload_n hx hb dX3_copy_15 rfl (lv_at hl 1 rfl) ?_
  refine va_get (D := D) (ci := 3) (v := .ref wib) (C := RX3) (T := TX3) (N := 8) hx hb hts hiX3 hown hK hP 7 rfl rfl 1 (by decide) (hts (.fieldLink RX3 20 "BackwardSearch$State" "word" "LBackwardSearch$Row;") (by decide +kernel)) (fun _ h9 => h9) rfl dX3_copy_16 ?_
  refine z_cVv (n := 1) (b := wia) (As := [.ref wib]) (rest := []) ⟨hx, hb, hml, hown, hts⟩ (c_X2_copy l D cy wia via 16 nwa Fwa wib vib 16 nwb Fwb (by omega)) gX3_copy_X2_copy rfl (by decide +kernel) ⟨Nat.le_of_ble_eq_true rfl, Nat.le_of_ble_eq_true rfl⟩ hK hT hP hD hS hA [3, 4, 10, 11] rfl rfl 3 2 rfl rfl rfl (fun _ => rfl) rfl hl.1 rfl (Nat.le_of_ble_eq_true rfl) dX3_copy_19 ⟨Nat.zero_le _, Nat.zero_le _⟩ (fun  u_2 H locs hw_2 hP hD hS => ?_)
  obtain ⟨g_2, rfl⟩ : ∃ z, z = u_2 := ⟨_, rfl⟩
  have hw_2 : ∀ j : Nat, (j : Int) < nwb → g_2 j = Fwb j := hw_2
  have hP : va_P D vwCl [(sia, .inr (3, [.ref lia, .ref wia, .ref gia, .int (iI lra), .int (iI era), .int (iI pla), .int (iI lka), .int (iI cpa)])), (lia, .inr (2, [.ref mia, .int (iI nlb)])), (mia, .inl (cy 0, 60, .inl g_1)), (wia, .inr (2, [.ref via, .int (iI nwb)])), (via, .inl (cy 0, 16, .inl g_2)), (gia, .inr (2, [.ref eia, .int (iI nfa)])), (eia, .inl (cy 0, 60, .inl Ffa)), (sib, .inr (3, [.ref lib, .ref wib, .ref gib, .int (iI lrb), .int (iI erb), .int (iI plb), .int (iI lkb), .int (iI cpb)])), (lib, .inr (2, [.ref mib, .int (iI nlb)])), (mib, .inl (cy 0, 60, .inl Flb)), (wib, .inr (2, [.ref vib, .int (iI nwb)])), (vib, .inl (cy 0, 16, .inl Fwb)), (gib, .inr (2, [.ref eib, .int (iI nfb)])), (eib, .inl (cy 0, 60, .inl Ffb))] H := hP
  have hD : va_D A [(sia, .inr (3, [.ref lia, .ref wia, .ref gia, .int (iI lra), .int (iI era), .int (iI pla), .int (iI lka), .int (iI cpa)])), (lia, .inr (2, [.ref mia, .int (iI nlb)])), (mia, .inl (cy 0, 60, .inl g_1)), (wia, .inr (2, [.ref via, .int (iI nwb)])), (via, .inl (cy 0, 16, .inl g_2)), (gia, .inr (2, [.ref eia, .int (iI nfa)])), (eia, .inl (cy 0, 60, .inl Ffa)), (sib, .inr (3, [.ref lib, .ref wib, .ref gib, .int (iI lrb), .int (iI erb), .int (iI plb), .int (iI lkb), .int (iI cpb)])), (lib, .inr (2, [.ref mib, .int (iI nlb)])), (mib, .inl (cy 0, 60, .inl Flb)), (wib, .inr (2, [.ref vib, .int (iI nwb)])), (vib, .inl (cy 0, 16, .inl Fwb)), (gib, .inr (2, [.ref eib, .int (iI nfb)])), (eib, .inl (cy 0, 60, .inl Ffb))] := hD
  refine lv_aload_n hx hb dX3_copy_22 rfl (lv_at hl 0 rfl) ?_
  refine va_get (D := D) (ci := 3) (v := .ref gia) (C := RX3) (T := TX3) (N := 8) hx hb hts hiX3 hown hK hP 0 rfl rfl 2 (by decide) (hts (.fieldLink RX3 23 "BackwardSearch$State" "found" "LBackwardSearch$Row;") (by decide +kernel)) (fun _ h9 => h9) rfl dX3_copy_23 ?_
  refine lv_aload_n hx hb dX3_copy_26 rfl (lv_at hl 1 rfl) ?_
  refine va_get (D := D) (ci := 3) (v := .ref gib) (C := RX3) (T := TX3) (N := 8) hx hb hts hiX3 hown hK hP 7 rfl rfl 2 (by decide) (hts (.fieldLink RX3 23 "BackwardSearch$State" "found" "LBackwardSearch$Row;") (by decide +kernel)) (fun _ h9 => h9) rfl dX3_copy_27 ?_
  refine z_cVv (n := 1) (b := gia) (As := [.ref gib]) (rest := []) ⟨hx, hb, hml, hown, hts⟩ (c_X2_copy l D cy gia eia 60 nfa Ffa gib eib 60 nfb Ffb (by omega)) gX3_copy_X2_copy rfl (by decide +kernel) ⟨Nat.le_of_ble_eq_true rfl, Nat.le_of_ble_eq_true rfl⟩ hK hT hP hD hS hA [5, 6, 12, 13] rfl rfl 5 2 rfl rfl rfl (fun _ => rfl) rfl hl.1 rfl (Nat.le_of_ble_eq_true rfl) dX3_copy_30 ⟨Nat.zero_le _, Nat.zero_le _⟩ (fun  u_3 H locs hw_3 hP hD hS => ?_)
  obtain ⟨g_3, rfl⟩ : ∃ z, z = u_3 := ⟨_, rfl⟩
  have hw_3 : ∀ j : Nat, (j : Int) < nfb → g_3 j = Ffb j := hw_3
  have hP : va_P D vwCl [(sia, .inr (3, [.ref lia, .ref wia, .ref gia, .int (iI lra), .int (iI era), .int (iI pla), .int (iI lka), .int (iI cpa)])), (lia, .inr (2, [.ref mia, .int (iI nlb)])), (mia, .inl (cy 0, 60, .inl g_1)), (wia, .inr (2, [.ref via, .int (iI nwb)])), (via, .inl (cy 0, 16, .inl g_2)), (gia, .inr (2, [.ref eia, .int (iI nfb)])), (eia, .inl (cy 0, 60, .inl g_3)), (sib, .inr (3, [.ref lib, .ref wib, .ref gib, .int (iI lrb), .int (iI erb), .int (iI plb), .int (iI lkb), .int (iI cpb)])), (lib, .inr (2, [.ref mib, .int (iI nlb)])), (mib, .inl (cy 0, 60, .inl Flb)), (wib, .inr (2, [.ref vib, .int (iI nwb)])), (vib, .inl (cy 0, 16, .inl Fwb)), (gib, .inr (2, [.ref eib, .int (iI nfb)])), (eib, .inl (cy 0, 60, .inl Ffb))] H := hP
  have hD : va_D A [(sia, .inr (3, [.ref lia, .ref wia, .ref gia, .int (iI lra), .int (iI era), .int (iI pla), .int (iI lka), .int (iI cpa)])), (lia, .inr (2, [.ref mia, .int (iI nlb)])), (mia, .inl (cy 0, 60, .inl g_1)), (wia, .inr (2, [.ref via, .int (iI nwb)])), (via, .inl (cy 0, 16, .inl g_2)), (gia, .inr (2, [.ref eia, .int (iI nfb)])), (eia, .inl (cy 0, 60, .inl g_3)), (sib, .inr (3, [.ref lib, .ref wib, .ref gib, .int (iI lrb), .int (iI erb), .int (iI plb), .int (iI lkb), .int (iI cpb)])), (lib, .inr (2, [.ref mib, .int (iI nlb)])), (mib, .inl (cy 0, 60, .inl Flb)), (wib, .inr (2, [.ref vib, .int (iI nwb)])), (vib, .inl (cy 0, 16, .inl Fwb)), (gib, .inr (2, [.ref eib, .int (iI nfb)])), (eib, .inl (cy 0, 60, .inl Ffb))] := hD
  refine lv_aload_n hx hb dX3_copy_33 rfl (lv_at hl 0 rfl) ?_
  refine lv_aload_n hx hb dX3_copy_34 rfl (lv_at hl 1 rfl) ?_
  refine va_get (D := D) (ci := 3) (v := .int (iI lrb)) (C := RX3) (T := TX3) (N := 8) hx hb hts hiX3 hown hK hP 7 rfl rfl 3 (by decide) (hts (.fieldLink RX3 26 "BackwardSearch$State" "letterRule" "Z") (by decide +kernel)) (fun _ h9 => h9) rfl dX3_copy_35 ?_
  refine va_put (D := D) (ci := 3) (v := .int (iI lrb)) (ty := .boolean) (C := RX3) (T := TX3) (N := 8) hx hb hts hiX3 tyX3 tyX3_ok nmX3 hown hK hP hD hS 0 rfl rfl 3 (by decide) (hts (.fieldLink RX3 26 "BackwardSearch$State" "letterRule" "Z") (by decide +kernel)) (fun _ h9 => h9) rfl (by decide +kernel) (z_nb (by omega) (by omega)) (z_fb (by omega) (by omega)) (Nat.le_of_ble_eq_true rfl) dX3_copy_38 (fun H locs hP hD hS => ?_)
  have hP : va_P D vwCl [(sia, .inr (3, [.ref lia, .ref wia, .ref gia, .int (iI lrb), .int (iI era), .int (iI pla), .int (iI lka), .int (iI cpa)])), (lia, .inr (2, [.ref mia, .int (iI nlb)])), (mia, .inl (cy 0, 60, .inl g_1)), (wia, .inr (2, [.ref via, .int (iI nwb)])), (via, .inl (cy 0, 16, .inl g_2)), (gia, .inr (2, [.ref eia, .int (iI nfb)])), (eia, .inl (cy 0, 60, .inl g_3)), (sib, .inr (3, [.ref lib, .ref wib, .ref gib, .int (iI lrb), .int (iI erb), .int (iI plb), .int (iI lkb), .int (iI cpb)])), (lib, .inr (2, [.ref mib, .int (iI nlb)])), (mib, .inl (cy 0, 60, .inl Flb)), (wib, .inr (2, [.ref vib, .int (iI nwb)])), (vib, .inl (cy 0, 16, .inl Fwb)), (gib, .inr (2, [.ref eib, .int (iI nfb)])), (eib, .inl (cy 0, 60, .inl Ffb))] H := hP
  have hD : va_D A [(sia, .inr (3, [.ref lia, .ref wia, .ref gia, .int (iI lrb), .int (iI era), .int (iI pla), .int (iI lka), .int (iI cpa)])), (lia, .inr (2, [.ref mia, .int (iI nlb)])), (mia, .inl (cy 0, 60, .inl g_1)), (wia, .inr (2, [.ref via, .int (iI nwb)])), (via, .inl (cy 0, 16, .inl g_2)), (gia, .inr (2, [.ref eia, .int (iI nfb)])), (eia, .inl (cy 0, 60, .inl g_3)), (sib, .inr (3, [.ref lib, .ref wib, .ref gib, .int (iI lrb), .int (iI erb), .int (iI plb), .int (iI lkb), .int (iI cpb)])), (lib, .inr (2, [.ref mib, .int (iI nlb)])), (mib, .inl (cy 0, 60, .inl Flb)), (wib, .inr (2, [.ref vib, .int (iI nwb)])), (vib, .inl (cy 0, 16, .inl Fwb)), (gib, .inr (2, [.ref eib, .int (iI nfb)])), (eib, .inl (cy 0, 60, .inl Ffb))] := hD
  refine lv_aload_n hx hb dX3_copy_41 rfl (lv_at hl 0 rfl) ?_
  refine lv_aload_n hx hb dX3_copy_42 rfl (lv_at hl 1 rfl) ?_
  refine va_get (D := D) (ci := 3) (v := .int (iI erb)) (C := RX3) (T := TX3) (N := 8) hx hb hts hiX3 hown hK hP 7 rfl rfl 4 (by decide) (hts (.fieldLink RX3 30 "BackwardSearch$State" "endRule" "Z") (by decide +kernel)) (fun _ h9 => h9) rfl dX3_copy_43 ?_
  refine va_put (D := D) (ci := 3) (v := .int (iI erb)) (ty := .boolean) (C := RX3) (T := TX3) (N := 8) hx hb hts hiX3 tyX3 tyX3_ok nmX3 hown hK hP hD hS 0 rfl rfl 4 (by decide) (hts (.fieldLink RX3 30 "BackwardSearch$State" "endRule" "Z") (by decide +kernel)) (fun _ h9 => h9) rfl (by decide +kernel) (z_nb (by omega) (by omega)) (z_fb (by omega) (by omega)) (Nat.le_of_ble_eq_true rfl) dX3_copy_46 (fun H locs hP hD hS => ?_)
  have hP : va_P D vwCl [(sia, .inr (3, [.ref lia, .ref wia, .ref gia, .int (iI lrb), .int (iI erb), .int (iI pla), .int (iI lka), .int (iI cpa)])), (lia, .inr (2, [.ref mia, .int (iI nlb)])), (mia, .inl (cy 0, 60, .inl g_1)), (wia, .inr (2, [.ref via, .int (iI nwb)])), (via, .inl (cy 0, 16, .inl g_2)), (gia, .inr (2, [.ref eia, .int (iI nfb)])), (eia, .inl (cy 0, 60, .inl g_3)), (sib, .inr (3, [.ref lib, .ref wib, .ref gib, .int (iI lrb), .int (iI erb), .int (iI plb), .int (iI lkb), .int (iI cpb)])), (lib, .inr (2, [.ref mib, .int (iI nlb)])), (mib, .inl (cy 0, 60, .inl Flb)), (wib, .inr (2, [.ref vib, .int (iI nwb)])), (vib, .inl (cy 0, 16, .inl Fwb)), (gib, .inr (2, [.ref eib, .int (iI nfb)])), (eib, .inl (cy 0, 60, .inl Ffb))] H := hP
  have hD : va_D A [(sia, .inr (3, [.ref lia, .ref wia, .ref gia, .int (iI lrb), .int (iI erb), .int (iI pla), .int (iI lka), .int (iI cpa)])), (lia, .inr (2, [.ref mia, .int (iI nlb)])), (mia, .inl (cy 0, 60, .inl g_1)), (wia, .inr (2, [.ref via, .int (iI nwb)])), (via, .inl (cy 0, 16, .inl g_2)), (gia, .inr (2, [.ref eia, .int (iI nfb)])), (eia, .inl (cy 0, 60, .inl g_3)), (sib, .inr (3, [.ref lib, .ref wib, .ref gib, .int (iI lrb), .int (iI erb), .int (iI plb), .int (iI lkb), .int (iI cpb)])), (lib, .inr (2, [.ref mib, .int (iI nlb)])), (mib, .inl (cy 0, 60, .inl Flb)), (wib, .inr (2, [.ref vib, .int (iI nwb)])), (vib, .inl (cy 0, 16, .inl Fwb)), (gib, .inr (2, [.ref eib, .int (iI nfb)])), (eib, .inl (cy 0, 60, .inl Ffb))] := hD
  refine lv_aload_n hx hb dX3_copy_49 rfl (lv_at hl 0 rfl) ?_
  refine lv_aload_n hx hb dX3_copy_50 rfl (lv_at hl 1 rfl) ?_
  refine va_get (D := D) (ci := 3) (v := .int (iI plb)) (C := RX3) (T := TX3) (N := 8) hx hb hts hiX3 hown hK hP 7 rfl rfl 5 (by decide) (hts (.fieldLink RX3 37 "BackwardSearch$State" "place" "I") (by decide +kernel)) (fun _ h9 => h9) rfl dX3_copy_51 ?_
  refine va_put (D := D) (ci := 3) (v := .int (iI plb)) (ty := .int) (C := RX3) (T := TX3) (N := 8) hx hb hts hiX3 tyX3 tyX3_ok nmX3 hown hK hP hD hS 0 rfl rfl 5 (by decide) (hts (.fieldLink RX3 37 "BackwardSearch$State" "place" "I") (by decide +kernel)) (fun _ h9 => h9) rfl (by decide +kernel) rfl rfl (Nat.le_of_ble_eq_true rfl) dX3_copy_54 (fun H locs hP hD hS => ?_)
  have hP : va_P D vwCl [(sia, .inr (3, [.ref lia, .ref wia, .ref gia, .int (iI lrb), .int (iI erb), .int (iI plb), .int (iI lka), .int (iI cpa)])), (lia, .inr (2, [.ref mia, .int (iI nlb)])), (mia, .inl (cy 0, 60, .inl g_1)), (wia, .inr (2, [.ref via, .int (iI nwb)])), (via, .inl (cy 0, 16, .inl g_2)), (gia, .inr (2, [.ref eia, .int (iI nfb)])), (eia, .inl (cy 0, 60, .inl g_3)), (sib, .inr (3, [.ref lib, .ref wib, .ref gib, .int (iI lrb), .int (iI erb), .int (iI plb), .int (iI lkb), .int (iI cpb)])), (lib, .inr (2, [.ref mib, .int (iI nlb)])), (mib, .inl (cy 0, 60, .inl Flb)), (wib, .inr (2, [.ref vib, .int (iI nwb)])), (vib, .inl (cy 0, 16, .inl Fwb)), (gib, .inr (2, [.ref eib, .int (iI nfb)])), (eib, .inl (cy 0, 60, .inl Ffb))] H := hP
  have hD : va_D A [(sia, .inr (3, [.ref lia, .ref wia, .ref gia, .int (iI lrb), .int (iI erb), .int (iI plb), .int (iI lka), .int (iI cpa)])), (lia, .inr (2, [.ref mia, .int (iI nlb)])), (mia, .inl (cy 0, 60, .inl g_1)), (wia, .inr (2, [.ref via, .int (iI nwb)])), (via, .inl (cy 0, 16, .inl g_2)), (gia, .inr (2, [.ref eia, .int (iI nfb)])), (eia, .inl (cy 0, 60, .inl g_3)), (sib, .inr (3, [.ref lib, .ref wib, .ref gib, .int (iI lrb), .int (iI erb), .int (iI plb), .int (iI lkb), .int (iI cpb)])), (lib, .inr (2, [.ref mib, .int (iI nlb)])), (mib, .inl (cy 0, 60, .inl Flb)), (wib, .inr (2, [.ref vib, .int (iI nwb)])), (vib, .inl (cy 0, 16, .inl Fwb)), (gib, .inr (2, [.ref eib, .int (iI nfb)])), (eib, .inl (cy 0, 60, .inl Ffb))] := hD
  refine lv_aload_n hx hb dX3_copy_57 rfl (lv_at hl 0 rfl) ?_
  refine lv_aload_n hx hb dX3_copy_58 rfl (lv_at hl 1 rfl) ?_
  refine va_get (D := D) (ci := 3) (v := .int (iI lkb)) (C := RX3) (T := TX3) (N := 8) hx hb hts hiX3 hown hK hP 7 rfl rfl 6 (by decide) (hts (.fieldLink RX3 41 "BackwardSearch$State" "looks" "I") (by decide +kernel)) (fun _ h9 => h9) rfl dX3_copy_59 ?_
  refine va_put (D := D) (ci := 3) (v := .int (iI lkb)) (ty := .int) (C := RX3) (T := TX3) (N := 8) hx hb hts hiX3 tyX3 tyX3_ok nmX3 hown hK hP hD hS 0 rfl rfl 6 (by decide) (hts (.fieldLink RX3 41 "BackwardSearch$State" "looks" "I") (by decide +kernel)) (fun _ h9 => h9) rfl (by decide +kernel) rfl rfl (Nat.le_of_ble_eq_true rfl) dX3_copy_62 (fun H locs hP hD hS => ?_)
  have hP : va_P D vwCl [(sia, .inr (3, [.ref lia, .ref wia, .ref gia, .int (iI lrb), .int (iI erb), .int (iI plb), .int (iI lkb), .int (iI cpa)])), (lia, .inr (2, [.ref mia, .int (iI nlb)])), (mia, .inl (cy 0, 60, .inl g_1)), (wia, .inr (2, [.ref via, .int (iI nwb)])), (via, .inl (cy 0, 16, .inl g_2)), (gia, .inr (2, [.ref eia, .int (iI nfb)])), (eia, .inl (cy 0, 60, .inl g_3)), (sib, .inr (3, [.ref lib, .ref wib, .ref gib, .int (iI lrb), .int (iI erb), .int (iI plb), .int (iI lkb), .int (iI cpb)])), (lib, .inr (2, [.ref mib, .int (iI nlb)])), (mib, .inl (cy 0, 60, .inl Flb)), (wib, .inr (2, [.ref vib, .int (iI nwb)])), (vib, .inl (cy 0, 16, .inl Fwb)), (gib, .inr (2, [.ref eib, .int (iI nfb)])), (eib, .inl (cy 0, 60, .inl Ffb))] H := hP
  have hD : va_D A [(sia, .inr (3, [.ref lia, .ref wia, .ref gia, .int (iI lrb), .int (iI erb), .int (iI plb), .int (iI lkb), .int (iI cpa)])), (lia, .inr (2, [.ref mia, .int (iI nlb)])), (mia, .inl (cy 0, 60, .inl g_1)), (wia, .inr (2, [.ref via, .int (iI nwb)])), (via, .inl (cy 0, 16, .inl g_2)), (gia, .inr (2, [.ref eia, .int (iI nfb)])), (eia, .inl (cy 0, 60, .inl g_3)), (sib, .inr (3, [.ref lib, .ref wib, .ref gib, .int (iI lrb), .int (iI erb), .int (iI plb), .int (iI lkb), .int (iI cpb)])), (lib, .inr (2, [.ref mib, .int (iI nlb)])), (mib, .inl (cy 0, 60, .inl Flb)), (wib, .inr (2, [.ref vib, .int (iI nwb)])), (vib, .inl (cy 0, 16, .inl Fwb)), (gib, .inr (2, [.ref eib, .int (iI nfb)])), (eib, .inl (cy 0, 60, .inl Ffb))] := hD
  refine lv_aload_n hx hb dX3_copy_65 rfl (lv_at hl 0 rfl) ?_
  refine lv_aload_n hx hb dX3_copy_66 rfl (lv_at hl 1 rfl) ?_
  refine va_get (D := D) (ci := 3) (v := .int (iI cpb)) (C := RX3) (T := TX3) (N := 8) hx hb hts hiX3 hown hK hP 7 rfl rfl 7 (by decide) (hts (.fieldLink RX3 44 "BackwardSearch$State" "compared" "I") (by decide +kernel)) (fun _ h9 => h9) rfl dX3_copy_67 ?_
  refine va_put (D := D) (ci := 3) (v := .int (iI cpb)) (ty := .int) (C := RX3) (T := TX3) (N := 8) hx hb hts hiX3 tyX3 tyX3_ok nmX3 hown hK hP hD hS 0 rfl rfl 7 (by decide) (hts (.fieldLink RX3 44 "BackwardSearch$State" "compared" "I") (by decide +kernel)) (fun _ h9 => h9) rfl (by decide +kernel) rfl rfl (Nat.le_of_ble_eq_true rfl) dX3_copy_70 (fun H locs hP hD hS => ?_)
  have hP : va_P D vwCl [(sia, .inr (3, [.ref lia, .ref wia, .ref gia, .int (iI lrb), .int (iI erb), .int (iI plb), .int (iI lkb), .int (iI cpb)])), (lia, .inr (2, [.ref mia, .int (iI nlb)])), (mia, .inl (cy 0, 60, .inl g_1)), (wia, .inr (2, [.ref via, .int (iI nwb)])), (via, .inl (cy 0, 16, .inl g_2)), (gia, .inr (2, [.ref eia, .int (iI nfb)])), (eia, .inl (cy 0, 60, .inl g_3)), (sib, .inr (3, [.ref lib, .ref wib, .ref gib, .int (iI lrb), .int (iI erb), .int (iI plb), .int (iI lkb), .int (iI cpb)])), (lib, .inr (2, [.ref mib, .int (iI nlb)])), (mib, .inl (cy 0, 60, .inl Flb)), (wib, .inr (2, [.ref vib, .int (iI nwb)])), (vib, .inl (cy 0, 16, .inl Fwb)), (gib, .inr (2, [.ref eib, .int (iI nfb)])), (eib, .inl (cy 0, 60, .inl Ffb))] H := hP
  have hD : va_D A [(sia, .inr (3, [.ref lia, .ref wia, .ref gia, .int (iI lrb), .int (iI erb), .int (iI plb), .int (iI lkb), .int (iI cpb)])), (lia, .inr (2, [.ref mia, .int (iI nlb)])), (mia, .inl (cy 0, 60, .inl g_1)), (wia, .inr (2, [.ref via, .int (iI nwb)])), (via, .inl (cy 0, 16, .inl g_2)), (gia, .inr (2, [.ref eia, .int (iI nfb)])), (eia, .inl (cy 0, 60, .inl g_3)), (sib, .inr (3, [.ref lib, .ref wib, .ref gib, .int (iI lrb), .int (iI erb), .int (iI plb), .int (iI lkb), .int (iI cpb)])), (lib, .inr (2, [.ref mib, .int (iI nlb)])), (mib, .inl (cy 0, 60, .inl Flb)), (wib, .inr (2, [.ref vib, .int (iI nwb)])), (vib, .inl (cy 0, 16, .inl Fwb)), (gib, .inr (2, [.ref eib, .int (iI nfb)])), (eib, .inl (cy 0, 60, .inl Ffb))] := hD
  exact z_vret hx hb hr hlocks hS (g_1, g_2, g_3) (show (∀ j : Nat, (j : Int) < nlb → g_1 j = Flb j) ∧ (∀ j : Nat, (j : Int) < nwb → g_2 j = Fwb j) ∧ ∀ j : Nat, (j : Int) < nfb → g_3 j = Ffb j from ⟨hw_1, hw_2, hw_3⟩) hP dX3_copy_73
set_option maxHeartbeats 4000000 in
set_option maxRecDepth 100000 in
theorem c_X3_beginAnew (l : Launch) (D : va_G) (cy : Nat → ClassId) (si : Nat) (li : Nat) (wi : Nat) (gi : Nat) (ei : Nat) (nf : Int) (lr : Int) (er : Int) (pl : Int) (lk : Int) (cp : Int) : Cv l D cy yX3_beginAnew wsX3_beginAnew 1 20 [.ref si] [(si, .inr (3, [.ref li, .ref wi, .ref gi, .int (iI lr), .int (iI er), .int (iI pl), .int (iI lk), .int (iI cp)])), (gi, .inr (2, [.ref ei, .int (iI nf)]))] (fun (u : Unit) => True) (fun u : Unit => [(si, .inr (3, [.ref li, .ref wi, .ref gi, .int (iI lr), .int (iI er), .int (iI 0), .int (iI 0), .int (iI 0)])), (gi, .inr (2, [.ref ei, .int (iI 0)]))]) := by
  refine Cv_of (cc := cX3_beginAnew) (maxL := 1) (ret := none) (by decide) rfl rfl ?_
  intro p e s m args below meth c A hx hb hr hts hown hlocks hml hP hK hD hT hA ls hl
  have hS : va_S A s.heap s.heap [] := va_S.rf
  have hl : lv_has ls 1 [(0, .ref si)] := hl
  have hiX3 : ∀ w ∈ wsX30, w ∈ wsX3_beginAnew := by decide +kernel
  refine lv_aload_n hx hb dX3_beginAnew_0 rfl (lv_at hl 0 rfl) ?_
  refine lv_iconst (v := iI 0) hx hb dX3_beginAnew_1 rfl ?_
  refine va_put (D := D) (ci := 3) (v := .int (iI 0)) (ty := .int) (C := RX3) (T := TX3) (N := 8) hx hb hts hiX3 tyX3 tyX3_ok nmX3 hown hK hP hD hS 0 rfl rfl 5 (by decide) (hts (.fieldLink RX3 37 "BackwardSearch$State" "place" "I") (by decide +kernel)) (fun _ h9 => h9) rfl (by decide +kernel) rfl rfl (Nat.le_of_ble_eq_true rfl) dX3_beginAnew_2 (fun H locs hP hD hS => ?_)
  have hP : va_P D vwCl [(si, .inr (3, [.ref li, .ref wi, .ref gi, .int (iI lr), .int (iI er), .int (iI 0), .int (iI lk), .int (iI cp)])), (gi, .inr (2, [.ref ei, .int (iI nf)]))] H := hP
  have hD : va_D A [(si, .inr (3, [.ref li, .ref wi, .ref gi, .int (iI lr), .int (iI er), .int (iI 0), .int (iI lk), .int (iI cp)])), (gi, .inr (2, [.ref ei, .int (iI nf)]))] := hD
  refine lv_aload_n hx hb dX3_beginAnew_5 rfl (lv_at hl 0 rfl) ?_
  refine lv_iconst (v := iI 0) hx hb dX3_beginAnew_6 rfl ?_
  refine va_put (D := D) (ci := 3) (v := .int (iI 0)) (ty := .int) (C := RX3) (T := TX3) (N := 8) hx hb hts hiX3 tyX3 tyX3_ok nmX3 hown hK hP hD hS 0 rfl rfl 6 (by decide) (hts (.fieldLink RX3 41 "BackwardSearch$State" "looks" "I") (by decide +kernel)) (fun _ h9 => h9) rfl (by decide +kernel) rfl rfl (Nat.le_of_ble_eq_true rfl) dX3_beginAnew_7 (fun H locs hP hD hS => ?_)
  have hP : va_P D vwCl [(si, .inr (3, [.ref li, .ref wi, .ref gi, .int (iI lr), .int (iI er), .int (iI 0), .int (iI 0), .int (iI cp)])), (gi, .inr (2, [.ref ei, .int (iI nf)]))] H := hP
  have hD : va_D A [(si, .inr (3, [.ref li, .ref wi, .ref gi, .int (iI lr), .int (iI er), .int (iI 0), .int (iI 0), .int (iI cp)])), (gi, .inr (2, [.ref ei, .int (iI nf)]))] := hD
  refine lv_aload_n hx hb dX3_beginAnew_10 rfl (lv_at hl 0 rfl) ?_
  refine lv_iconst (v := iI 0) hx hb dX3_beginAnew_11 rfl ?_
  refine va_put (D := D) (ci := 3) (v := .int (iI 0)) (ty := .int) (C := RX3) (T := TX3) (N := 8) hx hb hts hiX3 tyX3 tyX3_ok nmX3 hown hK hP hD hS 0 rfl rfl 7 (by decide) (hts (.fieldLink RX3 44 "BackwardSearch$State" "compared" "I") (by decide +kernel)) (fun _ h9 => h9) rfl (by decide +kernel) rfl rfl (Nat.le_of_ble_eq_true rfl) dX3_beginAnew_12 (fun H locs hP hD hS => ?_)
  have hP : va_P D vwCl [(si, .inr (3, [.ref li, .ref wi, .ref gi, .int (iI lr), .int (iI er), .int (iI 0), .int (iI 0), .int (iI 0)])), (gi, .inr (2, [.ref ei, .int (iI nf)]))] H := hP
  have hD : va_D A [(si, .inr (3, [.ref li, .ref wi, .ref gi, .int (iI lr), .int (iI er), .int (iI 0), .int (iI 0), .int (iI 0)])), (gi, .inr (2, [.ref ei, .int (iI nf)]))] := hD
  refine lv_aload_n hx hb dX3_beginAnew_15 rfl (lv_at hl 0 rfl) ?_
  refine va_get (D := D) (ci := 3) (v := .ref gi) (C := RX3) (T := TX3) (N := 8) hx hb hts hiX3 hown hK hP 0 rfl rfl 2 (by decide) (hts (.fieldLink RX3 23 "BackwardSearch$State" "found" "LBackwardSearch$Row;") (by decide +kernel)) (fun _ h9 => h9) rfl dX3_beginAnew_16 ?_
  refine z_cVv (n := 0) (b := gi) (As := []) (rest := []) ⟨hx, hb, hml, hown, hts⟩ (c_X2_clear l D cy gi ei nf ) gX3_beginAnew_X2_clear rfl (by decide +kernel) ⟨Nat.le_of_ble_eq_true rfl, Nat.le_of_ble_eq_true rfl⟩ hK hT hP hD hS hA [1] rfl rfl 1 2 rfl rfl rfl (fun _ => rfl) rfl hl.1 rfl (Nat.le_of_ble_eq_true rfl) dX3_beginAnew_19 ⟨Nat.zero_le _, Nat.zero_le _⟩ (fun  u_1 H locs hw_1 hP hD hS => ?_)
  have hw_1 : True := hw_1
  have hP : va_P D vwCl [(si, .inr (3, [.ref li, .ref wi, .ref gi, .int (iI lr), .int (iI er), .int (iI 0), .int (iI 0), .int (iI 0)])), (gi, .inr (2, [.ref ei, .int (iI 0)]))] H := hP
  have hD : va_D A [(si, .inr (3, [.ref li, .ref wi, .ref gi, .int (iI lr), .int (iI er), .int (iI 0), .int (iI 0), .int (iI 0)])), (gi, .inr (2, [.ref ei, .int (iI 0)]))] := hD
  exact z_vret hx hb hr hlocks hS () (show True from trivial) hP dX3_beginAnew_22
set_option maxHeartbeats 4000000 in
set_option maxRecDepth 100000 in
theorem c_X3_useRules (l : Launch) (D : va_G) (cy : Nat → ClassId) (si : Nat) (li : Nat) (wi : Nat) (gi : Nat) (lr : Int) (er : Int) (pl : Int) (lk : Int) (cp : Int) (x : Int) (y : Int) (hx1 : 0 ≤ x ∧ x ≤ 1) (hy1 : 0 ≤ y ∧ y ≤ 1) : Cv l D cy yX3_useRules wsX3_useRules 0 0 [.ref si, .int (iI x), .int (iI y)] [(si, .inr (3, [.ref li, .ref wi, .ref gi, .int (iI lr), .int (iI er), .int (iI pl), .int (iI lk), .int (iI cp)]))] (fun (u : Unit) => True) (fun u : Unit => [(si, .inr (3, [.ref li, .ref wi, .ref gi, .int (iI x), .int (iI y), .int (iI pl), .int (iI lk), .int (iI cp)]))]) := by
  refine Cv_of (cc := cX3_useRules) (maxL := 3) (ret := none) (by decide) rfl rfl ?_
  intro p e s m args below meth c A hx hb hr hts hown hlocks hml hP hK hD hT hA ls hl
  have hS : va_S A s.heap s.heap [] := va_S.rf
  have hl : lv_has ls 3 [(0, .ref si), (1, .int (iI x)), (2, .int (iI y))] := hl
  have hiX3 : ∀ w ∈ wsX30, w ∈ wsX3_useRules := by decide +kernel
  refine lv_aload_n hx hb dX3_useRules_0 rfl (lv_at hl 0 rfl) ?_
  refine lv_iload_n hx hb dX3_useRules_1 rfl (lv_at hl 1 rfl) ?_
  refine va_put (D := D) (ci := 3) (v := .int (iI x)) (ty := .boolean) (C := RX3) (T := TX3) (N := 8) hx hb hts hiX3 tyX3 tyX3_ok nmX3 hown hK hP hD hS 0 rfl rfl 3 (by decide) (hts (.fieldLink RX3 26 "BackwardSearch$State" "letterRule" "Z") (by decide +kernel)) (fun _ h9 => h9) rfl (by decide +kernel) (z_nb (by omega) (by omega)) (z_fb (by omega) (by omega)) (Nat.le_of_ble_eq_true rfl) dX3_useRules_2 (fun H locs hP hD hS => ?_)
  have hP : va_P D vwCl [(si, .inr (3, [.ref li, .ref wi, .ref gi, .int (iI x), .int (iI er), .int (iI pl), .int (iI lk), .int (iI cp)]))] H := hP
  have hD : va_D A [(si, .inr (3, [.ref li, .ref wi, .ref gi, .int (iI x), .int (iI er), .int (iI pl), .int (iI lk), .int (iI cp)]))] := hD
  refine lv_aload_n hx hb dX3_useRules_5 rfl (lv_at hl 0 rfl) ?_
  refine lv_iload_n hx hb dX3_useRules_6 rfl (lv_at hl 2 rfl) ?_
  refine va_put (D := D) (ci := 3) (v := .int (iI y)) (ty := .boolean) (C := RX3) (T := TX3) (N := 8) hx hb hts hiX3 tyX3 tyX3_ok nmX3 hown hK hP hD hS 0 rfl rfl 4 (by decide) (hts (.fieldLink RX3 30 "BackwardSearch$State" "endRule" "Z") (by decide +kernel)) (fun _ h9 => h9) rfl (by decide +kernel) (z_nb (by omega) (by omega)) (z_fb (by omega) (by omega)) (Nat.le_of_ble_eq_true rfl) dX3_useRules_7 (fun H locs hP hD hS => ?_)
  have hP : va_P D vwCl [(si, .inr (3, [.ref li, .ref wi, .ref gi, .int (iI x), .int (iI y), .int (iI pl), .int (iI lk), .int (iI cp)]))] H := hP
  have hD : va_D A [(si, .inr (3, [.ref li, .ref wi, .ref gi, .int (iI x), .int (iI y), .int (iI pl), .int (iI lk), .int (iI cp)]))] := hD
  exact z_vret hx hb hr hlocks hS () (show True from trivial) hP dX3_useRules_10
set_option maxHeartbeats 4000000 in
set_option maxRecDepth 100000 in
theorem c_X3_rulesOn (l : Launch) (D : va_G) (cy : Nat → ClassId) (si : Nat) (li : Nat) (wi : Nat) (gi : Nat) (lr : Int) (er : Int) (pl : Int) (lk : Int) (cp : Int) (hb : 0 ≤ lr ∧ lr ≤ 1 ∧ 0 ≤ er ∧ er ≤ 1) : Ci l D cy yX3_rulesOn wsX3_rulesOn 0 0 [.ref si] [(si, .inr (3, [.ref li, .ref wi, .ref gi, .int (iI lr), .int (iI er), .int (iI pl), .int (iI lk), .int (iI cp)]))] (fun (r : Int32) (u : Unit) => r = iI (lr + er)) (fun u : Unit => [(si, .inr (3, [.ref li, .ref wi, .ref gi, .int (iI lr), .int (iI er), .int (iI pl), .int (iI lk), .int (iI cp)]))]) := by
  refine Ci_of (cc := cX3_rulesOn) (maxL := 1) (ret := (some .int)) (by decide) rfl rfl ?_
  intro p e s m args below meth c A hx hb hr hts hown hlocks hml hP hK hD hT hA ls hl
  have hS : va_S A s.heap s.heap [] := va_S.rf
  have hl : lv_has ls 1 [(0, .ref si)] := hl
  have hiX3 : ∀ w ∈ wsX30, w ∈ wsX3_rulesOn := by decide +kernel
  refine lv_aload_n hx hb dX3_rulesOn_0 rfl (lv_at hl 0 rfl) ?_
  refine va_get (D := D) (ci := 3) (v := .int (iI lr)) (C := RX3) (T := TX3) (N := 8) hx hb hts hiX3 hown hK hP 0 rfl rfl 3 (by decide) (hts (.fieldLink RX3 26 "BackwardSearch$State" "letterRule" "Z") (by decide +kernel)) (fun _ h9 => h9) rfl dX3_rulesOn_1 ?_
  refine z_if_eq (tgt := 11) hx hb (iI_t (by omega) (by omega)) dX3_rulesOn_4 (by decide) (fun c1 => ?_) (fun c1 => ?_)
  · --
    refine lv_iconst (v := iI 0) hx hb dX3_rulesOn_11 rfl ?_
    refine lv_aload_n hx hb dX3_rulesOn_12 rfl (lv_at hl 0 rfl) ?_
    refine va_get (D := D) (ci := 3) (v := .int (iI er)) (C := RX3) (T := TX3) (N := 8) hx hb hts hiX3 hown hK hP 0 rfl rfl 4 (by decide) (hts (.fieldLink RX3 30 "BackwardSearch$State" "endRule" "Z") (by decide +kernel)) (fun _ h9 => h9) rfl dX3_rulesOn_13 ?_
    refine z_if_eq (tgt := 23) hx hb (iI_t (by omega) (by omega)) dX3_rulesOn_16 (by decide) (fun c2 => ?_) (fun c2 => ?_)
    · --
      refine lv_iconst (v := iI 0) hx hb dX3_rulesOn_23 rfl ?_
      refine z_add hx hb dX3_rulesOn_24 ?_
      exact z_iret hx hb hr hlocks hS () (show (iI (0 + 0)) = iI (lr + er) from (congrArg iI (by omega))) hP dX3_rulesOn_25
    · --
      refine lv_iconst (v := iI 1) hx hb dX3_rulesOn_19 rfl ?_
      refine lv_goto (tgt := 24) hx hb dX3_rulesOn_20 (by decide) ?_
      refine z_add hx hb dX3_rulesOn_24 ?_
      exact z_iret hx hb hr hlocks hS () (show (iI (0 + 1)) = iI (lr + er) from (congrArg iI (by omega))) hP dX3_rulesOn_25
  · --
    refine lv_iconst (v := iI 1) hx hb dX3_rulesOn_7 rfl ?_
    refine lv_goto (tgt := 12) hx hb dX3_rulesOn_8 (by decide) ?_
    refine lv_aload_n hx hb dX3_rulesOn_12 rfl (lv_at hl 0 rfl) ?_
    refine va_get (D := D) (ci := 3) (v := .int (iI er)) (C := RX3) (T := TX3) (N := 8) hx hb hts hiX3 hown hK hP 0 rfl rfl 4 (by decide) (hts (.fieldLink RX3 30 "BackwardSearch$State" "endRule" "Z") (by decide +kernel)) (fun _ h9 => h9) rfl dX3_rulesOn_13 ?_
    refine z_if_eq (tgt := 23) hx hb (iI_t (by omega) (by omega)) dX3_rulesOn_16 (by decide) (fun c3 => ?_) (fun c3 => ?_)
    · --
      refine lv_iconst (v := iI 0) hx hb dX3_rulesOn_23 rfl ?_
      refine z_add hx hb dX3_rulesOn_24 ?_
      exact z_iret hx hb hr hlocks hS () (show (iI (1 + 0)) = iI (lr + er) from (congrArg iI (by omega))) hP dX3_rulesOn_25
    · --
      refine lv_iconst (v := iI 1) hx hb dX3_rulesOn_19 rfl ?_
      refine lv_goto (tgt := 24) hx hb dX3_rulesOn_20 (by decide) ?_
      refine z_add hx hb dX3_rulesOn_24 ?_
      exact z_iret hx hb hr hlocks hS () (show (iI (1 + 1)) = iI (lr + er) from (congrArg iI (by omega))) hP dX3_rulesOn_25
set_option maxHeartbeats 4000000 in
set_option maxRecDepth 100000 in
theorem c_X3_beginnings (l : Launch) (D : va_G) (cy : Nat → ClassId) (si : Nat) (li : Nat) (mi : Nat) (wi : Nat) (vi : Nat) (gi : Nat) (nl : Int) (nw : Int) (lr : Int) (er : Int) (pl : Int) (lk : Int) (cp : Int) (hb : 0 ≤ nl ∧ nl ≤ 60 ∧ 0 ≤ nw ∧ nw ≤ 16) : Ci l D cy yX3_beginnings wsX3_beginnings 1 21 [.ref si] [(si, .inr (3, [.ref li, .ref wi, .ref gi, .int (iI lr), .int (iI er), .int (iI pl), .int (iI lk), .int (iI cp)])), (li, .inr (2, [.ref mi, .int (iI nl)])), (wi, .inr (2, [.ref vi, .int (iI nw)]))] (fun (r : Int32) (u : Unit) => r = iI (max (nl - nw + 1) 0)) (fun u : Unit => [(si, .inr (3, [.ref li, .ref wi, .ref gi, .int (iI lr), .int (iI er), .int (iI pl), .int (iI lk), .int (iI cp)])), (li, .inr (2, [.ref mi, .int (iI nl)])), (wi, .inr (2, [.ref vi, .int (iI nw)]))]) := by
  refine Ci_of (cc := cX3_beginnings) (maxL := 1) (ret := (some .int)) (by decide) rfl rfl ?_
  intro p e s m args below meth c A hx hb hr hts hown hlocks hml hP hK hD hT hA ls hl
  have hS : va_S A s.heap s.heap [] := va_S.rf
  have hl : lv_has ls 1 [(0, .ref si)] := hl
  have hiX3 : ∀ w ∈ wsX30, w ∈ wsX3_beginnings := by decide +kernel
  refine lv_aload_n hx hb dX3_beginnings_0 rfl (lv_at hl 0 rfl) ?_
  refine va_get (D := D) (ci := 3) (v := .ref li) (C := RX3) (T := TX3) (N := 8) hx hb hts hiX3 hown hK hP 0 rfl rfl 0 (by decide) (hts (.fieldLink RX3 14 "BackwardSearch$State" "line" "LBackwardSearch$Row;") (by decide +kernel)) (fun _ h9 => h9) rfl dX3_beginnings_1 ?_
  refine z_cVi (n := 0) (b := li) (As := []) (rest := []) ⟨hx, hb, hml, hown, hts⟩ (c_X2_size l D cy li mi nl ) gX3_beginnings_X2_size rfl (by decide +kernel) ⟨Nat.le_of_ble_eq_true rfl, Nat.le_of_ble_eq_true rfl⟩ hK hT hP hD hS hA [1] rfl rfl 1 2 rfl rfl rfl (fun _ => rfl) rfl hl.1 rfl (Nat.le_of_ble_eq_true rfl) dX3_beginnings_4 ⟨Nat.zero_le _, Nat.zero_le _⟩ (fun r_1 u_1 H locs hw_1 hP hD hS => ?_)
  have hw_1 : r_1 = iI nl := hw_1
  have hP : va_P D vwCl [(si, .inr (3, [.ref li, .ref wi, .ref gi, .int (iI lr), .int (iI er), .int (iI pl), .int (iI lk), .int (iI cp)])), (li, .inr (2, [.ref mi, .int (iI nl)])), (wi, .inr (2, [.ref vi, .int (iI nw)]))] H := hP
  have hD : va_D A [(si, .inr (3, [.ref li, .ref wi, .ref gi, .int (iI lr), .int (iI er), .int (iI pl), .int (iI lk), .int (iI cp)])), (li, .inr (2, [.ref mi, .int (iI nl)])), (wi, .inr (2, [.ref vi, .int (iI nw)]))] := hD
  obtain rfl := hw_1
  refine lv_aload_n hx hb dX3_beginnings_7 rfl (lv_at hl 0 rfl) ?_
  refine va_get (D := D) (ci := 3) (v := .ref wi) (C := RX3) (T := TX3) (N := 8) hx hb hts hiX3 hown hK hP 0 rfl rfl 1 (by decide) (hts (.fieldLink RX3 20 "BackwardSearch$State" "word" "LBackwardSearch$Row;") (by decide +kernel)) (fun _ h9 => h9) rfl dX3_beginnings_8 ?_
  refine z_cVi (n := 0) (b := wi) (As := []) (rest := [.int (iI nl)]) ⟨hx, hb, hml, hown, hts⟩ (c_X2_size l D cy wi vi nw ) gX3_beginnings_X2_size rfl (by decide +kernel) ⟨Nat.le_of_ble_eq_true rfl, Nat.le_of_ble_eq_true rfl⟩ hK hT hP hD hS hA [2] rfl rfl 2 2 rfl rfl rfl (fun _ => rfl) rfl hl.1 rfl (Nat.le_of_ble_eq_true rfl) dX3_beginnings_11 ⟨Nat.zero_le _, Nat.zero_le _⟩ (fun r_2 u_2 H locs hw_2 hP hD hS => ?_)
  have hw_2 : r_2 = iI nw := hw_2
  have hP : va_P D vwCl [(si, .inr (3, [.ref li, .ref wi, .ref gi, .int (iI lr), .int (iI er), .int (iI pl), .int (iI lk), .int (iI cp)])), (li, .inr (2, [.ref mi, .int (iI nl)])), (wi, .inr (2, [.ref vi, .int (iI nw)]))] H := hP
  have hD : va_D A [(si, .inr (3, [.ref li, .ref wi, .ref gi, .int (iI lr), .int (iI er), .int (iI pl), .int (iI lk), .int (iI cp)])), (li, .inr (2, [.ref mi, .int (iI nl)])), (wi, .inr (2, [.ref vi, .int (iI nw)]))] := hD
  obtain rfl := hw_2
  refine z_sub hx hb dX3_beginnings_14 ?_
  refine lv_iconst (v := iI 1) hx hb dX3_beginnings_15 rfl ?_
  refine z_add hx hb dX3_beginnings_16 ?_
  refine lv_iconst (v := iI 0) hx hb dX3_beginnings_17 rfl ?_
  refine z_mmax (hml := hml.trans hl.1.symm) hx hb hown (hts (.methodLink RX3 54 Lib.Math.max.name) (by decide +kernel)) (hts (.static Lib.Math.max.name) (by decide +kernel)) (hts (.initialized "java/lang/Math") (by decide +kernel)) (hts (.code Lib.Math.max.name Lib.Math.max.code 2 (some .int)) (by decide +kernel)) (Nat.le_of_ble_eq_true rfl) (Nat.le_of_ble_eq_true rfl) (Nat.zero_le _) (Nat.zero_le _) (by omega) (by omega) (by omega) (by omega) dX3_beginnings_18 (fun z_3 e_3 => ?_)
  exact z_iret hx hb hr hlocks hS () (show (iI z_3) = iI (max (nl - nw + 1) 0) from (congrArg iI (by omega))) hP dX3_beginnings_21
set_option maxHeartbeats 4000000 in
set_option maxRecDepth 100000 in
theorem c_X3_hasEnded (l : Launch) (D : va_G) (cy : Nat → ClassId) (si : Nat) (li : Nat) (mi : Nat) (wi : Nat) (vi : Nat) (gi : Nat) (nl : Int) (nw : Int) (lr : Int) (er : Int) (pl : Int) (lk : Int) (cp : Int) (hb : 0 ≤ nl ∧ nl ≤ 60 ∧ 0 ≤ nw ∧ nw ≤ 16 ∧ 0 ≤ pl ∧ pl ≤ 100) : Ci l D cy yX3_hasEnded wsX3_hasEnded 2 41 [.ref si] [(si, .inr (3, [.ref li, .ref wi, .ref gi, .int (iI lr), .int (iI er), .int (iI pl), .int (iI lk), .int (iI cp)])), (li, .inr (2, [.ref mi, .int (iI nl)])), (wi, .inr (2, [.ref vi, .int (iI nw)]))] (fun (r : Int32) (u : Unit) => ((nw = 0 ∨ nl - nw + 1 ≤ pl) ∧ r = iI 1) ∨ (¬ (nw = 0 ∨ nl - nw + 1 ≤ pl) ∧ r = iI 0)) (fun u : Unit => [(si, .inr (3, [.ref li, .ref wi, .ref gi, .int (iI lr), .int (iI er), .int (iI pl), .int (iI lk), .int (iI cp)])), (li, .inr (2, [.ref mi, .int (iI nl)])), (wi, .inr (2, [.ref vi, .int (iI nw)]))]) := by
  refine Ci_of (cc := cX3_hasEnded) (maxL := 1) (ret := (some .boolean)) (by decide) rfl rfl ?_
  intro p e s m args below meth c A hx hb hr hts hown hlocks hml hP hK hD hT hA ls hl
  have hS : va_S A s.heap s.heap [] := va_S.rf
  have hl : lv_has ls 1 [(0, .ref si)] := hl
  have hiX3 : ∀ w ∈ wsX30, w ∈ wsX3_hasEnded := by decide +kernel
  refine lv_aload_n hx hb dX3_hasEnded_0 rfl (lv_at hl 0 rfl) ?_
  refine va_get (D := D) (ci := 3) (v := .ref wi) (C := RX3) (T := TX3) (N := 8) hx hb hts hiX3 hown hK hP 0 rfl rfl 1 (by decide) (hts (.fieldLink RX3 20 "BackwardSearch$State" "word" "LBackwardSearch$Row;") (by decide +kernel)) (fun _ h9 => h9) rfl dX3_hasEnded_1 ?_
  refine z_cVi (n := 0) (b := wi) (As := []) (rest := []) ⟨hx, hb, hml, hown, hts⟩ (c_X2_isEmpty l D cy wi vi nw (by omega)) gX3_hasEnded_X2_isEmpty rfl (by decide +kernel) ⟨Nat.le_of_ble_eq_true rfl, Nat.le_of_ble_eq_true rfl⟩ hK hT hP hD hS hA [2] rfl rfl 2 2 rfl rfl rfl (fun _ => rfl) rfl hl.1 rfl (Nat.le_of_ble_eq_true rfl) dX3_hasEnded_4 ⟨Nat.zero_le _, Nat.zero_le _⟩ (fun r_1 u_1 H locs hw_1 hP hD hS => ?_)
  have hw_1 : (nw = 0 ∧ r_1 = iI 1) ∨ (¬ nw = 0 ∧ r_1 = iI 0) := hw_1
  have hP : va_P D vwCl [(si, .inr (3, [.ref li, .ref wi, .ref gi, .int (iI lr), .int (iI er), .int (iI pl), .int (iI lk), .int (iI cp)])), (li, .inr (2, [.ref mi, .int (iI nl)])), (wi, .inr (2, [.ref vi, .int (iI nw)]))] H := hP
  have hD : va_D A [(si, .inr (3, [.ref li, .ref wi, .ref gi, .int (iI lr), .int (iI er), .int (iI pl), .int (iI lk), .int (iI cp)])), (li, .inr (2, [.ref mi, .int (iI nl)])), (wi, .inr (2, [.ref vi, .int (iI nw)]))] := hD
  rcases hw_1 with ⟨h_1, rfl⟩ | ⟨h_1, rfl⟩
  · --
    refine z_if_ne (tgt := 21) hx hb (iI_t (by omega) (by omega)) dX3_hasEnded_7 (by decide) (fun _ => ?_) (fun c2 => absurd c2 (by omega))
    refine lv_iconst (v := iI 1) hx hb dX3_hasEnded_21 rfl ?_
    refine lv_goto (tgt := 26) hx hb dX3_hasEnded_22 (by decide) ?_
    exact z_zret hx hb hr hlocks (by decide +kernel) hS () (show ((nw = 0 ∨ nl - nw + 1 ≤ pl) ∧ (iI 1) = iI 1) ∨ (¬ (nw = 0 ∨ nl - nw + 1 ≤ pl) ∧ (iI 1) = iI 0) from (by first | exact Or.inl ⟨by omega, rfl⟩ | exact Or.inr ⟨by omega, rfl⟩)) hP dX3_hasEnded_26
  · --
    refine z_if_ne (tgt := 21) hx hb (iI_t (by omega) (by omega)) dX3_hasEnded_7 (by decide) (fun c3 => absurd c3 (by omega)) (fun _ => ?_)
    refine lv_aload_n hx hb dX3_hasEnded_10 rfl (lv_at hl 0 rfl) ?_
    refine va_get (D := D) (ci := 3) (v := .int (iI pl)) (C := RX3) (T := TX3) (N := 8) hx hb hts hiX3 hown hK hP 0 rfl rfl 5 (by decide) (hts (.fieldLink RX3 37 "BackwardSearch$State" "place" "I") (by decide +kernel)) (fun _ h9 => h9) rfl dX3_hasEnded_11 ?_
    refine lv_aload_n hx hb dX3_hasEnded_14 rfl (lv_at hl 0 rfl) ?_
    refine z_cVi (n := 0) (b := si) (As := []) (rest := [.int (iI pl)]) ⟨hx, hb, hml, hown, hts⟩ (c_X3_beginnings l D cy si li mi wi vi gi nl nw lr er pl lk cp (by omega)) gX3_hasEnded_X3_beginnings rfl (by decide +kernel) ⟨Nat.le_of_ble_eq_true rfl, Nat.le_of_ble_eq_true rfl⟩ hK hT hP hD hS hA [0, 1, 2] rfl rfl 0 3 rfl rfl rfl (fun _ => rfl) rfl hl.1 rfl (Nat.le_of_ble_eq_true rfl) dX3_hasEnded_15 ⟨Nat.zero_le _, Nat.zero_le _⟩ (fun r_4 u_4 H locs hw_4 hP hD hS => ?_)
    have hw_4 : r_4 = iI (max (nl - nw + 1) 0) := hw_4
    have hP : va_P D vwCl [(si, .inr (3, [.ref li, .ref wi, .ref gi, .int (iI lr), .int (iI er), .int (iI pl), .int (iI lk), .int (iI cp)])), (li, .inr (2, [.ref mi, .int (iI nl)])), (wi, .inr (2, [.ref vi, .int (iI nw)]))] H := hP
    have hD : va_D A [(si, .inr (3, [.ref li, .ref wi, .ref gi, .int (iI lr), .int (iI er), .int (iI pl), .int (iI lk), .int (iI cp)])), (li, .inr (2, [.ref mi, .int (iI nl)])), (wi, .inr (2, [.ref vi, .int (iI nw)]))] := hD
    obtain rfl := hw_4
    refine z_icmp_lt (tgt := 25) hx hb (iI_t (by omega) (by omega)) (iI_t (by omega) (by omega)) dX3_hasEnded_18 (by decide) (fun c5 => ?_) (fun c5 => ?_)
    · --
      refine lv_iconst (v := iI 0) hx hb dX3_hasEnded_25 rfl ?_
      exact z_zret hx hb hr hlocks (by decide +kernel) hS () (show ((nw = 0 ∨ nl - nw + 1 ≤ pl) ∧ (iI 0) = iI 1) ∨ (¬ (nw = 0 ∨ nl - nw + 1 ≤ pl) ∧ (iI 0) = iI 0) from (by first | exact Or.inl ⟨by omega, rfl⟩ | exact Or.inr ⟨by omega, rfl⟩)) hP dX3_hasEnded_26
    · --
      refine lv_iconst (v := iI 1) hx hb dX3_hasEnded_21 rfl ?_
      refine lv_goto (tgt := 26) hx hb dX3_hasEnded_22 (by decide) ?_
      exact z_zret hx hb hr hlocks (by decide +kernel) hS () (show ((nw = 0 ∨ nl - nw + 1 ≤ pl) ∧ (iI 1) = iI 1) ∨ (¬ (nw = 0 ∨ nl - nw + 1 ≤ pl) ∧ (iI 1) = iI 0) from (by first | exact Or.inl ⟨by omega, rfl⟩ | exact Or.inr ⟨by omega, rfl⟩)) hP dX3_hasEnded_26
set_option maxHeartbeats 4000000 in
set_option maxRecDepth 100000 in
theorem c_X3_lastDifferenceAt (l : Launch) (D : va_G) (cy : Nat → ClassId) (si : Nat) (li : Nat) (mi : Nat) (wi : Nat) (vi : Nat) (gi : Nat) (nl : Int) (Fl : Nat → Int32) (nw : Int) (Fw : Nat → Int32) (lr : Int) (er : Int) (pl : Int) (lk : Int) (cp : Int) (x : Int) (hb : 0 ≤ nl ∧ nl ≤ 60 ∧ 0 ≤ nw ∧ nw ≤ 16) (hx1 : 0 ≤ x ∧ x + nw ≤ nl) : Ci l D cy yX3_lastDifferenceAt wsX3_lastDifferenceAt 2 42 [.ref si, .int (iI x)] [(si, .inr (3, [.ref li, .ref wi, .ref gi, .int (iI lr), .int (iI er), .int (iI pl), .int (iI lk), .int (iI cp)])), (li, .inr (2, [.ref mi, .int (iI nl)])), (mi, .inl (cy 0, 60, .inl Fl)), (wi, .inr (2, [.ref vi, .int (iI nw)])), (vi, .inl (cy 0, 16, .inl Fw))] (fun (r : Int32) (u : Unit) => r = iI (diffF nw.toNat Fw Fl x)) (fun u : Unit => [(si, .inr (3, [.ref li, .ref wi, .ref gi, .int (iI lr), .int (iI er), .int (iI pl), .int (iI lk), .int (iI cp)])), (li, .inr (2, [.ref mi, .int (iI nl)])), (mi, .inl (cy 0, 60, .inl Fl)), (wi, .inr (2, [.ref vi, .int (iI nw)])), (vi, .inl (cy 0, 16, .inl Fw))]) := by
  refine Ci_of (cc := cX3_lastDifferenceAt) (maxL := 3) (ret := (some .int)) (by decide) rfl rfl ?_
  intro p e s m args below meth c A hx hb hr hts hown hlocks hml hP hK hD hT hA ls hl
  have hS : va_S A s.heap s.heap [] := va_S.rf
  have hl : lv_has ls 3 [(0, .ref si), (1, .int (iI x))] := hl
  have hiX3 : ∀ w ∈ wsX30, w ∈ wsX3_lastDifferenceAt := by decide +kernel
  refine lv_aload_n hx hb dX3_lastDifferenceAt_0 rfl (lv_at hl 0 rfl) ?_
  refine va_get (D := D) (ci := 3) (v := .ref wi) (C := RX3) (T := TX3) (N := 8) hx hb hts hiX3 hown hK hP 0 rfl rfl 1 (by decide) (hts (.fieldLink RX3 20 "BackwardSearch$State" "word" "LBackwardSearch$Row;") (by decide +kernel)) (fun _ h9 => h9) rfl dX3_lastDifferenceAt_1 ?_
  refine z_cVi (n := 0) (b := wi) (As := []) (rest := []) ⟨hx, hb, hml, hown, hts⟩ (c_X2_size l D cy wi vi nw ) gX3_lastDifferenceAt_X2_size rfl (by decide +kernel) ⟨Nat.le_of_ble_eq_true rfl, Nat.le_of_ble_eq_true rfl⟩ hK hT hP hD hS hA [3] rfl rfl 3 2 rfl rfl rfl (fun _ => rfl) rfl hl.1 rfl (Nat.le_of_ble_eq_true rfl) dX3_lastDifferenceAt_4 ⟨Nat.zero_le _, Nat.zero_le _⟩ (fun r_1 u_1 H locs hw_1 hP hD hS => ?_)
  have hw_1 : r_1 = iI nw := hw_1
  have hP : va_P D vwCl [(si, .inr (3, [.ref li, .ref wi, .ref gi, .int (iI lr), .int (iI er), .int (iI pl), .int (iI lk), .int (iI cp)])), (li, .inr (2, [.ref mi, .int (iI nl)])), (mi, .inl (cy 0, 60, .inl Fl)), (wi, .inr (2, [.ref vi, .int (iI nw)])), (vi, .inl (cy 0, 16, .inl Fw))] H := hP
  have hD : va_D A [(si, .inr (3, [.ref li, .ref wi, .ref gi, .int (iI lr), .int (iI er), .int (iI pl), .int (iI lk), .int (iI cp)])), (li, .inr (2, [.ref mi, .int (iI nl)])), (mi, .inl (cy 0, 60, .inl Fl)), (wi, .inr (2, [.ref vi, .int (iI nw)])), (vi, .inl (cy 0, 16, .inl Fw))] := hD
  obtain rfl := hw_1
  refine lv_iconst (v := iI 1) hx hb dX3_lastDifferenceAt_7 rfl ?_
  refine z_sub hx hb dX3_lastDifferenceAt_8 ?_
  refine lv_istore_n (lv' := [(2, .int (iI (nw - 1))), (0, .ref si), (1, .int (iI x))]) hx hb dX3_lastDifferenceAt_9 rfl hl (by decide) rfl (fun ls hl => ?_)
  have hloop2 : ∀ (n2 : Nat) (i : Int) (hi : -1 ≤ i ∧ i < nw) (hg : ∀ j : Nat, i < j → j < nw.toNat → Fw j = Fl (x + (j : Int)).toNat) (hm : i + 1 < (n2 : Int)) (H : Heap) (locs : List Loc) (ls : Array Slot) (hP : va_P D vwCl [(si, .inr (3, [.ref li, .ref wi, .ref gi, .int (iI lr), .int (iI er), .int (iI pl), .int (iI lk), .int (iI cp)])), (li, .inr (2, [.ref mi, .int (iI nl)])), (mi, .inl (cy 0, 60, .inl Fl)), (wi, .inr (2, [.ref vi, .int (iI nw)])), (vi, .inl (cy 0, 16, .inl Fw))] H) (hD : va_D A [(si, .inr (3, [.ref li, .ref wi, .ref gi, .int (iI lr), .int (iI er), .int (iI pl), .int (iI lk), .int (iI cp)])), (li, .inr (2, [.ref mi, .int (iI nl)])), (mi, .inl (cy 0, 60, .inl Fl)), (wi, .inr (2, [.ref vi, .int (iI nw)])), (vi, .inl (cy 0, 16, .inl Fw))]) (hS : va_S A s.heap H locs) (hl : lv_has ls 3 [(2, .int (iI i)), (0, .ref si), (1, .int (iI x))]), W p l e ({ frames := 2, cells := 0, slots := 0, locals := 42 } : Room) s m args below meth c H locs 0 0 (MQ below (va_Qi (fun (r : Int32) (u : Unit) => r = iI (diffF nw.toNat Fw Fl x)) (fun u t => va_P D vwCl ((fun u : Unit => [(si, .inr (3, [.ref li, .ref wi, .ref gi, .int (iI lr), .int (iI er), .int (iI pl), .int (iI lk), .int (iI cp)])), (li, .inr (2, [.ref mi, .int (iI nl)])), (mi, .inl (cy 0, 60, .inl Fl)), (wi, .inr (2, [.ref vi, .int (iI nw)])), (vi, .inl (cy 0, 16, .inl Fw))]) u) t.heap) A) args s 0 0 A) (F0 m 10 ls []) := by
    intro n2
    induction n2 with
    | zero =>
      intro i hi hg hm; exact absurd hm (by omega)
    | succ n2 ih2 =>
      intro i hi hg hm H locs ls hP hD hS hl
      refine lv_iload_n hx hb dX3_lastDifferenceAt_10 rfl (lv_at hl 0 rfl) ?_
      refine z_if_lt (tgt := 43) hx hb (iI_t (by omega) (by omega)) dX3_lastDifferenceAt_11 (by decide) (fun c3 => ?_) (fun c3 => ?_)
      · --
        refine lv_iconst (v := iI (-1)) hx hb dX3_lastDifferenceAt_43 rfl ?_
        exact z_iret hx hb hr hlocks hS () (show (iI (-1)) = iI (diffF nw.toNat Fw Fl x) from (congrArg iI (diffF_eq ⟨by omega, by omega, fun h => absurd h (by omega), fun j h1 h2 => hg j (by omega) h2⟩))) hP dX3_lastDifferenceAt_44
      · --
        refine lv_aload_n hx hb dX3_lastDifferenceAt_14 rfl (lv_at hl 1 rfl) ?_
        refine va_get (D := D) (ci := 3) (v := .ref wi) (C := RX3) (T := TX3) (N := 8) hx hb hts hiX3 hown hK hP 0 rfl rfl 1 (by decide) (hts (.fieldLink RX3 20 "BackwardSearch$State" "word" "LBackwardSearch$Row;") (by decide +kernel)) (fun _ h9 => h9) rfl dX3_lastDifferenceAt_15 ?_
        refine lv_iload_n hx hb dX3_lastDifferenceAt_18 rfl (lv_at hl 0 rfl) ?_
        refine z_cVi (n := 1) (b := wi) (As := [.int (iI i)]) (rest := []) ⟨hx, hb, hml, hown, hts⟩ (c_X2_at l D cy wi vi 16 nw Fw i (by omega) (by omega)) gX3_lastDifferenceAt_X2_at rfl (by decide +kernel) ⟨Nat.le_of_ble_eq_true rfl, Nat.le_of_ble_eq_true rfl⟩ hK hT hP hD hS hA [3, 4] rfl rfl 3 2 rfl rfl rfl (fun _ => rfl) rfl hl.1 rfl (Nat.le_of_ble_eq_true rfl) dX3_lastDifferenceAt_19 ⟨Nat.zero_le _, Nat.zero_le _⟩ (fun r_4 u_4 H locs hw_4 hP hD hS => ?_)
        have hw_4 : (0 ≤ i ∧ i < nw ∧ r_4 = Fw i.toNat) ∨ (¬ (0 ≤ i ∧ i < nw) ∧ r_4 = iI (-1)) := hw_4
        have hP : va_P D vwCl [(si, .inr (3, [.ref li, .ref wi, .ref gi, .int (iI lr), .int (iI er), .int (iI pl), .int (iI lk), .int (iI cp)])), (li, .inr (2, [.ref mi, .int (iI nl)])), (mi, .inl (cy 0, 60, .inl Fl)), (wi, .inr (2, [.ref vi, .int (iI nw)])), (vi, .inl (cy 0, 16, .inl Fw))] H := hP
        have hD : va_D A [(si, .inr (3, [.ref li, .ref wi, .ref gi, .int (iI lr), .int (iI er), .int (iI pl), .int (iI lk), .int (iI cp)])), (li, .inr (2, [.ref mi, .int (iI nl)])), (mi, .inl (cy 0, 60, .inl Fl)), (wi, .inr (2, [.ref vi, .int (iI nw)])), (vi, .inl (cy 0, 16, .inl Fw))] := hD
        rcases hw_4 with ⟨h_4, g_4, rfl⟩ | ⟨h_4, rfl⟩
        · --
          refine lv_aload_n hx hb dX3_lastDifferenceAt_22 rfl (lv_at hl 1 rfl) ?_
          refine va_get (D := D) (ci := 3) (v := .ref li) (C := RX3) (T := TX3) (N := 8) hx hb hts hiX3 hown hK hP 0 rfl rfl 0 (by decide) (hts (.fieldLink RX3 14 "BackwardSearch$State" "line" "LBackwardSearch$Row;") (by decide +kernel)) (fun _ h9 => h9) rfl dX3_lastDifferenceAt_23 ?_
          refine lv_iload_n hx hb dX3_lastDifferenceAt_26 rfl (lv_at hl 2 rfl) ?_
          refine lv_iload_n hx hb dX3_lastDifferenceAt_27 rfl (lv_at hl 0 rfl) ?_
          refine z_add hx hb dX3_lastDifferenceAt_28 ?_
          refine z_cVi (n := 1) (b := li) (As := [.int (iI (x + i))]) (rest := [.int (Fw i.toNat)]) ⟨hx, hb, hml, hown, hts⟩ (c_X2_at l D cy li mi 60 nl Fl (x + i) (by omega) (by omega)) gX3_lastDifferenceAt_X2_at rfl (by decide +kernel) ⟨Nat.le_of_ble_eq_true rfl, Nat.le_of_ble_eq_true rfl⟩ hK hT hP hD hS hA [1, 2] rfl rfl 1 2 rfl rfl rfl (fun _ => rfl) rfl hl.1 rfl (Nat.le_of_ble_eq_true rfl) dX3_lastDifferenceAt_29 ⟨Nat.zero_le _, Nat.zero_le _⟩ (fun r_5 u_5 H locs hw_5 hP hD hS => ?_)
          have hw_5 : (0 ≤ (x + i) ∧ (x + i) < nl ∧ r_5 = Fl (x + i).toNat) ∨ (¬ (0 ≤ (x + i) ∧ (x + i) < nl) ∧ r_5 = iI (-1)) := hw_5
          have hP : va_P D vwCl [(si, .inr (3, [.ref li, .ref wi, .ref gi, .int (iI lr), .int (iI er), .int (iI pl), .int (iI lk), .int (iI cp)])), (li, .inr (2, [.ref mi, .int (iI nl)])), (mi, .inl (cy 0, 60, .inl Fl)), (wi, .inr (2, [.ref vi, .int (iI nw)])), (vi, .inl (cy 0, 16, .inl Fw))] H := hP
          have hD : va_D A [(si, .inr (3, [.ref li, .ref wi, .ref gi, .int (iI lr), .int (iI er), .int (iI pl), .int (iI lk), .int (iI cp)])), (li, .inr (2, [.ref mi, .int (iI nl)])), (mi, .inl (cy 0, 60, .inl Fl)), (wi, .inr (2, [.ref vi, .int (iI nw)])), (vi, .inl (cy 0, 16, .inl Fw))] := hD
          rcases hw_5 with ⟨h_5, g_5, rfl⟩ | ⟨h_5, rfl⟩
          · --
            refine lv_icmp_eq (tgt := 37) hx hb dX3_lastDifferenceAt_32 (by decide) (fun c6 => ?_) (fun c6 => ?_)
            · --
              refine z_iinc (lv' := [(2, .int (iI (i + (-1)))), (0, .ref si), (1, .int (iI x))]) hx hb dX3_lastDifferenceAt_37 hl (k := 0) rfl (by decide) rfl (fun ls hl => ?_)
              refine lv_goto (tgt := 10) hx hb dX3_lastDifferenceAt_40 (by decide) ?_
              exact ih2 (i + (-1)) (by omega) (diff_step (by omega) hg (by assumption)) (by omega) _ _ _ hP hD hS (lv_sub hl [0, 1, 2] rfl)
            · --
              refine lv_iload_n hx hb dX3_lastDifferenceAt_35 rfl (lv_at hl 0 rfl) ?_
              exact z_iret hx hb hr hlocks hS () (show (iI i) = iI (diffF nw.toNat Fw Fl x) from (congrArg iI (diffF_eq ⟨by omega, by omega, fun _ => by assumption, hg⟩))) hP dX3_lastDifferenceAt_36
          · --
            exfalso; omega
        · --
          exfalso; omega
  exact hloop2 (Int.toNat ((nw - 1) + 1) + 1) (nw - 1) (by omega) (fun j h1 h2 => absurd h2 (by omega)) (by omega) _ _ _ hP hD hS (lv_sub hl [0, 1, 2] rfl)
set_option maxHeartbeats 4000000 in
set_option maxRecDepth 100000 in
theorem c_X3_skipByLetter (l : Launch) (D : va_G) (cy : Nat → ClassId) (si : Nat) (li : Nat) (wi : Nat) (vi : Nat) (gi : Nat) (nw : Int) (Fw : Nat → Int32) (lr : Int) (er : Int) (pl : Int) (lk : Int) (cp : Int) (x : Int) (y : Int32) (hb : 0 ≤ nw ∧ nw ≤ 16) : Ci l D cy yX3_skipByLetter wsX3_skipByLetter 1 22 [.ref si, .int (iI x), .int y] [(si, .inr (3, [.ref li, .ref wi, .ref gi, .int (iI lr), .int (iI er), .int (iI pl), .int (iI lk), .int (iI cp)])), (wi, .inr (2, [.ref vi, .int (iI nw)])), (vi, .inl (cy 0, 16, .inl Fw))] (fun (r : Int32) (u : Unit) => r = iI (x - lastF nw.toNat Fw y)) (fun u : Unit => [(si, .inr (3, [.ref li, .ref wi, .ref gi, .int (iI lr), .int (iI er), .int (iI pl), .int (iI lk), .int (iI cp)])), (wi, .inr (2, [.ref vi, .int (iI nw)])), (vi, .inl (cy 0, 16, .inl Fw))]) := by
  refine Ci_of (cc := cX3_skipByLetter) (maxL := 3) (ret := (some .int)) (by decide) rfl rfl ?_
  intro p e s m args below meth c A hx hb hr hts hown hlocks hml hP hK hD hT hA ls hl
  have hS : va_S A s.heap s.heap [] := va_S.rf
  have hl : lv_has ls 3 [(0, .ref si), (1, .int (iI x)), (2, .int y)] := hl
  have hiX3 : ∀ w ∈ wsX30, w ∈ wsX3_skipByLetter := by decide +kernel
  refine lv_iload_n hx hb dX3_skipByLetter_0 rfl (lv_at hl 1 rfl) ?_
  refine lv_aload_n hx hb dX3_skipByLetter_1 rfl (lv_at hl 0 rfl) ?_
  refine va_get (D := D) (ci := 3) (v := .ref wi) (C := RX3) (T := TX3) (N := 8) hx hb hts hiX3 hown hK hP 0 rfl rfl 1 (by decide) (hts (.fieldLink RX3 20 "BackwardSearch$State" "word" "LBackwardSearch$Row;") (by decide +kernel)) (fun _ h9 => h9) rfl dX3_skipByLetter_2 ?_
  refine lv_iload_n hx hb dX3_skipByLetter_5 rfl (lv_at hl 2 rfl) ?_
  refine z_cVi (n := 1) (b := wi) (As := [.int y]) (rest := [.int (iI x)]) ⟨hx, hb, hml, hown, hts⟩ (c_X2_lastPlaceWith l D cy wi vi 16 nw Fw y (by omega)) gX3_skipByLetter_X2_lastPlaceWith rfl (by decide +kernel) ⟨Nat.le_of_ble_eq_true rfl, Nat.le_of_ble_eq_true rfl⟩ hK hT hP hD hS hA [1, 2] rfl rfl 1 2 rfl rfl rfl (fun _ => rfl) rfl hl.1 rfl (Nat.le_of_ble_eq_true rfl) dX3_skipByLetter_6 ⟨Nat.zero_le _, Nat.zero_le _⟩ (fun r_1 u_1 H locs hw_1 hP hD hS => ?_)
  have hw_1 : r_1 = iI (lastF nw.toNat Fw y) := hw_1
  have hP : va_P D vwCl [(si, .inr (3, [.ref li, .ref wi, .ref gi, .int (iI lr), .int (iI er), .int (iI pl), .int (iI lk), .int (iI cp)])), (wi, .inr (2, [.ref vi, .int (iI nw)])), (vi, .inl (cy 0, 16, .inl Fw))] H := hP
  have hD : va_D A [(si, .inr (3, [.ref li, .ref wi, .ref gi, .int (iI lr), .int (iI er), .int (iI pl), .int (iI lk), .int (iI cp)])), (wi, .inr (2, [.ref vi, .int (iI nw)])), (vi, .inl (cy 0, 16, .inl Fw))] := hD
  obtain rfl := hw_1
  refine z_sub hx hb dX3_skipByLetter_9 ?_
  exact z_iret hx hb hr hlocks hS () (show (iI (x - (lastF nw.toNat Fw y))) = iI (x - lastF nw.toNat Fw y) from rfl) hP dX3_skipByLetter_10
set_option maxHeartbeats 4000000 in
set_option maxRecDepth 100000 in
theorem c_X0_skipAt (l : Launch) (D : va_G) (cy : Nat → ClassId) (n0 : Nat) (b0 : Nat) (k0 : Nat) (en : Int) (Kf : Nat → Int) (x : Int) (hx1 : 0 ≤ x ∧ x < en ∧ en ≤ 16) : Ci l D cy yX0_skipAt wsX0_skipAt 0 0 [.ref n0, .int (iI x)] [(n0, .inr (0, [.ref b0, .ref k0, .int (iI en)])), (k0, .inl (cy 0, 17, .inl (zI Kf)))] (fun (r : Int32) (u : Unit) => r = iI (Kf (x + 1).toNat)) (fun u : Unit => [(n0, .inr (0, [.ref b0, .ref k0, .int (iI en)])), (k0, .inl (cy 0, 17, .inl (zI Kf)))]) := by
  refine Ci_of (cc := cX0_skipAt) (maxL := 2) (ret := (some .int)) (by decide) rfl rfl ?_
  intro p e s m args below meth c A hx hb hr hts hown hlocks hml hP hK hD hT hA ls hl
  have hS : va_S A s.heap s.heap [] := va_S.rf
  have hl : lv_has ls 2 [(0, .ref n0), (1, .int (iI x))] := hl
  have hiX0 : ∀ w ∈ wsX00, w ∈ wsX0_skipAt := by decide +kernel
  refine lv_iload_n hx hb dX0_skipAt_0 rfl (lv_at hl 1 rfl) ?_
  refine z_if_lt (tgt := 23) hx hb (iI_t (by omega) (by omega)) dX0_skipAt_1 (by decide) (fun c1 => absurd c1 (by omega)) (fun c1 => ?_)
  refine lv_iload_n hx hb dX0_skipAt_4 rfl (lv_at hl 1 rfl) ?_
  refine lv_aload_n hx hb dX0_skipAt_5 rfl (lv_at hl 0 rfl) ?_
  refine va_get (D := D) (ci := 0) (v := .int (iI en)) (C := RX0) (T := TX0) (N := 3) hx hb hts hiX0 hown hK hP 0 rfl rfl 2 (by decide) (hts (.fieldLink RX0 30 "BackwardSearch$Ends" "length" "I") (by decide +kernel)) (fun _ h9 => h9) rfl dX0_skipAt_6 ?_
  refine z_icmp_ge (tgt := 23) hx hb (iI_t (by omega) (by omega)) (iI_t (by omega) (by omega)) dX0_skipAt_9 (by decide) (fun c2 => absurd c2 (by omega)) (fun c2 => ?_)
  refine lv_aload_n hx hb dX0_skipAt_12 rfl (lv_at hl 0 rfl) ?_
  refine va_get (D := D) (ci := 0) (v := .ref k0) (C := RX0) (T := TX0) (N := 3) hx hb hts hiX0 hown hK hP 0 rfl rfl 1 (by decide) (hts (.fieldLink RX0 15 "BackwardSearch$Ends" "skipOf" "[I") (by decide +kernel)) (fun _ h9 => h9) rfl dX0_skipAt_13 ?_
  refine lv_iload_n hx hb dX0_skipAt_16 rfl (lv_at hl 1 rfl) ?_
  refine lv_iconst (v := iI 1) hx hb dX0_skipAt_17 rfl ?_
  refine z_add hx hb dX0_skipAt_18 ?_
  refine z_iald hx hb hK hP 1 rfl (by omega) (by omega) (by omega) dX0_skipAt_19 ?_
  refine lv_goto (tgt := 24) hx hb dX0_skipAt_20 (by decide) ?_
  exact z_iret hx hb hr hlocks hS () (show (iI (Kf (x + 1).toNat)) = iI (Kf (x + 1).toNat) from rfl) hP dX0_skipAt_24
set_option maxHeartbeats 4000000 in
set_option maxRecDepth 100000 in
theorem c_X0_wordPeriod (l : Launch) (D : va_G) (cy : Nat → ClassId) (n0 : Nat) (b0 : Nat) (k0 : Nat) (en : Int) (B : Nat → Int) (hb : 0 ≤ en ∧ en ≤ 16) : Ci l D cy yX0_wordPeriod wsX0_wordPeriod 0 0 [.ref n0] [(n0, .inr (0, [.ref b0, .ref k0, .int (iI en)])), (b0, .inl (cy 0, 17, .inl (zI B)))] (fun (r : Int32) (u : Unit) => r = iI (if en = 0 then 0 else B 0)) (fun u : Unit => [(n0, .inr (0, [.ref b0, .ref k0, .int (iI en)])), (b0, .inl (cy 0, 17, .inl (zI B)))]) := by
  refine Ci_of (cc := cX0_wordPeriod) (maxL := 1) (ret := (some .int)) (by decide) rfl rfl ?_
  intro p e s m args below meth c A hx hb hr hts hown hlocks hml hP hK hD hT hA ls hl
  have hS : va_S A s.heap s.heap [] := va_S.rf
  have hl : lv_has ls 1 [(0, .ref n0)] := hl
  have hiX0 : ∀ w ∈ wsX00, w ∈ wsX0_wordPeriod := by decide +kernel
  refine lv_aload_n hx hb dX0_wordPeriod_0 rfl (lv_at hl 0 rfl) ?_
  refine va_get (D := D) (ci := 0) (v := .int (iI en)) (C := RX0) (T := TX0) (N := 3) hx hb hts hiX0 hown hK hP 0 rfl rfl 2 (by decide) (hts (.fieldLink RX0 30 "BackwardSearch$Ends" "length" "I") (by decide +kernel)) (fun _ h9 => h9) rfl dX0_wordPeriod_1 ?_
  refine z_if_ne (tgt := 11) hx hb (iI_t (by omega) (by omega)) dX0_wordPeriod_4 (by decide) (fun c1 => ?_) (fun c1 => ?_)
  · --
    refine lv_aload_n hx hb dX0_wordPeriod_11 rfl (lv_at hl 0 rfl) ?_
    refine va_get (D := D) (ci := 0) (v := .ref b0) (C := RX0) (T := TX0) (N := 3) hx hb hts hiX0 hown hK hP 0 rfl rfl 0 (by decide) (hts (.fieldLink RX0 9 "BackwardSearch$Ends" "borderOf" "[I") (by decide +kernel)) (fun _ h9 => h9) rfl dX0_wordPeriod_12 ?_
    refine lv_iconst (v := iI 0) hx hb dX0_wordPeriod_15 rfl ?_
    refine z_iald hx hb hK hP 1 rfl (by omega) (by omega) (by omega) dX0_wordPeriod_16 ?_
    exact z_iret hx hb hr hlocks hS () (show (iI (B (0 : Int).toNat)) = iI (if en = 0 then 0 else B 0) from (by first | rw [if_pos (by assumption)] | (rw [if_neg (by assumption)]; rfl))) hP dX0_wordPeriod_17
  · --
    refine lv_iconst (v := iI 0) hx hb dX0_wordPeriod_7 rfl ?_
    refine lv_goto (tgt := 17) hx hb dX0_wordPeriod_8 (by decide) ?_
    exact z_iret hx hb hr hlocks hS () (show (iI 0) = iI (if en = 0 then 0 else B 0) from (by first | rw [if_pos (by assumption)] | (rw [if_neg (by assumption)]; rfl))) hP dX0_wordPeriod_17
set_option maxHeartbeats 4000000 in
set_option maxRecDepth 100000 in
theorem c_X3_skipBehind (l : Launch) (D : va_G) (cy : Nat → ClassId) (si : Nat) (li : Nat) (mi : Nat) (wi : Nat) (vi : Nat) (gi : Nat) (nl : Int) (Fl : Nat → Int32) (nw : Int) (Fw : Nat → Int32) (lr : Int) (er : Int) (pl : Int) (lk : Int) (cp : Int) (n0 : Nat) (b0 : Nat) (k0 : Nat) (en : Int) (B : Nat → Int) (Kf : Nat → Int) (d : Int) (hb : 0 ≤ nl ∧ nl ≤ 60 ∧ 0 ≤ nw ∧ nw ≤ 16) (hd : -1 ≤ d ∧ d < nw ∧ en = nw ∧ 0 ≤ pl ∧ pl + nw ≤ nl) (hk : ∀ j : Nat, 0 ≤ Kf j ∧ Kf j ≤ 17) (hr01 : 0 ≤ lr ∧ lr ≤ 1 ∧ 0 ≤ er ∧ er ≤ 1) : Ci l D cy yX3_skipBehind wsX3_skipBehind 2 44 [.ref si, .int (iI d), .ref n0] [(si, .inr (3, [.ref li, .ref wi, .ref gi, .int (iI lr), .int (iI er), .int (iI pl), .int (iI lk), .int (iI cp)])), (li, .inr (2, [.ref mi, .int (iI nl)])), (mi, .inl (cy 0, 60, .inl Fl)), (wi, .inr (2, [.ref vi, .int (iI nw)])), (vi, .inl (cy 0, 16, .inl Fw)), (n0, .inr (0, [.ref b0, .ref k0, .int (iI en)])), (b0, .inl (cy 0, 17, .inl (zI B))), (k0, .inl (cy 0, 17, .inl (zI Kf)))] (fun (r : Int32) (u : Unit) => r = iI (skX (B 0) Kf lr er nw.toNat Fw Fl pl d)) (fun u : Unit => [(si, .inr (3, [.ref li, .ref wi, .ref gi, .int (iI lr), .int (iI er), .int (iI pl), .int (iI lk), .int (iI cp)])), (li, .inr (2, [.ref mi, .int (iI nl)])), (mi, .inl (cy 0, 60, .inl Fl)), (wi, .inr (2, [.ref vi, .int (iI nw)])), (vi, .inl (cy 0, 16, .inl Fw)), (n0, .inr (0, [.ref b0, .ref k0, .int (iI en)])), (b0, .inl (cy 0, 17, .inl (zI B))), (k0, .inl (cy 0, 17, .inl (zI Kf)))]) := by
  refine Ci_of (cc := cX3_skipBehind) (maxL := 4) (ret := (some .int)) (by decide) rfl rfl ?_
  intro p e s m args below meth c A hx hb hr hts hown hlocks hml hP hK hD hT hA ls hl
  have hS : va_S A s.heap s.heap [] := va_S.rf
  have hl : lv_has ls 4 [(0, .ref si), (1, .int (iI d)), (2, .ref n0)] := hl
  have hiX3 : ∀ w ∈ wsX30, w ∈ wsX3_skipBehind := by decide +kernel
  refine lv_iload_n hx hb dX3_skipBehind_0 rfl (lv_at hl 1 rfl) ?_
  refine lv_iconst (v := iI (-1)) hx hb dX3_skipBehind_1 rfl ?_
  refine z_icmp_ne (tgt := 10) hx hb (iI_t (by omega) (by omega)) (iI_t (by omega) (by omega)) dX3_skipBehind_2 (by decide) (fun c1 => ?_) (fun c1 => ?_)
  · --
    refine lv_iconst (v := iI 1) hx hb dX3_skipBehind_10 rfl ?_
    refine lv_istore_n (lv' := [(3, .int (iI 1)), (0, .ref si), (1, .int (iI d)), (2, .ref n0)]) hx hb dX3_skipBehind_11 rfl hl (by decide) rfl (fun ls hl => ?_)
    refine lv_aload_n hx hb dX3_skipBehind_12 rfl (lv_at hl 1 rfl) ?_
    refine va_get (D := D) (ci := 3) (v := .int (iI lr)) (C := RX3) (T := TX3) (N := 8) hx hb hts hiX3 hown hK hP 0 rfl rfl 3 (by decide) (hts (.fieldLink RX3 26 "BackwardSearch$State" "letterRule" "Z") (by decide +kernel)) (fun _ h9 => h9) rfl dX3_skipBehind_13 ?_
    refine z_if_eq (tgt := 42) hx hb (iI_t (by omega) (by omega)) dX3_skipBehind_16 (by decide) (fun c2 => ?_) (fun c2 => ?_)
    · --
      refine lv_aload_n hx hb dX3_skipBehind_42 rfl (lv_at hl 1 rfl) ?_
      refine va_get (D := D) (ci := 3) (v := .int (iI er)) (C := RX3) (T := TX3) (N := 8) hx hb hts hiX3 hown hK hP 0 rfl rfl 4 (by decide) (hts (.fieldLink RX3 30 "BackwardSearch$State" "endRule" "Z") (by decide +kernel)) (fun _ h9 => h9) rfl dX3_skipBehind_43 ?_
      refine z_if_eq (tgt := 59) hx hb (iI_t (by omega) (by omega)) dX3_skipBehind_46 (by decide) (fun c3 => ?_) (fun c3 => ?_)
      · --
        refine lv_iload_n hx hb dX3_skipBehind_59 rfl (lv_at hl 0 rfl) ?_
        exact z_iret hx hb hr hlocks hS () (show (iI 1) = iI (skX (B 0) Kf lr er nw.toNat Fw Fl pl d) from (congrArg iI (by simp only [skX]; omega))) hP dX3_skipBehind_60
      · --
        refine lv_iload_n hx hb dX3_skipBehind_49 rfl (lv_at hl 0 rfl) ?_
        refine lv_aload_n hx hb dX3_skipBehind_50 rfl (lv_at hl 3 rfl) ?_
        refine lv_iload_n hx hb dX3_skipBehind_51 rfl (lv_at hl 2 rfl) ?_
        refine z_cVi (n := 1) (b := n0) (As := [.int (iI d)]) (rest := [.int (iI 1)]) ⟨hx, hb, hml, hown, hts⟩ (c_X0_skipAt l D cy n0 b0 k0 en Kf d (by omega)) gX3_skipBehind_X0_skipAt rfl (by decide +kernel) ⟨Nat.le_of_ble_eq_true rfl, Nat.le_of_ble_eq_true rfl⟩ hK hT hP hD hS hA [5, 7] rfl rfl 5 0 rfl rfl rfl (fun _ => rfl) rfl hl.1 rfl (Nat.le_of_ble_eq_true rfl) dX3_skipBehind_52 ⟨Nat.zero_le _, Nat.zero_le _⟩ (fun r_4 u_4 H locs hw_4 hP hD hS => ?_)
        have hw_4 : r_4 = iI (Kf (d + 1).toNat) := hw_4
        have hP : va_P D vwCl [(si, .inr (3, [.ref li, .ref wi, .ref gi, .int (iI lr), .int (iI er), .int (iI pl), .int (iI lk), .int (iI cp)])), (li, .inr (2, [.ref mi, .int (iI nl)])), (mi, .inl (cy 0, 60, .inl Fl)), (wi, .inr (2, [.ref vi, .int (iI nw)])), (vi, .inl (cy 0, 16, .inl Fw)), (n0, .inr (0, [.ref b0, .ref k0, .int (iI en)])), (b0, .inl (cy 0, 17, .inl (zI B))), (k0, .inl (cy 0, 17, .inl (zI Kf)))] H := hP
        have hD : va_D A [(si, .inr (3, [.ref li, .ref wi, .ref gi, .int (iI lr), .int (iI er), .int (iI pl), .int (iI lk), .int (iI cp)])), (li, .inr (2, [.ref mi, .int (iI nl)])), (mi, .inl (cy 0, 60, .inl Fl)), (wi, .inr (2, [.ref vi, .int (iI nw)])), (vi, .inl (cy 0, 16, .inl Fw)), (n0, .inr (0, [.ref b0, .ref k0, .int (iI en)])), (b0, .inl (cy 0, 17, .inl (zI B))), (k0, .inl (cy 0, 17, .inl (zI Kf)))] := hD
        obtain rfl := hw_4
        have hk1 := hk (d + 1).toNat
        refine z_mmax (hml := hml.trans hl.1.symm) hx hb hown (hts (.methodLink RX3 54 Lib.Math.max.name) (by decide +kernel)) (hts (.static Lib.Math.max.name) (by decide +kernel)) (hts (.initialized "java/lang/Math") (by decide +kernel)) (hts (.code Lib.Math.max.name Lib.Math.max.code 2 (some .int)) (by decide +kernel)) (Nat.le_of_ble_eq_true rfl) (Nat.le_of_ble_eq_true rfl) (Nat.zero_le _) (Nat.zero_le _) (by omega) (by omega) (by omega) (by omega) dX3_skipBehind_55 (fun z_5 e_5 => ?_)
        refine lv_istore_n (lv' := [(3, .int (iI z_5)), (0, .ref si), (1, .int (iI d)), (2, .ref n0)]) hx hb dX3_skipBehind_58 rfl hl (by decide) rfl (fun ls hl => ?_)
        refine lv_iload_n hx hb dX3_skipBehind_59 rfl (lv_at hl 0 rfl) ?_
        exact z_iret hx hb hr hlocks hS () (show (iI z_5) = iI (skX (B 0) Kf lr er nw.toNat Fw Fl pl d) from (congrArg iI (by simp only [skX]; omega))) hP dX3_skipBehind_60
    · --
      refine lv_iload_n hx hb dX3_skipBehind_19 rfl (lv_at hl 0 rfl) ?_
      refine lv_aload_n hx hb dX3_skipBehind_20 rfl (lv_at hl 1 rfl) ?_
      refine lv_iload_n hx hb dX3_skipBehind_21 rfl (lv_at hl 2 rfl) ?_
      refine lv_aload_n hx hb dX3_skipBehind_22 rfl (lv_at hl 1 rfl) ?_
      refine va_get (D := D) (ci := 3) (v := .ref li) (C := RX3) (T := TX3) (N := 8) hx hb hts hiX3 hown hK hP 0 rfl rfl 0 (by decide) (hts (.fieldLink RX3 14 "BackwardSearch$State" "line" "LBackwardSearch$Row;") (by decide +kernel)) (fun _ h9 => h9) rfl dX3_skipBehind_23 ?_
      refine lv_aload_n hx hb dX3_skipBehind_26 rfl (lv_at hl 1 rfl) ?_
      refine va_get (D := D) (ci := 3) (v := .int (iI pl)) (C := RX3) (T := TX3) (N := 8) hx hb hts hiX3 hown hK hP 0 rfl rfl 5 (by decide) (hts (.fieldLink RX3 37 "BackwardSearch$State" "place" "I") (by decide +kernel)) (fun _ h9 => h9) rfl dX3_skipBehind_27 ?_
      refine lv_iload_n hx hb dX3_skipBehind_30 rfl (lv_at hl 2 rfl) ?_
      refine z_add hx hb dX3_skipBehind_31 ?_
      refine z_cVi (n := 1) (b := li) (As := [.int (iI (pl + d))]) (rest := [.int (iI d), .ref si, .int (iI 1)]) ⟨hx, hb, hml, hown, hts⟩ (c_X2_at l D cy li mi 60 nl Fl (pl + d) (by omega) (by omega)) gX3_skipBehind_X2_at rfl (by decide +kernel) ⟨Nat.le_of_ble_eq_true rfl, Nat.le_of_ble_eq_true rfl⟩ hK hT hP hD hS hA [1, 2] rfl rfl 1 2 rfl rfl rfl (fun _ => rfl) rfl hl.1 rfl (Nat.le_of_ble_eq_true rfl) dX3_skipBehind_32 ⟨Nat.zero_le _, Nat.zero_le _⟩ (fun r_6 u_6 H locs hw_6 hP hD hS => ?_)
      have hw_6 : (0 ≤ (pl + d) ∧ (pl + d) < nl ∧ r_6 = Fl (pl + d).toNat) ∨ (¬ (0 ≤ (pl + d) ∧ (pl + d) < nl) ∧ r_6 = iI (-1)) := hw_6
      have hP : va_P D vwCl [(si, .inr (3, [.ref li, .ref wi, .ref gi, .int (iI lr), .int (iI er), .int (iI pl), .int (iI lk), .int (iI cp)])), (li, .inr (2, [.ref mi, .int (iI nl)])), (mi, .inl (cy 0, 60, .inl Fl)), (wi, .inr (2, [.ref vi, .int (iI nw)])), (vi, .inl (cy 0, 16, .inl Fw)), (n0, .inr (0, [.ref b0, .ref k0, .int (iI en)])), (b0, .inl (cy 0, 17, .inl (zI B))), (k0, .inl (cy 0, 17, .inl (zI Kf)))] H := hP
      have hD : va_D A [(si, .inr (3, [.ref li, .ref wi, .ref gi, .int (iI lr), .int (iI er), .int (iI pl), .int (iI lk), .int (iI cp)])), (li, .inr (2, [.ref mi, .int (iI nl)])), (mi, .inl (cy 0, 60, .inl Fl)), (wi, .inr (2, [.ref vi, .int (iI nw)])), (vi, .inl (cy 0, 16, .inl Fw)), (n0, .inr (0, [.ref b0, .ref k0, .int (iI en)])), (b0, .inl (cy 0, 17, .inl (zI B))), (k0, .inl (cy 0, 17, .inl (zI Kf)))] := hD
      rcases hw_6 with ⟨h_6, g_6, rfl⟩ | ⟨h_6, rfl⟩
      · --
        refine z_cVi (n := 2) (b := si) (As := [.int (iI d), .int (Fl (pl + d).toNat)]) (rest := [.int (iI 1)]) ⟨hx, hb, hml, hown, hts⟩ (c_X3_skipByLetter l D cy si li wi vi gi nw Fw lr er pl lk cp d (Fl (pl + d).toNat) (by omega)) gX3_skipBehind_X3_skipByLetter rfl (by decide +kernel) ⟨Nat.le_of_ble_eq_true rfl, Nat.le_of_ble_eq_true rfl⟩ hK hT hP hD hS hA [0, 3, 4] rfl rfl 0 3 rfl rfl rfl (fun _ => rfl) rfl hl.1 rfl (Nat.le_of_ble_eq_true rfl) dX3_skipBehind_35 ⟨Nat.zero_le _, Nat.zero_le _⟩ (fun r_7 u_7 H locs hw_7 hP hD hS => ?_)
        have hw_7 : r_7 = iI (d - lastF nw.toNat Fw (Fl (pl + d).toNat)) := hw_7
        have hP : va_P D vwCl [(si, .inr (3, [.ref li, .ref wi, .ref gi, .int (iI lr), .int (iI er), .int (iI pl), .int (iI lk), .int (iI cp)])), (li, .inr (2, [.ref mi, .int (iI nl)])), (mi, .inl (cy 0, 60, .inl Fl)), (wi, .inr (2, [.ref vi, .int (iI nw)])), (vi, .inl (cy 0, 16, .inl Fw)), (n0, .inr (0, [.ref b0, .ref k0, .int (iI en)])), (b0, .inl (cy 0, 17, .inl (zI B))), (k0, .inl (cy 0, 17, .inl (zI Kf)))] H := hP
        have hD : va_D A [(si, .inr (3, [.ref li, .ref wi, .ref gi, .int (iI lr), .int (iI er), .int (iI pl), .int (iI lk), .int (iI cp)])), (li, .inr (2, [.ref mi, .int (iI nl)])), (mi, .inl (cy 0, 60, .inl Fl)), (wi, .inr (2, [.ref vi, .int (iI nw)])), (vi, .inl (cy 0, 16, .inl Fw)), (n0, .inr (0, [.ref b0, .ref k0, .int (iI en)])), (b0, .inl (cy 0, 17, .inl (zI B))), (k0, .inl (cy 0, 17, .inl (zI Kf)))] := hD
        obtain rfl := hw_7
        have hl1 := lastF_rng nw.toNat Fw (Fl (pl + d).toNat)
        refine z_mmax (hml := hml.trans hl.1.symm) hx hb hown (hts (.methodLink RX3 54 Lib.Math.max.name) (by decide +kernel)) (hts (.static Lib.Math.max.name) (by decide +kernel)) (hts (.initialized "java/lang/Math") (by decide +kernel)) (hts (.code Lib.Math.max.name Lib.Math.max.code 2 (some .int)) (by decide +kernel)) (Nat.le_of_ble_eq_true rfl) (Nat.le_of_ble_eq_true rfl) (Nat.zero_le _) (Nat.zero_le _) (by omega) (by omega) (by omega) (by omega) dX3_skipBehind_38 (fun z_8 e_8 => ?_)
        refine lv_istore_n (lv' := [(3, .int (iI z_8)), (0, .ref si), (1, .int (iI d)), (2, .ref n0)]) hx hb dX3_skipBehind_41 rfl hl (by decide) rfl (fun ls hl => ?_)
        refine lv_aload_n hx hb dX3_skipBehind_42 rfl (lv_at hl 1 rfl) ?_
        refine va_get (D := D) (ci := 3) (v := .int (iI er)) (C := RX3) (T := TX3) (N := 8) hx hb hts hiX3 hown hK hP 0 rfl rfl 4 (by decide) (hts (.fieldLink RX3 30 "BackwardSearch$State" "endRule" "Z") (by decide +kernel)) (fun _ h9 => h9) rfl dX3_skipBehind_43 ?_
        refine z_if_eq (tgt := 59) hx hb (iI_t (by omega) (by omega)) dX3_skipBehind_46 (by decide) (fun c9 => ?_) (fun c9 => ?_)
        · --
          refine lv_iload_n hx hb dX3_skipBehind_59 rfl (lv_at hl 0 rfl) ?_
          exact z_iret hx hb hr hlocks hS () (show (iI z_8) = iI (skX (B 0) Kf lr er nw.toNat Fw Fl pl d) from (congrArg iI (by simp only [skX]; omega))) hP dX3_skipBehind_60
        · --
          refine lv_iload_n hx hb dX3_skipBehind_49 rfl (lv_at hl 0 rfl) ?_
          refine lv_aload_n hx hb dX3_skipBehind_50 rfl (lv_at hl 3 rfl) ?_
          refine lv_iload_n hx hb dX3_skipBehind_51 rfl (lv_at hl 2 rfl) ?_
          refine z_cVi (n := 1) (b := n0) (As := [.int (iI d)]) (rest := [.int (iI z_8)]) ⟨hx, hb, hml, hown, hts⟩ (c_X0_skipAt l D cy n0 b0 k0 en Kf d (by omega)) gX3_skipBehind_X0_skipAt rfl (by decide +kernel) ⟨Nat.le_of_ble_eq_true rfl, Nat.le_of_ble_eq_true rfl⟩ hK hT hP hD hS hA [5, 7] rfl rfl 5 0 rfl rfl rfl (fun _ => rfl) rfl hl.1 rfl (Nat.le_of_ble_eq_true rfl) dX3_skipBehind_52 ⟨Nat.zero_le _, Nat.zero_le _⟩ (fun r_10 u_10 H locs hw_10 hP hD hS => ?_)
          have hw_10 : r_10 = iI (Kf (d + 1).toNat) := hw_10
          have hP : va_P D vwCl [(si, .inr (3, [.ref li, .ref wi, .ref gi, .int (iI lr), .int (iI er), .int (iI pl), .int (iI lk), .int (iI cp)])), (li, .inr (2, [.ref mi, .int (iI nl)])), (mi, .inl (cy 0, 60, .inl Fl)), (wi, .inr (2, [.ref vi, .int (iI nw)])), (vi, .inl (cy 0, 16, .inl Fw)), (n0, .inr (0, [.ref b0, .ref k0, .int (iI en)])), (b0, .inl (cy 0, 17, .inl (zI B))), (k0, .inl (cy 0, 17, .inl (zI Kf)))] H := hP
          have hD : va_D A [(si, .inr (3, [.ref li, .ref wi, .ref gi, .int (iI lr), .int (iI er), .int (iI pl), .int (iI lk), .int (iI cp)])), (li, .inr (2, [.ref mi, .int (iI nl)])), (mi, .inl (cy 0, 60, .inl Fl)), (wi, .inr (2, [.ref vi, .int (iI nw)])), (vi, .inl (cy 0, 16, .inl Fw)), (n0, .inr (0, [.ref b0, .ref k0, .int (iI en)])), (b0, .inl (cy 0, 17, .inl (zI B))), (k0, .inl (cy 0, 17, .inl (zI Kf)))] := hD
          obtain rfl := hw_10
          have hk1 := hk (d + 1).toNat
          refine z_mmax (hml := hml.trans hl.1.symm) hx hb hown (hts (.methodLink RX3 54 Lib.Math.max.name) (by decide +kernel)) (hts (.static Lib.Math.max.name) (by decide +kernel)) (hts (.initialized "java/lang/Math") (by decide +kernel)) (hts (.code Lib.Math.max.name Lib.Math.max.code 2 (some .int)) (by decide +kernel)) (Nat.le_of_ble_eq_true rfl) (Nat.le_of_ble_eq_true rfl) (Nat.zero_le _) (Nat.zero_le _) (by omega) (by omega) (by omega) (by omega) dX3_skipBehind_55 (fun z_11 e_11 => ?_)
          refine lv_istore_n (lv' := [(3, .int (iI z_11)), (0, .ref si), (1, .int (iI d)), (2, .ref n0)]) hx hb dX3_skipBehind_58 rfl hl (by decide) rfl (fun ls hl => ?_)
          refine lv_iload_n hx hb dX3_skipBehind_59 rfl (lv_at hl 0 rfl) ?_
          exact z_iret hx hb hr hlocks hS () (show (iI z_11) = iI (skX (B 0) Kf lr er nw.toNat Fw Fl pl d) from (congrArg iI (by simp only [skX]; omega))) hP dX3_skipBehind_60
      · --
        exfalso; omega
  · --
    refine lv_aload_n hx hb dX3_skipBehind_5 rfl (lv_at hl 2 rfl) ?_
    refine z_cVi (n := 0) (b := n0) (As := []) (rest := []) ⟨hx, hb, hml, hown, hts⟩ (c_X0_wordPeriod l D cy n0 b0 k0 en B (by omega)) gX3_skipBehind_X0_wordPeriod rfl (by decide +kernel) ⟨Nat.le_of_ble_eq_true rfl, Nat.le_of_ble_eq_true rfl⟩ hK hT hP hD hS hA [5, 6] rfl rfl 5 0 rfl rfl rfl (fun _ => rfl) rfl hl.1 rfl (Nat.le_of_ble_eq_true rfl) dX3_skipBehind_6 ⟨Nat.zero_le _, Nat.zero_le _⟩ (fun r_12 u_12 H locs hw_12 hP hD hS => ?_)
    have hw_12 : r_12 = iI (if en = 0 then 0 else B 0) := hw_12
    have hP : va_P D vwCl [(si, .inr (3, [.ref li, .ref wi, .ref gi, .int (iI lr), .int (iI er), .int (iI pl), .int (iI lk), .int (iI cp)])), (li, .inr (2, [.ref mi, .int (iI nl)])), (mi, .inl (cy 0, 60, .inl Fl)), (wi, .inr (2, [.ref vi, .int (iI nw)])), (vi, .inl (cy 0, 16, .inl Fw)), (n0, .inr (0, [.ref b0, .ref k0, .int (iI en)])), (b0, .inl (cy 0, 17, .inl (zI B))), (k0, .inl (cy 0, 17, .inl (zI Kf)))] H := hP
    have hD : va_D A [(si, .inr (3, [.ref li, .ref wi, .ref gi, .int (iI lr), .int (iI er), .int (iI pl), .int (iI lk), .int (iI cp)])), (li, .inr (2, [.ref mi, .int (iI nl)])), (mi, .inl (cy 0, 60, .inl Fl)), (wi, .inr (2, [.ref vi, .int (iI nw)])), (vi, .inl (cy 0, 16, .inl Fw)), (n0, .inr (0, [.ref b0, .ref k0, .int (iI en)])), (b0, .inl (cy 0, 17, .inl (zI B))), (k0, .inl (cy 0, 17, .inl (zI Kf)))] := hD
    obtain rfl := hw_12
    exact z_iret hx hb hr hlocks hS () (show (iI (if en = 0 then 0 else B 0)) = iI (skX (B 0) Kf lr er nw.toNat Fw Fl pl d) from (congrArg iI (by simp only [skX]; omega))) hP dX3_skipBehind_9
set_option maxHeartbeats 4000000 in
set_option maxRecDepth 100000 in
theorem c_X3_lookOnce (l : Launch) (D : va_G) (cy : Nat → ClassId) (si : Nat) (li : Nat) (mi : Nat) (wi : Nat) (vi : Nat) (gi : Nat) (ei : Nat) (nl : Int) (Fl : Nat → Int32) (nw : Int) (Fw : Nat → Int32) (nf : Int) (Ff : Nat → Int32) (lr : Int) (er : Int) (pl : Int) (lk : Int) (cp : Int) (n0 : Nat) (b0 : Nat) (k0 : Nat) (en : Int) (B : Nat → Int) (Kf : Nat → Int) (hb : 0 ≤ nl ∧ nl ≤ 60 ∧ 0 ≤ nw ∧ nw ≤ 16 ∧ 0 ≤ nf ∧ nf ≤ pl ∧ pl ≤ 100 ∧ nf ≤ 60 ∧ 0 ≤ lk ∧ lk ≤ pl ∧ 0 ≤ cp ∧ cp ≤ 16 * lk ∧ 0 ≤ lr ∧ lr ≤ 1 ∧ 0 ≤ er ∧ er ≤ 1) (hd : 0 < nw ∧ en = nw ∧ pl + nw ≤ nl) (hk : ∀ j : Nat, 0 ≤ Kf j ∧ Kf j ≤ 17) (hB : 0 ≤ B 0 ∧ B 0 ≤ 17) : Ci l D cy yX3_lookOnce wsX3_lookOnce 3 67 [.ref si, .ref n0] [(si, .inr (3, [.ref li, .ref wi, .ref gi, .int (iI lr), .int (iI er), .int (iI pl), .int (iI lk), .int (iI cp)])), (li, .inr (2, [.ref mi, .int (iI nl)])), (mi, .inl (cy 0, 60, .inl Fl)), (wi, .inr (2, [.ref vi, .int (iI nw)])), (vi, .inl (cy 0, 16, .inl Fw)), (gi, .inr (2, [.ref ei, .int (iI nf)])), (ei, .inl (cy 0, 60, .inl Ff)), (n0, .inr (0, [.ref b0, .ref k0, .int (iI en)])), (b0, .inl (cy 0, 17, .inl (zI B))), (k0, .inl (cy 0, 17, .inl (zI Kf)))] (fun (r : Int32) (u : Int × Int × (Nat → Int32)) => r = iI (skX (B 0) Kf lr er nw.toNat Fw Fl pl (diffF nw.toNat Fw Fl pl)) ∧ u.1 = cp + (nw - max (diffF nw.toNat Fw Fl pl) 0) ∧ (((diffF nw.toNat Fw Fl pl) = -1 ∧ u.2.1 = nf + 1 ∧ u.2.2 = upd Ff nf.toNat (iI pl)) ∨ (¬ (diffF nw.toNat Fw Fl pl) = -1 ∧ u.2.1 = nf ∧ u.2.2 = Ff))) (fun u : Int × Int × (Nat → Int32) => [(si, .inr (3, [.ref li, .ref wi, .ref gi, .int (iI lr), .int (iI er), .int (iI (pl + (skX (B 0) Kf lr er nw.toNat Fw Fl pl (diffF nw.toNat Fw Fl pl)))), .int (iI (lk + 1)), .int (iI u.1)])), (li, .inr (2, [.ref mi, .int (iI nl)])), (mi, .inl (cy 0, 60, .inl Fl)), (wi, .inr (2, [.ref vi, .int (iI nw)])), (vi, .inl (cy 0, 16, .inl Fw)), (gi, .inr (2, [.ref ei, .int (iI u.2.1)])), (ei, .inl (cy 0, 60, .inl u.2.2)), (n0, .inr (0, [.ref b0, .ref k0, .int (iI en)])), (b0, .inl (cy 0, 17, .inl (zI B))), (k0, .inl (cy 0, 17, .inl (zI Kf)))]) := by
  refine Ci_of (cc := cX3_lookOnce) (maxL := 4) (ret := (some .int)) (by decide) rfl rfl ?_
  intro p e s m args below meth c A hx hb hr hts hown hlocks hml hP hK hD hT hA ls hl
  have hS : va_S A s.heap s.heap [] := va_S.rf
  have hl : lv_has ls 4 [(0, .ref si), (1, .ref n0)] := hl
  have hiX3 : ∀ w ∈ wsX30, w ∈ wsX3_lookOnce := by decide +kernel
  refine lv_aload_n hx hb dX3_lookOnce_0 rfl (lv_at hl 0 rfl) ?_
  refine lv_aload_n hx hb dX3_lookOnce_1 rfl (lv_at hl 0 rfl) ?_
  refine va_get (D := D) (ci := 3) (v := .int (iI pl)) (C := RX3) (T := TX3) (N := 8) hx hb hts hiX3 hown hK hP 0 rfl rfl 5 (by decide) (hts (.fieldLink RX3 37 "BackwardSearch$State" "place" "I") (by decide +kernel)) (fun _ h9 => h9) rfl dX3_lookOnce_2 ?_
  refine z_cVi (n := 1) (b := si) (As := [.int (iI pl)]) (rest := []) ⟨hx, hb, hml, hown, hts⟩ (c_X3_lastDifferenceAt l D cy si li mi wi vi gi nl Fl nw Fw lr er pl lk cp pl (by omega) (by omega)) gX3_lookOnce_X3_lastDifferenceAt rfl (by decide +kernel) ⟨Nat.le_of_ble_eq_true rfl, Nat.le_of_ble_eq_true rfl⟩ hK hT hP hD hS hA [0, 1, 2, 3, 4] rfl rfl 0 3 rfl rfl rfl (fun _ => rfl) rfl hl.1 rfl (Nat.le_of_ble_eq_true rfl) dX3_lookOnce_5 ⟨Nat.zero_le _, Nat.zero_le _⟩ (fun r_1 u_1 H locs hw_1 hP hD hS => ?_)
  have hw_1 : r_1 = iI (diffF nw.toNat Fw Fl pl) := hw_1
  have hP : va_P D vwCl [(si, .inr (3, [.ref li, .ref wi, .ref gi, .int (iI lr), .int (iI er), .int (iI pl), .int (iI lk), .int (iI cp)])), (li, .inr (2, [.ref mi, .int (iI nl)])), (mi, .inl (cy 0, 60, .inl Fl)), (wi, .inr (2, [.ref vi, .int (iI nw)])), (vi, .inl (cy 0, 16, .inl Fw)), (gi, .inr (2, [.ref ei, .int (iI nf)])), (ei, .inl (cy 0, 60, .inl Ff)), (n0, .inr (0, [.ref b0, .ref k0, .int (iI en)])), (b0, .inl (cy 0, 17, .inl (zI B))), (k0, .inl (cy 0, 17, .inl (zI Kf)))] H := hP
  have hD : va_D A [(si, .inr (3, [.ref li, .ref wi, .ref gi, .int (iI lr), .int (iI er), .int (iI pl), .int (iI lk), .int (iI cp)])), (li, .inr (2, [.ref mi, .int (iI nl)])), (mi, .inl (cy 0, 60, .inl Fl)), (wi, .inr (2, [.ref vi, .int (iI nw)])), (vi, .inl (cy 0, 16, .inl Fw)), (gi, .inr (2, [.ref ei, .int (iI nf)])), (ei, .inl (cy 0, 60, .inl Ff)), (n0, .inr (0, [.ref b0, .ref k0, .int (iI en)])), (b0, .inl (cy 0, 17, .inl (zI B))), (k0, .inl (cy 0, 17, .inl (zI Kf)))] := hD
  obtain rfl := hw_1
  have hdr := diffF_rng nw.toNat Fw Fl pl
  have hsr := skX_rng (lr := lr) (er := er) (m := nw.toNat) (W := Fw) (L := Fl) (pl := pl) (d := diffF nw.toNat Fw Fl pl) hB hk (by omega) (by omega) (by omega)
  refine lv_istore_n (lv' := [(2, .int (iI (diffF nw.toNat Fw Fl pl))), (0, .ref si), (1, .ref n0)]) hx hb dX3_lookOnce_8 rfl hl (by decide) rfl (fun ls hl => ?_)
  refine lv_aload_n hx hb dX3_lookOnce_9 rfl (lv_at hl 1 rfl) ?_
  refine lv_dup hx hb dX3_lookOnce_10 rfl ?_
  refine va_get (D := D) (ci := 3) (v := .int (iI lk)) (C := RX3) (T := TX3) (N := 8) hx hb hts hiX3 hown hK hP 0 rfl rfl 6 (by decide) (hts (.fieldLink RX3 41 "BackwardSearch$State" "looks" "I") (by decide +kernel)) (fun _ h9 => h9) rfl dX3_lookOnce_11 ?_
  refine lv_iconst (v := iI 1) hx hb dX3_lookOnce_14 rfl ?_
  refine z_add hx hb dX3_lookOnce_15 ?_
  refine va_put (D := D) (ci := 3) (v := .int (iI (lk + 1))) (ty := .int) (C := RX3) (T := TX3) (N := 8) hx hb hts hiX3 tyX3 tyX3_ok nmX3 hown hK hP hD hS 0 rfl rfl 6 (by decide) (hts (.fieldLink RX3 41 "BackwardSearch$State" "looks" "I") (by decide +kernel)) (fun _ h9 => h9) rfl (by decide +kernel) rfl rfl (Nat.le_of_ble_eq_true rfl) dX3_lookOnce_16 (fun H locs hP hD hS => ?_)
  have hP : va_P D vwCl [(si, .inr (3, [.ref li, .ref wi, .ref gi, .int (iI lr), .int (iI er), .int (iI pl), .int (iI (lk + 1)), .int (iI cp)])), (li, .inr (2, [.ref mi, .int (iI nl)])), (mi, .inl (cy 0, 60, .inl Fl)), (wi, .inr (2, [.ref vi, .int (iI nw)])), (vi, .inl (cy 0, 16, .inl Fw)), (gi, .inr (2, [.ref ei, .int (iI nf)])), (ei, .inl (cy 0, 60, .inl Ff)), (n0, .inr (0, [.ref b0, .ref k0, .int (iI en)])), (b0, .inl (cy 0, 17, .inl (zI B))), (k0, .inl (cy 0, 17, .inl (zI Kf)))] H := hP
  have hD : va_D A [(si, .inr (3, [.ref li, .ref wi, .ref gi, .int (iI lr), .int (iI er), .int (iI pl), .int (iI (lk + 1)), .int (iI cp)])), (li, .inr (2, [.ref mi, .int (iI nl)])), (mi, .inl (cy 0, 60, .inl Fl)), (wi, .inr (2, [.ref vi, .int (iI nw)])), (vi, .inl (cy 0, 16, .inl Fw)), (gi, .inr (2, [.ref ei, .int (iI nf)])), (ei, .inl (cy 0, 60, .inl Ff)), (n0, .inr (0, [.ref b0, .ref k0, .int (iI en)])), (b0, .inl (cy 0, 17, .inl (zI B))), (k0, .inl (cy 0, 17, .inl (zI Kf)))] := hD
  refine lv_aload_n hx hb dX3_lookOnce_19 rfl (lv_at hl 1 rfl) ?_
  refine lv_dup hx hb dX3_lookOnce_20 rfl ?_
  refine va_get (D := D) (ci := 3) (v := .int (iI cp)) (C := RX3) (T := TX3) (N := 8) hx hb hts hiX3 hown hK hP 0 rfl rfl 7 (by decide) (hts (.fieldLink RX3 44 "BackwardSearch$State" "compared" "I") (by decide +kernel)) (fun _ h9 => h9) rfl dX3_lookOnce_21 ?_
  refine lv_aload_n hx hb dX3_lookOnce_24 rfl (lv_at hl 1 rfl) ?_
  refine va_get (D := D) (ci := 3) (v := .ref wi) (C := RX3) (T := TX3) (N := 8) hx hb hts hiX3 hown hK hP 0 rfl rfl 1 (by decide) (hts (.fieldLink RX3 20 "BackwardSearch$State" "word" "LBackwardSearch$Row;") (by decide +kernel)) (fun _ h9 => h9) rfl dX3_lookOnce_25 ?_
  refine z_cVi (n := 0) (b := wi) (As := []) (rest := [.int (iI cp), .ref si]) ⟨hx, hb, hml, hown, hts⟩ (c_X2_size l D cy wi vi nw ) gX3_lookOnce_X2_size rfl (by decide +kernel) ⟨Nat.le_of_ble_eq_true rfl, Nat.le_of_ble_eq_true rfl⟩ hK hT hP hD hS hA [3] rfl rfl 3 2 rfl rfl rfl (fun _ => rfl) rfl hl.1 rfl (Nat.le_of_ble_eq_true rfl) dX3_lookOnce_28 ⟨Nat.zero_le _, Nat.zero_le _⟩ (fun r_2 u_2 H locs hw_2 hP hD hS => ?_)
  have hw_2 : r_2 = iI nw := hw_2
  have hP : va_P D vwCl [(si, .inr (3, [.ref li, .ref wi, .ref gi, .int (iI lr), .int (iI er), .int (iI pl), .int (iI (lk + 1)), .int (iI cp)])), (li, .inr (2, [.ref mi, .int (iI nl)])), (mi, .inl (cy 0, 60, .inl Fl)), (wi, .inr (2, [.ref vi, .int (iI nw)])), (vi, .inl (cy 0, 16, .inl Fw)), (gi, .inr (2, [.ref ei, .int (iI nf)])), (ei, .inl (cy 0, 60, .inl Ff)), (n0, .inr (0, [.ref b0, .ref k0, .int (iI en)])), (b0, .inl (cy 0, 17, .inl (zI B))), (k0, .inl (cy 0, 17, .inl (zI Kf)))] H := hP
  have hD : va_D A [(si, .inr (3, [.ref li, .ref wi, .ref gi, .int (iI lr), .int (iI er), .int (iI pl), .int (iI (lk + 1)), .int (iI cp)])), (li, .inr (2, [.ref mi, .int (iI nl)])), (mi, .inl (cy 0, 60, .inl Fl)), (wi, .inr (2, [.ref vi, .int (iI nw)])), (vi, .inl (cy 0, 16, .inl Fw)), (gi, .inr (2, [.ref ei, .int (iI nf)])), (ei, .inl (cy 0, 60, .inl Ff)), (n0, .inr (0, [.ref b0, .ref k0, .int (iI en)])), (b0, .inl (cy 0, 17, .inl (zI B))), (k0, .inl (cy 0, 17, .inl (zI Kf)))] := hD
  obtain rfl := hw_2
  refine lv_iload_n hx hb dX3_lookOnce_31 rfl (lv_at hl 0 rfl) ?_
  refine lv_iconst (v := iI 0) hx hb dX3_lookOnce_32 rfl ?_
  refine z_mmax (hml := hml.trans hl.1.symm) hx hb hown (hts (.methodLink RX3 54 Lib.Math.max.name) (by decide +kernel)) (hts (.static Lib.Math.max.name) (by decide +kernel)) (hts (.initialized "java/lang/Math") (by decide +kernel)) (hts (.code Lib.Math.max.name Lib.Math.max.code 2 (some .int)) (by decide +kernel)) (Nat.le_of_ble_eq_true rfl) (Nat.le_of_ble_eq_true rfl) (Nat.zero_le _) (Nat.zero_le _) (by omega) (by omega) (by omega) (by omega) dX3_lookOnce_33 (fun z_3 e_3 => ?_)
  refine z_sub hx hb dX3_lookOnce_36 ?_
  refine z_add hx hb dX3_lookOnce_37 ?_
  refine va_put (D := D) (ci := 3) (v := .int (iI (cp + (nw - z_3)))) (ty := .int) (C := RX3) (T := TX3) (N := 8) hx hb hts hiX3 tyX3 tyX3_ok nmX3 hown hK hP hD hS 0 rfl rfl 7 (by decide) (hts (.fieldLink RX3 44 "BackwardSearch$State" "compared" "I") (by decide +kernel)) (fun _ h9 => h9) rfl (by decide +kernel) rfl rfl (Nat.le_of_ble_eq_true rfl) dX3_lookOnce_38 (fun H locs hP hD hS => ?_)
  have hP : va_P D vwCl [(si, .inr (3, [.ref li, .ref wi, .ref gi, .int (iI lr), .int (iI er), .int (iI pl), .int (iI (lk + 1)), .int (iI (cp + (nw - z_3)))])), (li, .inr (2, [.ref mi, .int (iI nl)])), (mi, .inl (cy 0, 60, .inl Fl)), (wi, .inr (2, [.ref vi, .int (iI nw)])), (vi, .inl (cy 0, 16, .inl Fw)), (gi, .inr (2, [.ref ei, .int (iI nf)])), (ei, .inl (cy 0, 60, .inl Ff)), (n0, .inr (0, [.ref b0, .ref k0, .int (iI en)])), (b0, .inl (cy 0, 17, .inl (zI B))), (k0, .inl (cy 0, 17, .inl (zI Kf)))] H := hP
  have hD : va_D A [(si, .inr (3, [.ref li, .ref wi, .ref gi, .int (iI lr), .int (iI er), .int (iI pl), .int (iI (lk + 1)), .int (iI (cp + (nw - z_3)))])), (li, .inr (2, [.ref mi, .int (iI nl)])), (mi, .inl (cy 0, 60, .inl Fl)), (wi, .inr (2, [.ref vi, .int (iI nw)])), (vi, .inl (cy 0, 16, .inl Fw)), (gi, .inr (2, [.ref ei, .int (iI nf)])), (ei, .inl (cy 0, 60, .inl Ff)), (n0, .inr (0, [.ref b0, .ref k0, .int (iI en)])), (b0, .inl (cy 0, 17, .inl (zI B))), (k0, .inl (cy 0, 17, .inl (zI Kf)))] := hD
  refine lv_aload_n hx hb dX3_lookOnce_41 rfl (lv_at hl 1 rfl) ?_
  refine lv_iload_n hx hb dX3_lookOnce_42 rfl (lv_at hl 0 rfl) ?_
  refine lv_aload_n hx hb dX3_lookOnce_43 rfl (lv_at hl 2 rfl) ?_
  refine z_cVi (n := 2) (b := si) (As := [.int (iI (diffF nw.toNat Fw Fl pl)), .ref n0]) (rest := []) ⟨hx, hb, hml, hown, hts⟩ (c_X3_skipBehind l D cy si li mi wi vi gi nl Fl nw Fw lr er pl (lk + 1) (cp + (nw - z_3)) n0 b0 k0 en B Kf (diffF nw.toNat Fw Fl pl) (by omega) (by omega) (hk) (by omega)) gX3_lookOnce_X3_skipBehind rfl (by decide +kernel) ⟨Nat.le_of_ble_eq_true rfl, Nat.le_of_ble_eq_true rfl⟩ hK hT hP hD hS hA [0, 1, 2, 3, 4, 7, 8, 9] rfl rfl 0 3 rfl rfl rfl (fun _ => rfl) rfl hl.1 rfl (Nat.le_of_ble_eq_true rfl) dX3_lookOnce_44 ⟨Nat.zero_le _, Nat.zero_le _⟩ (fun r_4 u_4 H locs hw_4 hP hD hS => ?_)
  have hw_4 : r_4 = iI (skX (B 0) Kf lr er nw.toNat Fw Fl pl (diffF nw.toNat Fw Fl pl)) := hw_4
  have hP : va_P D vwCl [(si, .inr (3, [.ref li, .ref wi, .ref gi, .int (iI lr), .int (iI er), .int (iI pl), .int (iI (lk + 1)), .int (iI (cp + (nw - z_3)))])), (li, .inr (2, [.ref mi, .int (iI nl)])), (mi, .inl (cy 0, 60, .inl Fl)), (wi, .inr (2, [.ref vi, .int (iI nw)])), (vi, .inl (cy 0, 16, .inl Fw)), (gi, .inr (2, [.ref ei, .int (iI nf)])), (ei, .inl (cy 0, 60, .inl Ff)), (n0, .inr (0, [.ref b0, .ref k0, .int (iI en)])), (b0, .inl (cy 0, 17, .inl (zI B))), (k0, .inl (cy 0, 17, .inl (zI Kf)))] H := hP
  have hD : va_D A [(si, .inr (3, [.ref li, .ref wi, .ref gi, .int (iI lr), .int (iI er), .int (iI pl), .int (iI (lk + 1)), .int (iI (cp + (nw - z_3)))])), (li, .inr (2, [.ref mi, .int (iI nl)])), (mi, .inl (cy 0, 60, .inl Fl)), (wi, .inr (2, [.ref vi, .int (iI nw)])), (vi, .inl (cy 0, 16, .inl Fw)), (gi, .inr (2, [.ref ei, .int (iI nf)])), (ei, .inl (cy 0, 60, .inl Ff)), (n0, .inr (0, [.ref b0, .ref k0, .int (iI en)])), (b0, .inl (cy 0, 17, .inl (zI B))), (k0, .inl (cy 0, 17, .inl (zI Kf)))] := hD
  obtain rfl := hw_4
  refine lv_istore_n (lv' := [(3, .int (iI (skX (B 0) Kf lr er nw.toNat Fw Fl pl (diffF nw.toNat Fw Fl pl)))), (2, .int (iI (diffF nw.toNat Fw Fl pl))), (0, .ref si), (1, .ref n0)]) hx hb dX3_lookOnce_47 rfl hl (by decide) rfl (fun ls hl => ?_)
  refine lv_iload_n hx hb dX3_lookOnce_48 rfl (lv_at hl 1 rfl) ?_
  refine lv_iconst (v := iI (-1)) hx hb dX3_lookOnce_49 rfl ?_
  refine z_icmp_ne (tgt := 64) hx hb (iI_t (by omega) (by omega)) (iI_t (by omega) (by omega)) dX3_lookOnce_50 (by decide) (fun c5 => ?_) (fun c5 => ?_)
  · --
    refine lv_aload_n hx hb dX3_lookOnce_64 rfl (lv_at hl 2 rfl) ?_
    refine lv_dup hx hb dX3_lookOnce_65 rfl ?_
    refine va_get (D := D) (ci := 3) (v := .int (iI pl)) (C := RX3) (T := TX3) (N := 8) hx hb hts hiX3 hown hK hP 0 rfl rfl 5 (by decide) (hts (.fieldLink RX3 37 "BackwardSearch$State" "place" "I") (by decide +kernel)) (fun _ h9 => h9) rfl dX3_lookOnce_66 ?_
    refine lv_iload_n hx hb dX3_lookOnce_69 rfl (lv_at hl 0 rfl) ?_
    refine z_add hx hb dX3_lookOnce_70 ?_
    refine va_put (D := D) (ci := 3) (v := .int (iI (pl + (skX (B 0) Kf lr er nw.toNat Fw Fl pl (diffF nw.toNat Fw Fl pl))))) (ty := .int) (C := RX3) (T := TX3) (N := 8) hx hb hts hiX3 tyX3 tyX3_ok nmX3 hown hK hP hD hS 0 rfl rfl 5 (by decide) (hts (.fieldLink RX3 37 "BackwardSearch$State" "place" "I") (by decide +kernel)) (fun _ h9 => h9) rfl (by decide +kernel) rfl rfl (Nat.le_of_ble_eq_true rfl) dX3_lookOnce_71 (fun H locs hP hD hS => ?_)
    have hP : va_P D vwCl [(si, .inr (3, [.ref li, .ref wi, .ref gi, .int (iI lr), .int (iI er), .int (iI (pl + (skX (B 0) Kf lr er nw.toNat Fw Fl pl (diffF nw.toNat Fw Fl pl)))), .int (iI (lk + 1)), .int (iI (cp + (nw - z_3)))])), (li, .inr (2, [.ref mi, .int (iI nl)])), (mi, .inl (cy 0, 60, .inl Fl)), (wi, .inr (2, [.ref vi, .int (iI nw)])), (vi, .inl (cy 0, 16, .inl Fw)), (gi, .inr (2, [.ref ei, .int (iI nf)])), (ei, .inl (cy 0, 60, .inl Ff)), (n0, .inr (0, [.ref b0, .ref k0, .int (iI en)])), (b0, .inl (cy 0, 17, .inl (zI B))), (k0, .inl (cy 0, 17, .inl (zI Kf)))] H := hP
    have hD : va_D A [(si, .inr (3, [.ref li, .ref wi, .ref gi, .int (iI lr), .int (iI er), .int (iI (pl + (skX (B 0) Kf lr er nw.toNat Fw Fl pl (diffF nw.toNat Fw Fl pl)))), .int (iI (lk + 1)), .int (iI (cp + (nw - z_3)))])), (li, .inr (2, [.ref mi, .int (iI nl)])), (mi, .inl (cy 0, 60, .inl Fl)), (wi, .inr (2, [.ref vi, .int (iI nw)])), (vi, .inl (cy 0, 16, .inl Fw)), (gi, .inr (2, [.ref ei, .int (iI nf)])), (ei, .inl (cy 0, 60, .inl Ff)), (n0, .inr (0, [.ref b0, .ref k0, .int (iI en)])), (b0, .inl (cy 0, 17, .inl (zI B))), (k0, .inl (cy 0, 17, .inl (zI Kf)))] := hD
    refine lv_iload_n hx hb dX3_lookOnce_74 rfl (lv_at hl 0 rfl) ?_
    exact z_iret hx hb hr hlocks hS ((cp + (nw - z_3)), nf, Ff) (show (iI (skX (B 0) Kf lr er nw.toNat Fw Fl pl (diffF nw.toNat Fw Fl pl))) = iI (skX (B 0) Kf lr er nw.toNat Fw Fl pl (diffF nw.toNat Fw Fl pl)) ∧ (cp + (nw - z_3)) = cp + (nw - max (diffF nw.toNat Fw Fl pl) 0) ∧ (((diffF nw.toNat Fw Fl pl) = -1 ∧ nf = nf + 1 ∧ Ff = upd Ff nf.toNat (iI pl)) ∨ (¬ (diffF nw.toNat Fw Fl pl) = -1 ∧ nf = nf ∧ Ff = Ff)) from (by first | exact ⟨rfl, by omega, Or.inl ⟨by omega, rfl, rfl⟩⟩ | exact ⟨rfl, by omega, Or.inr ⟨by omega, rfl, rfl⟩⟩)) hP dX3_lookOnce_75
  · --
    refine lv_aload_n hx hb dX3_lookOnce_53 rfl (lv_at hl 2 rfl) ?_
    refine va_get (D := D) (ci := 3) (v := .ref gi) (C := RX3) (T := TX3) (N := 8) hx hb hts hiX3 hown hK hP 0 rfl rfl 2 (by decide) (hts (.fieldLink RX3 23 "BackwardSearch$State" "found" "LBackwardSearch$Row;") (by decide +kernel)) (fun _ h9 => h9) rfl dX3_lookOnce_54 ?_
    refine lv_aload_n hx hb dX3_lookOnce_57 rfl (lv_at hl 2 rfl) ?_
    refine va_get (D := D) (ci := 3) (v := .int (iI pl)) (C := RX3) (T := TX3) (N := 8) hx hb hts hiX3 hown hK hP 0 rfl rfl 5 (by decide) (hts (.fieldLink RX3 37 "BackwardSearch$State" "place" "I") (by decide +kernel)) (fun _ h9 => h9) rfl dX3_lookOnce_58 ?_
    refine z_cVv (n := 1) (b := gi) (As := [.int (iI pl)]) (rest := []) ⟨hx, hb, hml, hown, hts⟩ (c_X2_add l D cy gi ei 60 nf Ff (iI pl) (by omega)) gX3_lookOnce_X2_add rfl (by decide +kernel) ⟨Nat.le_of_ble_eq_true rfl, Nat.le_of_ble_eq_true rfl⟩ hK hT hP hD hS hA [5, 6] rfl rfl 5 2 rfl rfl rfl (fun _ => rfl) rfl hl.1 rfl (Nat.le_of_ble_eq_true rfl) dX3_lookOnce_61 ⟨Nat.zero_le _, Nat.zero_le _⟩ (fun  u_6 H locs hw_6 hP hD hS => ?_)
    obtain ⟨n1_6, f1_6⟩ := u_6
    have hw_6 : (nf < 60 ∧ n1_6 = nf + 1 ∧ f1_6 = upd Ff nf.toNat (iI pl)) ∨ (¬ nf < 60 ∧ n1_6 = nf ∧ f1_6 = Ff) := hw_6
    have hP : va_P D vwCl [(si, .inr (3, [.ref li, .ref wi, .ref gi, .int (iI lr), .int (iI er), .int (iI pl), .int (iI (lk + 1)), .int (iI (cp + (nw - z_3)))])), (li, .inr (2, [.ref mi, .int (iI nl)])), (mi, .inl (cy 0, 60, .inl Fl)), (wi, .inr (2, [.ref vi, .int (iI nw)])), (vi, .inl (cy 0, 16, .inl Fw)), (gi, .inr (2, [.ref ei, .int (iI n1_6)])), (ei, .inl (cy 0, 60, .inl f1_6)), (n0, .inr (0, [.ref b0, .ref k0, .int (iI en)])), (b0, .inl (cy 0, 17, .inl (zI B))), (k0, .inl (cy 0, 17, .inl (zI Kf)))] H := hP
    have hD : va_D A [(si, .inr (3, [.ref li, .ref wi, .ref gi, .int (iI lr), .int (iI er), .int (iI pl), .int (iI (lk + 1)), .int (iI (cp + (nw - z_3)))])), (li, .inr (2, [.ref mi, .int (iI nl)])), (mi, .inl (cy 0, 60, .inl Fl)), (wi, .inr (2, [.ref vi, .int (iI nw)])), (vi, .inl (cy 0, 16, .inl Fw)), (gi, .inr (2, [.ref ei, .int (iI n1_6)])), (ei, .inl (cy 0, 60, .inl f1_6)), (n0, .inr (0, [.ref b0, .ref k0, .int (iI en)])), (b0, .inl (cy 0, 17, .inl (zI B))), (k0, .inl (cy 0, 17, .inl (zI Kf)))] := hD
    rcases hw_6 with ⟨h_6, rfl, rfl⟩ | ⟨h_6, rfl, rfl⟩
    · --
      refine lv_aload_n hx hb dX3_lookOnce_64 rfl (lv_at hl 2 rfl) ?_
      refine lv_dup hx hb dX3_lookOnce_65 rfl ?_
      refine va_get (D := D) (ci := 3) (v := .int (iI pl)) (C := RX3) (T := TX3) (N := 8) hx hb hts hiX3 hown hK hP 0 rfl rfl 5 (by decide) (hts (.fieldLink RX3 37 "BackwardSearch$State" "place" "I") (by decide +kernel)) (fun _ h9 => h9) rfl dX3_lookOnce_66 ?_
      refine lv_iload_n hx hb dX3_lookOnce_69 rfl (lv_at hl 0 rfl) ?_
      refine z_add hx hb dX3_lookOnce_70 ?_
      refine va_put (D := D) (ci := 3) (v := .int (iI (pl + (skX (B 0) Kf lr er nw.toNat Fw Fl pl (diffF nw.toNat Fw Fl pl))))) (ty := .int) (C := RX3) (T := TX3) (N := 8) hx hb hts hiX3 tyX3 tyX3_ok nmX3 hown hK hP hD hS 0 rfl rfl 5 (by decide) (hts (.fieldLink RX3 37 "BackwardSearch$State" "place" "I") (by decide +kernel)) (fun _ h9 => h9) rfl (by decide +kernel) rfl rfl (Nat.le_of_ble_eq_true rfl) dX3_lookOnce_71 (fun H locs hP hD hS => ?_)
      have hP : va_P D vwCl [(si, .inr (3, [.ref li, .ref wi, .ref gi, .int (iI lr), .int (iI er), .int (iI (pl + (skX (B 0) Kf lr er nw.toNat Fw Fl pl (diffF nw.toNat Fw Fl pl)))), .int (iI (lk + 1)), .int (iI (cp + (nw - z_3)))])), (li, .inr (2, [.ref mi, .int (iI nl)])), (mi, .inl (cy 0, 60, .inl Fl)), (wi, .inr (2, [.ref vi, .int (iI nw)])), (vi, .inl (cy 0, 16, .inl Fw)), (gi, .inr (2, [.ref ei, .int (iI (nf + 1))])), (ei, .inl (cy 0, 60, .inl (upd Ff nf.toNat (iI pl)))), (n0, .inr (0, [.ref b0, .ref k0, .int (iI en)])), (b0, .inl (cy 0, 17, .inl (zI B))), (k0, .inl (cy 0, 17, .inl (zI Kf)))] H := hP
      have hD : va_D A [(si, .inr (3, [.ref li, .ref wi, .ref gi, .int (iI lr), .int (iI er), .int (iI (pl + (skX (B 0) Kf lr er nw.toNat Fw Fl pl (diffF nw.toNat Fw Fl pl)))), .int (iI (lk + 1)), .int (iI (cp + (nw - z_3)))])), (li, .inr (2, [.ref mi, .int (iI nl)])), (mi, .inl (cy 0, 60, .inl Fl)), (wi, .inr (2, [.ref vi, .int (iI nw)])), (vi, .inl (cy 0, 16, .inl Fw)), (gi, .inr (2, [.ref ei, .int (iI (nf + 1))])), (ei, .inl (cy 0, 60, .inl (upd Ff nf.toNat (iI pl)))), (n0, .inr (0, [.ref b0, .ref k0, .int (iI en)])), (b0, .inl (cy 0, 17, .inl (zI B))), (k0, .inl (cy 0, 17, .inl (zI Kf)))] := hD
      refine lv_iload_n hx hb dX3_lookOnce_74 rfl (lv_at hl 0 rfl) ?_
      exact z_iret hx hb hr hlocks hS ((cp + (nw - z_3)), nf + 1, upd Ff nf.toNat (iI pl)) (show (iI (skX (B 0) Kf lr er nw.toNat Fw Fl pl (diffF nw.toNat Fw Fl pl))) = iI (skX (B 0) Kf lr er nw.toNat Fw Fl pl (diffF nw.toNat Fw Fl pl)) ∧ (cp + (nw - z_3)) = cp + (nw - max (diffF nw.toNat Fw Fl pl) 0) ∧ (((diffF nw.toNat Fw Fl pl) = -1 ∧ (nf + 1) = nf + 1 ∧ (upd Ff nf.toNat (iI pl)) = upd Ff nf.toNat (iI pl)) ∨ (¬ (diffF nw.toNat Fw Fl pl) = -1 ∧ (nf + 1) = nf ∧ (upd Ff nf.toNat (iI pl)) = Ff)) from (by first | exact ⟨rfl, by omega, Or.inl ⟨by omega, rfl, rfl⟩⟩ | exact ⟨rfl, by omega, Or.inr ⟨by omega, rfl, rfl⟩⟩)) hP dX3_lookOnce_75
    · --
      exfalso; omega
end
section
theorem dX3_lookToTheEnd_0 : decode cX3_lookToTheEnd 0 = .ok (.iconst 0, 1) := by decide +kernel
theorem dX3_lookToTheEnd_1 : decode cX3_lookToTheEnd 1 = .ok (.istore_n 2, 1) := by decide +kernel
theorem dX3_lookToTheEnd_2 : decode cX3_lookToTheEnd 2 = .ok (.iload_n 2, 1) := by decide +kernel
theorem dX3_lookToTheEnd_3 : decode cX3_lookToTheEnd 3 = .ok (.bipush 60, 2) := by decide +kernel
theorem dX3_lookToTheEnd_5 : decode cX3_lookToTheEnd 5 = .ok (.if_icmp .ge 22, 3) := by decide +kernel
theorem dX3_lookToTheEnd_8 : decode cX3_lookToTheEnd 8 = .ok (.aload_n 0, 1) := by decide +kernel
theorem dX3_lookToTheEnd_9 : decode cX3_lookToTheEnd 9 = .ok (.invokevirtual 67, 3) := by decide +kernel
theorem dX3_lookToTheEnd_12 : decode cX3_lookToTheEnd 12 = .ok (.ifCond .ne 15, 3) := by decide +kernel
theorem dX3_lookToTheEnd_15 : decode cX3_lookToTheEnd 15 = .ok (.aload_n 0, 1) := by decide +kernel
theorem dX3_lookToTheEnd_16 : decode cX3_lookToTheEnd 16 = .ok (.aload_n 1, 1) := by decide +kernel
theorem dX3_lookToTheEnd_17 : decode cX3_lookToTheEnd 17 = .ok (.invokevirtual 70, 3) := by decide +kernel
theorem dX3_lookToTheEnd_20 : decode cX3_lookToTheEnd 20 = .ok (.pop, 1) := by decide +kernel
theorem dX3_lookToTheEnd_21 : decode cX3_lookToTheEnd 21 = .ok (.iinc 2 1, 3) := by decide +kernel
theorem dX3_lookToTheEnd_24 : decode cX3_lookToTheEnd 24 = .ok (.goto (-22), 3) := by decide +kernel
theorem dX3_lookToTheEnd_27 : decode cX3_lookToTheEnd 27 = .ok (.iload_n 2, 1) := by decide +kernel
theorem dX3_lookToTheEnd_28 : decode cX3_lookToTheEnd 28 = .ok (.ireturn, 1) := by decide +kernel
set_option maxRecDepth 20000 in
theorem ggX3_lookToTheEnd_X3_hasEnded : GoodIn wsX3_lookToTheEnd wsX3_hasEnded := goodIn_r _ [5, 6, 7, 8, 9, 10, 11, 12, 13, 14, 15, 16, 4, 17, 18, 19, 20, 21, 22, 23, 24, 25, 26, 77, 78, 79, 80, 81, 82, 83, 84, 85, 86] (by decide +kernel) (by decide +kernel)
set_option maxRecDepth 20000 in
theorem gX3_lookToTheEnd_X3_hasEnded : GoodIn wsX3_lookToTheEnd (wsV RX3 67 RX3 yX3_hasEnded wsX3_hasEnded) := goodIn_app (goodIn_of _ (by decide +kernel)) ggX3_lookToTheEnd_X3_hasEnded
set_option maxRecDepth 20000 in
theorem ggX3_lookToTheEnd_X3_lookOnce : GoodIn wsX3_lookToTheEnd wsX3_lookOnce := goodIn_r _ [30, 7, 31, 32, 6, 19, 20, 21, 22, 33, 34, 35, 36, 4, 37, 18, 23, 24, 25, 11, 26, 13, 38, 39, 40, 41, 42, 43, 44, 45, 46, 47, 48, 49, 50, 51, 52, 53, 54, 55, 56, 57, 58, 59, 60, 61, 62, 63, 64, 65, 66, 67, 68, 69, 70, 71, 72, 73, 74, 75, 76, 77, 78, 79, 80, 81, 82, 83, 84, 85, 86, 87, 88, 89] (by decide +kernel) (by decide +kernel)
set_option maxRecDepth 20000 in
theorem gX3_lookToTheEnd_X3_lookOnce : GoodIn wsX3_lookToTheEnd (wsV RX3 70 RX3 yX3_lookOnce wsX3_lookOnce) := goodIn_app (goodIn_of _ (by decide +kernel)) ggX3_lookToTheEnd_X3_lookOnce
theorem dX0_borderThatGrows_0 : decode cX0_borderThatGrows 0 = .ok (.iload_n 3, 1) := by decide +kernel
theorem dX0_borderThatGrows_1 : decode cX0_borderThatGrows 1 = .ok (.istore 4, 2) := by decide +kernel
theorem dX0_borderThatGrows_3 : decode cX0_borderThatGrows 3 = .ok (.iconst 0, 1) := by decide +kernel
theorem dX0_borderThatGrows_4 : decode cX0_borderThatGrows 4 = .ok (.istore 5, 2) := by decide +kernel
theorem dX0_borderThatGrows_6 : decode cX0_borderThatGrows 6 = .ok (.iload 5, 2) := by decide +kernel
theorem dX0_borderThatGrows_8 : decode cX0_borderThatGrows 8 = .ok (.aload_n 0, 1) := by decide +kernel
theorem dX0_borderThatGrows_9 : decode cX0_borderThatGrows 9 = .ok (.getfield 30, 3) := by decide +kernel
theorem dX0_borderThatGrows_12 : decode cX0_borderThatGrows 12 = .ok (.if_icmp .gt 74, 3) := by decide +kernel
theorem dX0_borderThatGrows_15 : decode cX0_borderThatGrows 15 = .ok (.iload 4, 2) := by decide +kernel
theorem dX0_borderThatGrows_17 : decode cX0_borderThatGrows 17 = .ok (.ifCond .le 30, 3) := by decide +kernel
theorem dX0_borderThatGrows_20 : decode cX0_borderThatGrows 20 = .ok (.iload 4, 2) := by decide +kernel
theorem dX0_borderThatGrows_22 : decode cX0_borderThatGrows 22 = .ok (.aload_n 0, 1) := by decide +kernel
theorem dX0_borderThatGrows_23 : decode cX0_borderThatGrows 23 = .ok (.getfield 30, 3) := by decide +kernel
theorem dX0_borderThatGrows_26 : decode cX0_borderThatGrows 26 = .ok (.if_icmp .gt 21, 3) := by decide +kernel
theorem dX0_borderThatGrows_29 : decode cX0_borderThatGrows 29 = .ok (.aload_n 1, 1) := by decide +kernel
theorem dX0_borderThatGrows_30 : decode cX0_borderThatGrows 30 = .ok (.iload_n 2, 1) := by decide +kernel
theorem dX0_borderThatGrows_31 : decode cX0_borderThatGrows 31 = .ok (.iconst 1, 1) := by decide +kernel
theorem dX0_borderThatGrows_32 : decode cX0_borderThatGrows 32 = .ok (.isub, 1) := by decide +kernel
theorem dX0_borderThatGrows_33 : decode cX0_borderThatGrows 33 = .ok (.invokevirtual 45, 3) := by decide +kernel
theorem dX0_borderThatGrows_36 : decode cX0_borderThatGrows 36 = .ok (.aload_n 1, 1) := by decide +kernel
theorem dX0_borderThatGrows_37 : decode cX0_borderThatGrows 37 = .ok (.iload 4, 2) := by decide +kernel
theorem dX0_borderThatGrows_39 : decode cX0_borderThatGrows 39 = .ok (.iconst 1, 1) := by decide +kernel
theorem dX0_borderThatGrows_40 : decode cX0_borderThatGrows 40 = .ok (.isub, 1) := by decide +kernel
theorem dX0_borderThatGrows_41 : decode cX0_borderThatGrows 41 = .ok (.invokevirtual 45, 3) := by decide +kernel
theorem dX0_borderThatGrows_44 : decode cX0_borderThatGrows 44 = .ok (.if_icmp .ne 6, 3) := by decide +kernel
theorem dX0_borderThatGrows_47 : decode cX0_borderThatGrows 47 = .ok (.iload 4, 2) := by decide +kernel
theorem dX0_borderThatGrows_49 : decode cX0_borderThatGrows 49 = .ok (.ireturn, 1) := by decide +kernel
theorem dX0_borderThatGrows_50 : decode cX0_borderThatGrows 50 = .ok (.aload_n 0, 1) := by decide +kernel
theorem dX0_borderThatGrows_51 : decode cX0_borderThatGrows 51 = .ok (.getfield 15, 3) := by decide +kernel
theorem dX0_borderThatGrows_54 : decode cX0_borderThatGrows 54 = .ok (.iload 4, 2) := by decide +kernel
theorem dX0_borderThatGrows_56 : decode cX0_borderThatGrows 56 = .ok (.iaload, 1) := by decide +kernel
theorem dX0_borderThatGrows_57 : decode cX0_borderThatGrows 57 = .ok (.ifCond .ne 14, 3) := by decide +kernel
theorem dX0_borderThatGrows_60 : decode cX0_borderThatGrows 60 = .ok (.aload_n 0, 1) := by decide +kernel
theorem dX0_borderThatGrows_61 : decode cX0_borderThatGrows 61 = .ok (.getfield 15, 3) := by decide +kernel
theorem dX0_borderThatGrows_64 : decode cX0_borderThatGrows 64 = .ok (.iload 4, 2) := by decide +kernel
theorem dX0_borderThatGrows_66 : decode cX0_borderThatGrows 66 = .ok (.iload 4, 2) := by decide +kernel
theorem dX0_borderThatGrows_68 : decode cX0_borderThatGrows 68 = .ok (.iload_n 2, 1) := by decide +kernel
theorem dX0_borderThatGrows_69 : decode cX0_borderThatGrows 69 = .ok (.isub, 1) := by decide +kernel
theorem dX0_borderThatGrows_70 : decode cX0_borderThatGrows 70 = .ok (.iastore, 1) := by decide +kernel
theorem dX0_borderThatGrows_71 : decode cX0_borderThatGrows 71 = .ok (.aload_n 0, 1) := by decide +kernel
theorem dX0_borderThatGrows_72 : decode cX0_borderThatGrows 72 = .ok (.getfield 9, 3) := by decide +kernel
theorem dX0_borderThatGrows_75 : decode cX0_borderThatGrows 75 = .ok (.iload 4, 2) := by decide +kernel
theorem dX0_borderThatGrows_77 : decode cX0_borderThatGrows 77 = .ok (.iaload, 1) := by decide +kernel
theorem dX0_borderThatGrows_78 : decode cX0_borderThatGrows 78 = .ok (.istore 4, 2) := by decide +kernel
theorem dX0_borderThatGrows_80 : decode cX0_borderThatGrows 80 = .ok (.iinc 5 1, 3) := by decide +kernel
theorem dX0_borderThatGrows_83 : decode cX0_borderThatGrows 83 = .ok (.goto (-77), 3) := by decide +kernel
theorem dX0_borderThatGrows_86 : decode cX0_borderThatGrows 86 = .ok (.iload 4, 2) := by decide +kernel
theorem dX0_borderThatGrows_88 : decode cX0_borderThatGrows 88 = .ok (.ireturn, 1) := by decide +kernel
set_option maxRecDepth 20000 in
theorem ggX0_borderThatGrows_X2_at : GoodIn wsX0_borderThatGrows wsX2_at := goodIn_r _ [8, 9, 10, 11, 12, 7, 13, 14, 18, 19] (by decide +kernel) (by decide +kernel)
set_option maxRecDepth 20000 in
theorem gX0_borderThatGrows_X2_at : GoodIn wsX0_borderThatGrows (wsV RX0 45 RX2 yX2_at wsX2_at) := goodIn_app (goodIn_of _ (by decide +kernel)) ggX0_borderThatGrows_X2_at
theorem dX0_findBorders_0 : decode cX0_findBorders 0 = .ok (.aload_n 0, 1) := by decide +kernel
theorem dX0_findBorders_1 : decode cX0_findBorders 1 = .ok (.getfield 30, 3) := by decide +kernel
theorem dX0_findBorders_4 : decode cX0_findBorders 4 = .ok (.iconst 1, 1) := by decide +kernel
theorem dX0_findBorders_5 : decode cX0_findBorders 5 = .ok (.iadd, 1) := by decide +kernel
theorem dX0_findBorders_6 : decode cX0_findBorders 6 = .ok (.istore_n 2, 1) := by decide +kernel
theorem dX0_findBorders_7 : decode cX0_findBorders 7 = .ok (.aload_n 0, 1) := by decide +kernel
theorem dX0_findBorders_8 : decode cX0_findBorders 8 = .ok (.getfield 9, 3) := by decide +kernel
theorem dX0_findBorders_11 : decode cX0_findBorders 11 = .ok (.aload_n 0, 1) := by decide +kernel
theorem dX0_findBorders_12 : decode cX0_findBorders 12 = .ok (.getfield 30, 3) := by decide +kernel
theorem dX0_findBorders_15 : decode cX0_findBorders 15 = .ok (.iload_n 2, 1) := by decide +kernel
theorem dX0_findBorders_16 : decode cX0_findBorders 16 = .ok (.iastore, 1) := by decide +kernel
theorem dX0_findBorders_17 : decode cX0_findBorders 17 = .ok (.aload_n 0, 1) := by decide +kernel
theorem dX0_findBorders_18 : decode cX0_findBorders 18 = .ok (.getfield 30, 3) := by decide +kernel
theorem dX0_findBorders_21 : decode cX0_findBorders 21 = .ok (.istore_n 3, 1) := by decide +kernel
theorem dX0_findBorders_22 : decode cX0_findBorders 22 = .ok (.iload_n 3, 1) := by decide +kernel
theorem dX0_findBorders_23 : decode cX0_findBorders 23 = .ok (.ifCond .le 28, 3) := by decide +kernel
theorem dX0_findBorders_26 : decode cX0_findBorders 26 = .ok (.aload_n 0, 1) := by decide +kernel
theorem dX0_findBorders_27 : decode cX0_findBorders 27 = .ok (.aload_n 1, 1) := by decide +kernel
theorem dX0_findBorders_28 : decode cX0_findBorders 28 = .ok (.iload_n 3, 1) := by decide +kernel
theorem dX0_findBorders_29 : decode cX0_findBorders 29 = .ok (.iload_n 2, 1) := by decide +kernel
theorem dX0_findBorders_30 : decode cX0_findBorders 30 = .ok (.invokevirtual 41, 3) := by decide +kernel
theorem dX0_findBorders_33 : decode cX0_findBorders 33 = .ok (.iconst 1, 1) := by decide +kernel
theorem dX0_findBorders_34 : decode cX0_findBorders 34 = .ok (.isub, 1) := by decide +kernel
theorem dX0_findBorders_35 : decode cX0_findBorders 35 = .ok (.istore_n 2, 1) := by decide +kernel
theorem dX0_findBorders_36 : decode cX0_findBorders 36 = .ok (.aload_n 0, 1) := by decide +kernel
theorem dX0_findBorders_37 : decode cX0_findBorders 37 = .ok (.getfield 9, 3) := by decide +kernel
theorem dX0_findBorders_40 : decode cX0_findBorders 40 = .ok (.iload_n 3, 1) := by decide +kernel
theorem dX0_findBorders_41 : decode cX0_findBorders 41 = .ok (.iconst 1, 1) := by decide +kernel
theorem dX0_findBorders_42 : decode cX0_findBorders 42 = .ok (.isub, 1) := by decide +kernel
theorem dX0_findBorders_43 : decode cX0_findBorders 43 = .ok (.iload_n 2, 1) := by decide +kernel
theorem dX0_findBorders_44 : decode cX0_findBorders 44 = .ok (.iastore, 1) := by decide +kernel
theorem dX0_findBorders_45 : decode cX0_findBorders 45 = .ok (.iinc 3 (-1), 3) := by decide +kernel
theorem dX0_findBorders_48 : decode cX0_findBorders 48 = .ok (.goto (-26), 3) := by decide +kernel
theorem dX0_findBorders_51 : decode cX0_findBorders 51 = .ok (.return_, 1) := by decide +kernel
set_option maxRecDepth 20000 in
theorem ggX0_findBorders_X0_borderThatGrows : GoodIn wsX0_findBorders wsX0_borderThatGrows := goodIn_r _ [7, 1, 8, 2, 9, 10, 11, 12, 13, 14, 15, 16, 17, 18, 19, 20, 21, 22, 23, 24] (by decide +kernel) (by decide +kernel)
set_option maxRecDepth 20000 in
theorem gX0_findBorders_X0_borderThatGrows : GoodIn wsX0_findBorders (wsV RX0 41 RX0 yX0_borderThatGrows wsX0_borderThatGrows) := goodIn_app (goodIn_of _ (by decide +kernel)) ggX0_findBorders_X0_borderThatGrows
theorem dX0_skipToBordersOfTheWord_0 : decode cX0_skipToBordersOfTheWord 0 = .ok (.aload_n 0, 1) := by decide +kernel
theorem dX0_skipToBordersOfTheWord_1 : decode cX0_skipToBordersOfTheWord 1 = .ok (.getfield 9, 3) := by decide +kernel
theorem dX0_skipToBordersOfTheWord_4 : decode cX0_skipToBordersOfTheWord 4 = .ok (.iconst 0, 1) := by decide +kernel
theorem dX0_skipToBordersOfTheWord_5 : decode cX0_skipToBordersOfTheWord 5 = .ok (.iaload, 1) := by decide +kernel
theorem dX0_skipToBordersOfTheWord_6 : decode cX0_skipToBordersOfTheWord 6 = .ok (.istore_n 1, 1) := by decide +kernel
theorem dX0_skipToBordersOfTheWord_7 : decode cX0_skipToBordersOfTheWord 7 = .ok (.iconst 0, 1) := by decide +kernel
theorem dX0_skipToBordersOfTheWord_8 : decode cX0_skipToBordersOfTheWord 8 = .ok (.istore_n 2, 1) := by decide +kernel
theorem dX0_skipToBordersOfTheWord_9 : decode cX0_skipToBordersOfTheWord 9 = .ok (.iload_n 2, 1) := by decide +kernel
theorem dX0_skipToBordersOfTheWord_10 : decode cX0_skipToBordersOfTheWord 10 = .ok (.aload_n 0, 1) := by decide +kernel
theorem dX0_skipToBordersOfTheWord_11 : decode cX0_skipToBordersOfTheWord 11 = .ok (.getfield 30, 3) := by decide +kernel
theorem dX0_skipToBordersOfTheWord_14 : decode cX0_skipToBordersOfTheWord 14 = .ok (.if_icmp .gt 37, 3) := by decide +kernel
theorem dX0_skipToBordersOfTheWord_17 : decode cX0_skipToBordersOfTheWord 17 = .ok (.aload_n 0, 1) := by decide +kernel
theorem dX0_skipToBordersOfTheWord_18 : decode cX0_skipToBordersOfTheWord 18 = .ok (.getfield 15, 3) := by decide +kernel
theorem dX0_skipToBordersOfTheWord_21 : decode cX0_skipToBordersOfTheWord 21 = .ok (.iload_n 2, 1) := by decide +kernel
theorem dX0_skipToBordersOfTheWord_22 : decode cX0_skipToBordersOfTheWord 22 = .ok (.iaload, 1) := by decide +kernel
theorem dX0_skipToBordersOfTheWord_23 : decode cX0_skipToBordersOfTheWord 23 = .ok (.ifCond .ne 10, 3) := by decide +kernel
theorem dX0_skipToBordersOfTheWord_26 : decode cX0_skipToBordersOfTheWord 26 = .ok (.aload_n 0, 1) := by decide +kernel
theorem dX0_skipToBordersOfTheWord_27 : decode cX0_skipToBordersOfTheWord 27 = .ok (.getfield 15, 3) := by decide +kernel
theorem dX0_skipToBordersOfTheWord_30 : decode cX0_skipToBordersOfTheWord 30 = .ok (.iload_n 2, 1) := by decide +kernel
theorem dX0_skipToBordersOfTheWord_31 : decode cX0_skipToBordersOfTheWord 31 = .ok (.iload_n 1, 1) := by decide +kernel
theorem dX0_skipToBordersOfTheWord_32 : decode cX0_skipToBordersOfTheWord 32 = .ok (.iastore, 1) := by decide +kernel
theorem dX0_skipToBordersOfTheWord_33 : decode cX0_skipToBordersOfTheWord 33 = .ok (.iload_n 2, 1) := by decide +kernel
theorem dX0_skipToBordersOfTheWord_34 : decode cX0_skipToBordersOfTheWord 34 = .ok (.iload_n 1, 1) := by decide +kernel
theorem dX0_skipToBordersOfTheWord_35 : decode cX0_skipToBordersOfTheWord 35 = .ok (.if_icmp .ne 10, 3) := by decide +kernel
theorem dX0_skipToBordersOfTheWord_38 : decode cX0_skipToBordersOfTheWord 38 = .ok (.aload_n 0, 1) := by decide +kernel
theorem dX0_skipToBordersOfTheWord_39 : decode cX0_skipToBordersOfTheWord 39 = .ok (.getfield 9, 3) := by decide +kernel
theorem dX0_skipToBordersOfTheWord_42 : decode cX0_skipToBordersOfTheWord 42 = .ok (.iload_n 2, 1) := by decide +kernel
theorem dX0_skipToBordersOfTheWord_43 : decode cX0_skipToBordersOfTheWord 43 = .ok (.iaload, 1) := by decide +kernel
theorem dX0_skipToBordersOfTheWord_44 : decode cX0_skipToBordersOfTheWord 44 = .ok (.istore_n 1, 1) := by decide +kernel
theorem dX0_skipToBordersOfTheWord_45 : decode cX0_skipToBordersOfTheWord 45 = .ok (.iinc 2 1, 3) := by decide +kernel
theorem dX0_skipToBordersOfTheWord_48 : decode cX0_skipToBordersOfTheWord 48 = .ok (.goto (-39), 3) := by decide +kernel
theorem dX0_skipToBordersOfTheWord_51 : decode cX0_skipToBordersOfTheWord 51 = .ok (.return_, 1) := by decide +kernel
theorem dX0_study_0 : decode cX0_study 0 = .ok (.aload_n 0, 1) := by decide +kernel
theorem dX0_study_1 : decode cX0_study 1 = .ok (.aload_n 1, 1) := by decide +kernel
theorem dX0_study_2 : decode cX0_study 2 = .ok (.invokevirtual 18, 3) := by decide +kernel
theorem dX0_study_5 : decode cX0_study 5 = .ok (.bipush 16, 2) := by decide +kernel
theorem dX0_study_7 : decode cX0_study 7 = .ok (.invokestatic 24, 3) := by decide +kernel
theorem dX0_study_10 : decode cX0_study 10 = .ok (.putfield 30, 3) := by decide +kernel
theorem dX0_study_13 : decode cX0_study 13 = .ok (.iconst 0, 1) := by decide +kernel
theorem dX0_study_14 : decode cX0_study 14 = .ok (.istore_n 2, 1) := by decide +kernel
theorem dX0_study_15 : decode cX0_study 15 = .ok (.iload_n 2, 1) := by decide +kernel
theorem dX0_study_16 : decode cX0_study 16 = .ok (.aload_n 0, 1) := by decide +kernel
theorem dX0_study_17 : decode cX0_study 17 = .ok (.getfield 30, 3) := by decide +kernel
theorem dX0_study_20 : decode cX0_study 20 = .ok (.if_icmp .gt 16, 3) := by decide +kernel
theorem dX0_study_23 : decode cX0_study 23 = .ok (.aload_n 0, 1) := by decide +kernel
theorem dX0_study_24 : decode cX0_study 24 = .ok (.getfield 15, 3) := by decide +kernel
theorem dX0_study_27 : decode cX0_study 27 = .ok (.iload_n 2, 1) := by decide +kernel
theorem dX0_study_28 : decode cX0_study 28 = .ok (.iconst 0, 1) := by decide +kernel
theorem dX0_study_29 : decode cX0_study 29 = .ok (.iastore, 1) := by decide +kernel
theorem dX0_study_30 : decode cX0_study 30 = .ok (.iinc 2 1, 3) := by decide +kernel
theorem dX0_study_33 : decode cX0_study 33 = .ok (.goto (-18), 3) := by decide +kernel
theorem dX0_study_36 : decode cX0_study 36 = .ok (.aload_n 0, 1) := by decide +kernel
theorem dX0_study_37 : decode cX0_study 37 = .ok (.aload_n 1, 1) := by decide +kernel
theorem dX0_study_38 : decode cX0_study 38 = .ok (.invokevirtual 34, 3) := by decide +kernel
theorem dX0_study_41 : decode cX0_study 41 = .ok (.aload_n 0, 1) := by decide +kernel
theorem dX0_study_42 : decode cX0_study 42 = .ok (.invokevirtual 38, 3) := by decide +kernel
theorem dX0_study_45 : decode cX0_study 45 = .ok (.return_, 1) := by decide +kernel
set_option maxRecDepth 20000 in
theorem ggX0_study_X2_size : GoodIn wsX0_study wsX2_size := goodIn_r _ [11, 12, 39, 40] (by decide +kernel) (by decide +kernel)
set_option maxRecDepth 20000 in
theorem gX0_study_X2_size : GoodIn wsX0_study (wsV RX0 18 RX2 yX2_size wsX2_size) := goodIn_app (goodIn_of _ (by decide +kernel)) ggX0_study_X2_size
set_option maxRecDepth 20000 in
theorem ggX0_study_X0_findBorders : GoodIn wsX0_study wsX0_findBorders := goodIn_r _ [17, 5, 18, 19, 20, 21, 16, 22, 6, 23, 24, 25, 10, 26, 27, 28, 29, 30, 31, 12, 36, 37, 38, 39, 40] (by decide +kernel) (by decide +kernel)
set_option maxRecDepth 20000 in
theorem gX0_study_X0_findBorders : GoodIn wsX0_study (wsV RX0 34 RX0 yX0_findBorders wsX0_findBorders) := goodIn_app (goodIn_of _ (by decide +kernel)) ggX0_study_X0_findBorders
set_option maxRecDepth 20000 in
theorem ggX0_study_X0_skipToBordersOfTheWord : GoodIn wsX0_study wsX0_skipToBordersOfTheWord := goodIn_r _ [35, 18, 5, 6, 36, 37, 38] (by decide +kernel) (by decide +kernel)
set_option maxRecDepth 20000 in
theorem gX0_study_X0_skipToBordersOfTheWord : GoodIn wsX0_study (wsV RX0 38 RX0 yX0_skipToBordersOfTheWord wsX0_skipToBordersOfTheWord) := goodIn_app (goodIn_of _ (by decide +kernel)) ggX0_study_X0_skipToBordersOfTheWord
theorem study_eq {nw : Int} {W : Nat → Int32} {B K : Nat → Int} (h : 0 ≤ nw) : (findF nw.toNat W nw.toNat (nw + 1) (updZ B nw.toNat (nw + 1)) (zF (nw + 1) K)).1 = studyB nw.toNat W B K ∧ tailF (findF nw.toNat W nw.toNat (nw + 1) (updZ B nw.toNat (nw + 1)) (zF (nw + 1) K)).1 (nw + 1).toNat 0 ((findF nw.toNat W nw.toNat (nw + 1) (updZ B nw.toNat (nw + 1)) (zF (nw + 1) K)).1 0) (findF nw.toNat W nw.toNat (nw + 1) (updZ B nw.toNat (nw + 1)) (zF (nw + 1) K)).2 = studyK nw.toNat W B K := by
  have h1 : ((nw.toNat : Nat) : Int) = nw := by omega
  have h2 : (nw + 1).toNat = nw.toNat + 1 := by omega
  unfold studyK studyB
  rw [h1, h2]
  exact ⟨rfl, rfl⟩
theorem grow_step {en e b t : Int} {W : Nat → Int32} {B K K3 : Nat → Int} {G : Int × (Nat → Int)} (ht : t ≤ en) (h0 : 0 < b) (h1 : b ≤ en) (h2 : ¬ W (e - 1).toNat = W (b - 1).toNat) (hg : growF en W B e (en + 1 - t).toNat b K = G) (h3 : (if K b.toNat = 0 then updZ K b.toNat (b - e) else K) = K3) : growF en W B e (en + 1 - (t + 1)).toNat (B b.toNat) K3 = G := by
  have h4 : ¬ (b ≤ 0 ∨ en < b ∨ W (e - 1).toNat = W (b - 1).toNat) := by
    rintro (h | h | h)
    · omega
    · omega
    · exact h2 h
  have h5 : (en + 1 - t).toNat = (en + 1 - (t + 1)).toNat + 1 := by omega
  rw [← hg, h5, growF_go h4, h3]

set_option maxHeartbeats 4000000 in
set_option maxRecDepth 100000 in
theorem c_X3_lookToTheEnd (l : Launch) (D : va_G) (cy : Nat → ClassId) (si : Nat) (li : Nat) (mi : Nat) (wi : Nat) (vi : Nat) (gi : Nat) (ei : Nat) (nl : Int) (Fl : Nat → Int32) (nw : Int) (Fw : Nat → Int32) (nf : Int) (Ff : Nat → Int32) (lr : Int) (er : Int) (pl : Int) (lk : Int) (cp : Int) (n0 : Nat) (b0 : Nat) (k0 : Nat) (en : Int) (B : Nat → Int) (Kf : Nat → Int) (fo : List Int32) (hb : 0 ≤ nl ∧ nl ≤ 60 ∧ 0 ≤ nw ∧ nw ≤ 16 ∧ 0 ≤ nf ∧ nf ≤ pl ∧ pl ≤ 100 ∧ nf ≤ 60 ∧ 0 ≤ lk ∧ lk ≤ pl ∧ 0 ≤ cp ∧ cp ≤ 16 * lk ∧ 0 ≤ lr ∧ lr ≤ 1 ∧ 0 ≤ er ∧ er ≤ 1) (he : en = nw) (hk : ∀ j : Nat, 0 ≤ Kf j ∧ Kf j ≤ 17) (hB : 0 ≤ B 0 ∧ B 0 ≤ 17 ∧ (0 < nw → 1 ≤ B 0)) (hrep : Rep nf Ff fo) : Ci l D cy yX3_lookToTheEnd wsX3_lookToTheEnd 4 90 [.ref si, .ref n0] [(si, .inr (3, [.ref li, .ref wi, .ref gi, .int (iI lr), .int (iI er), .int (iI pl), .int (iI lk), .int (iI cp)])), (li, .inr (2, [.ref mi, .int (iI nl)])), (mi, .inl (cy 0, 60, .inl Fl)), (wi, .inr (2, [.ref vi, .int (iI nw)])), (vi, .inl (cy 0, 16, .inl Fw)), (gi, .inr (2, [.ref ei, .int (iI nf)])), (ei, .inl (cy 0, 60, .inl Ff)), (n0, .inr (0, [.ref b0, .ref k0, .int (iI en)])), (b0, .inl (cy 0, 17, .inl (zI B))), (k0, .inl (cy 0, 17, .inl (zI Kf)))] (fun (r : Int32) (u : Int × Int × Int × Int × (Nat → Int32)) => r = iI (runS nl.toNat nw.toNat Fw Fl (skX (B 0) Kf lr er nw.toNat Fw Fl) 60 (pl, lk, cp, fo)).2 ∧ u.1 = (runS nl.toNat nw.toNat Fw Fl (skX (B 0) Kf lr er nw.toNat Fw Fl) 60 (pl, lk, cp, fo)).1.1 ∧ u.2.1 = (runS nl.toNat nw.toNat Fw Fl (skX (B 0) Kf lr er nw.toNat Fw Fl) 60 (pl, lk, cp, fo)).1.2.1 ∧ u.2.2.1 = (runS nl.toNat nw.toNat Fw Fl (skX (B 0) Kf lr er nw.toNat Fw Fl) 60 (pl, lk, cp, fo)).1.2.2.1 ∧ Rep u.2.2.2.1 u.2.2.2.2 (runS nl.toNat nw.toNat Fw Fl (skX (B 0) Kf lr er nw.toNat Fw Fl) 60 (pl, lk, cp, fo)).1.2.2.2 ∧ (0 ≤ nl ∧ nl ≤ 60 ∧ 0 ≤ nw ∧ nw ≤ 16 ∧ 0 ≤ u.2.2.2.1 ∧ u.2.2.2.1 ≤ u.1 ∧ u.1 ≤ 100 ∧ u.2.2.2.1 ≤ 60 ∧ 0 ≤ u.2.1 ∧ u.2.1 ≤ u.1 ∧ 0 ≤ u.2.2.1 ∧ u.2.2.1 ≤ 16 * u.2.1 ∧ 0 ≤ lr ∧ lr ≤ 1 ∧ 0 ≤ er ∧ er ≤ 1)) (fun u : Int × Int × Int × Int × (Nat → Int32) => [(si, .inr (3, [.ref li, .ref wi, .ref gi, .int (iI lr), .int (iI er), .int (iI u.1), .int (iI u.2.1), .int (iI u.2.2.1)])), (li, .inr (2, [.ref mi, .int (iI nl)])), (mi, .inl (cy 0, 60, .inl Fl)), (wi, .inr (2, [.ref vi, .int (iI nw)])), (vi, .inl (cy 0, 16, .inl Fw)), (gi, .inr (2, [.ref ei, .int (iI u.2.2.2.1)])), (ei, .inl (cy 0, 60, .inl u.2.2.2.2)), (n0, .inr (0, [.ref b0, .ref k0, .int (iI en)])), (b0, .inl (cy 0, 17, .inl (zI B))), (k0, .inl (cy 0, 17, .inl (zI Kf)))]) := by
  refine Ci_of (cc := cX3_lookToTheEnd) (maxL := 3) (ret := (some .int)) (by decide) rfl rfl ?_
  intro p e s m args below meth c A hx hb hr hts hown hlocks hml hP hK hD hT hA ls hl
  have hS : va_S A s.heap s.heap [] := va_S.rf
  have hl : lv_has ls 3 [(0, .ref si), (1, .ref n0)] := hl
  refine lv_iconst (v := iI 0) hx hb dX3_lookToTheEnd_0 rfl ?_
  refine lv_istore_n (lv' := [(2, .int (iI 0)), (0, .ref si), (1, .ref n0)]) hx hb dX3_lookToTheEnd_1 rfl hl (by decide) rfl (fun ls hl => ?_)
  have hloop1 : ∀ (n1 : Nat) (i : Int) (pl2 : Int) (lk2 : Int) (cp2 : Int) (nf2 : Int) (Ff2 : Nat → Int32) (fo2 : List Int32) (hi : 0 ≤ i ∧ i ≤ 60) (hb2 : 0 ≤ nl ∧ nl ≤ 60 ∧ 0 ≤ nw ∧ nw ≤ 16 ∧ 0 ≤ nf2 ∧ nf2 ≤ pl2 ∧ pl2 ≤ 100 ∧ nf2 ≤ 60 ∧ 0 ≤ lk2 ∧ lk2 ≤ pl2 ∧ 0 ≤ cp2 ∧ cp2 ≤ 16 * lk2 ∧ 0 ≤ lr ∧ lr ≤ 1 ∧ 0 ≤ er ∧ er ≤ 1) (hrep2 : Rep nf2 Ff2 fo2) (hrun : (runS nl.toNat nw.toNat Fw Fl (skX (B 0) Kf lr er nw.toNat Fw Fl) (60 - i).toNat (pl2, lk2, cp2, fo2)).1 = (runS nl.toNat nw.toNat Fw Fl (skX (B 0) Kf lr er nw.toNat Fw Fl) 60 (pl, lk, cp, fo)).1 ∧ i + (runS nl.toNat nw.toNat Fw Fl (skX (B 0) Kf lr er nw.toNat Fw Fl) (60 - i).toNat (pl2, lk2, cp2, fo2)).2 = (runS nl.toNat nw.toNat Fw Fl (skX (B 0) Kf lr er nw.toNat Fw Fl) 60 (pl, lk, cp, fo)).2) (hm : 60 - i < (n1 : Int)) (H : Heap) (locs : List Loc) (ls : Array Slot) (hP : va_P D vwCl [(si, .inr (3, [.ref li, .ref wi, .ref gi, .int (iI lr), .int (iI er), .int (iI pl2), .int (iI lk2), .int (iI cp2)])), (li, .inr (2, [.ref mi, .int (iI nl)])), (mi, .inl (cy 0, 60, .inl Fl)), (wi, .inr (2, [.ref vi, .int (iI nw)])), (vi, .inl (cy 0, 16, .inl Fw)), (gi, .inr (2, [.ref ei, .int (iI nf2)])), (ei, .inl (cy 0, 60, .inl Ff2)), (n0, .inr (0, [.ref b0, .ref k0, .int (iI en)])), (b0, .inl (cy 0, 17, .inl (zI B))), (k0, .inl (cy 0, 17, .inl (zI Kf)))] H) (hD : va_D A [(si, .inr (3, [.ref li, .ref wi, .ref gi, .int (iI lr), .int (iI er), .int (iI pl2), .int (iI lk2), .int (iI cp2)])), (li, .inr (2, [.ref mi, .int (iI nl)])), (mi, .inl (cy 0, 60, .inl Fl)), (wi, .inr (2, [.ref vi, .int (iI nw)])), (vi, .inl (cy 0, 16, .inl Fw)), (gi, .inr (2, [.ref ei, .int (iI nf2)])), (ei, .inl (cy 0, 60, .inl Ff2)), (n0, .inr (0, [.ref b0, .ref k0, .int (iI en)])), (b0, .inl (cy 0, 17, .inl (zI B))), (k0, .inl (cy 0, 17, .inl (zI Kf)))]) (hS : va_S A s.heap H locs) (hl : lv_has ls 3 [(2, .int (iI i)), (0, .ref si), (1, .ref n0)]), W p l e ({ frames := 4, cells := 0, slots := 0, locals := 90 } : Room) s m args below meth c H locs 0 0 (MQ below (va_Qi (fun (r : Int32) (u : Int × Int × Int × Int × (Nat → Int32)) => r = iI (runS nl.toNat nw.toNat Fw Fl (skX (B 0) Kf lr er nw.toNat Fw Fl) 60 (pl, lk, cp, fo)).2 ∧ u.1 = (runS nl.toNat nw.toNat Fw Fl (skX (B 0) Kf lr er nw.toNat Fw Fl) 60 (pl, lk, cp, fo)).1.1 ∧ u.2.1 = (runS nl.toNat nw.toNat Fw Fl (skX (B 0) Kf lr er nw.toNat Fw Fl) 60 (pl, lk, cp, fo)).1.2.1 ∧ u.2.2.1 = (runS nl.toNat nw.toNat Fw Fl (skX (B 0) Kf lr er nw.toNat Fw Fl) 60 (pl, lk, cp, fo)).1.2.2.1 ∧ Rep u.2.2.2.1 u.2.2.2.2 (runS nl.toNat nw.toNat Fw Fl (skX (B 0) Kf lr er nw.toNat Fw Fl) 60 (pl, lk, cp, fo)).1.2.2.2 ∧ (0 ≤ nl ∧ nl ≤ 60 ∧ 0 ≤ nw ∧ nw ≤ 16 ∧ 0 ≤ u.2.2.2.1 ∧ u.2.2.2.1 ≤ u.1 ∧ u.1 ≤ 100 ∧ u.2.2.2.1 ≤ 60 ∧ 0 ≤ u.2.1 ∧ u.2.1 ≤ u.1 ∧ 0 ≤ u.2.2.1 ∧ u.2.2.1 ≤ 16 * u.2.1 ∧ 0 ≤ lr ∧ lr ≤ 1 ∧ 0 ≤ er ∧ er ≤ 1)) (fun u t => va_P D vwCl ((fun u : Int × Int × Int × Int × (Nat → Int32) => [(si, .inr (3, [.ref li, .ref wi, .ref gi, .int (iI lr), .int (iI er), .int (iI u.1), .int (iI u.2.1), .int (iI u.2.2.1)])), (li, .inr (2, [.ref mi, .int (iI nl)])), (mi, .inl (cy 0, 60, .inl Fl)), (wi, .inr (2, [.ref vi, .int (iI nw)])), (vi, .inl (cy 0, 16, .inl Fw)), (gi, .inr (2, [.ref ei, .int (iI u.2.2.2.1)])), (ei, .inl (cy 0, 60, .inl u.2.2.2.2)), (n0, .inr (0, [.ref b0, .ref k0, .int (iI en)])), (b0, .inl (cy 0, 17, .inl (zI B))), (k0, .inl (cy 0, 17, .inl (zI Kf)))]) u) t.heap) A) args s 0 0 A) (F0 m 2 ls []) := by
    intro n1
    induction n1 with
    | zero =>
      intro i pl2 lk2 cp2 nf2 Ff2 fo2 hi hb2 hrep2 hrun hm; exact absurd hm (by omega)
    | succ n1 ih1 =>
      intro i pl2 lk2 cp2 nf2 Ff2 fo2 hi hb2 hrep2 hrun hm H locs ls hP hD hS hl
      refine lv_iload_n hx hb dX3_lookToTheEnd_2 rfl (lv_at hl 0 rfl) ?_
      refine lv_bipush (v := iI 60) hx hb dX3_lookToTheEnd_3 (by decide +kernel) ?_
      refine z_icmp_ge (tgt := 27) hx hb (iI_t (by omega) (by omega)) (iI_t (by omega) (by omega)) dX3_lookToTheEnd_5 (by decide) (fun c2 => ?_) (fun c2 => ?_)
      · --
        refine lv_iload_n hx hb dX3_lookToTheEnd_27 rfl (lv_at hl 0 rfl) ?_
        exact z_iret hx hb hr hlocks hS (pl2, lk2, cp2, nf2, Ff2) (show (iI i) = iI (runS nl.toNat nw.toNat Fw Fl (skX (B 0) Kf lr er nw.toNat Fw Fl) 60 (pl, lk, cp, fo)).2 ∧ pl2 = (runS nl.toNat nw.toNat Fw Fl (skX (B 0) Kf lr er nw.toNat Fw Fl) 60 (pl, lk, cp, fo)).1.1 ∧ lk2 = (runS nl.toNat nw.toNat Fw Fl (skX (B 0) Kf lr er nw.toNat Fw Fl) 60 (pl, lk, cp, fo)).1.2.1 ∧ cp2 = (runS nl.toNat nw.toNat Fw Fl (skX (B 0) Kf lr er nw.toNat Fw Fl) 60 (pl, lk, cp, fo)).1.2.2.1 ∧ Rep nf2 Ff2 (runS nl.toNat nw.toNat Fw Fl (skX (B 0) Kf lr er nw.toNat Fw Fl) 60 (pl, lk, cp, fo)).1.2.2.2 ∧ (0 ≤ nl ∧ nl ≤ 60 ∧ 0 ≤ nw ∧ nw ≤ 16 ∧ 0 ≤ nf2 ∧ nf2 ≤ pl2 ∧ pl2 ≤ 100 ∧ nf2 ≤ 60 ∧ 0 ≤ lk2 ∧ lk2 ≤ pl2 ∧ 0 ≤ cp2 ∧ cp2 ≤ 16 * lk2 ∧ 0 ≤ lr ∧ lr ≤ 1 ∧ 0 ≤ er ∧ er ≤ 1) from (by
      have hz : (runS nl.toNat nw.toNat Fw Fl (skX (B 0) Kf lr er nw.toNat Fw Fl) (60 - i).toNat (pl2, lk2, cp2, fo2)) = ((pl2, lk2, cp2, fo2), 0) := (by rw [show (60 - i).toNat = 0 by omega]; rfl)
      rw [hz] at hrun
      obtain ⟨h1, h2⟩ := hrun
      rw [← h1, ← h2]
      exact ⟨congrArg iI (by omega), rfl, rfl, rfl, hrep2, by omega⟩)) hP dX3_lookToTheEnd_28
      · --
        refine lv_aload_n hx hb dX3_lookToTheEnd_8 rfl (lv_at hl 1 rfl) ?_
        refine z_cVi (n := 0) (b := si) (As := []) (rest := []) ⟨hx, hb, hml, hown, hts⟩ (c_X3_hasEnded l D cy si li mi wi vi gi nl nw lr er pl2 lk2 cp2 (by omega)) gX3_lookToTheEnd_X3_hasEnded rfl (by decide +kernel) ⟨Nat.le_of_ble_eq_true rfl, Nat.le_of_ble_eq_true rfl⟩ hK hT hP hD hS hA [0, 1, 3] rfl rfl 0 3 rfl rfl rfl (fun _ => rfl) rfl hl.1 rfl (Nat.le_of_ble_eq_true rfl) dX3_lookToTheEnd_9 ⟨Nat.zero_le _, Nat.zero_le _⟩ (fun r_3 u_3 H locs hw_3 hP hD hS => ?_)
        have hw_3 : ((nw = 0 ∨ nl - nw + 1 ≤ pl2) ∧ r_3 = iI 1) ∨ (¬ (nw = 0 ∨ nl - nw + 1 ≤ pl2) ∧ r_3 = iI 0) := hw_3
        have hP : va_P D vwCl [(si, .inr (3, [.ref li, .ref wi, .ref gi, .int (iI lr), .int (iI er), .int (iI pl2), .int (iI lk2), .int (iI cp2)])), (li, .inr (2, [.ref mi, .int (iI nl)])), (mi, .inl (cy 0, 60, .inl Fl)), (wi, .inr (2, [.ref vi, .int (iI nw)])), (vi, .inl (cy 0, 16, .inl Fw)), (gi, .inr (2, [.ref ei, .int (iI nf2)])), (ei, .inl (cy 0, 60, .inl Ff2)), (n0, .inr (0, [.ref b0, .ref k0, .int (iI en)])), (b0, .inl (cy 0, 17, .inl (zI B))), (k0, .inl (cy 0, 17, .inl (zI Kf)))] H := hP
        have hD : va_D A [(si, .inr (3, [.ref li, .ref wi, .ref gi, .int (iI lr), .int (iI er), .int (iI pl2), .int (iI lk2), .int (iI cp2)])), (li, .inr (2, [.ref mi, .int (iI nl)])), (mi, .inl (cy 0, 60, .inl Fl)), (wi, .inr (2, [.ref vi, .int (iI nw)])), (vi, .inl (cy 0, 16, .inl Fw)), (gi, .inr (2, [.ref ei, .int (iI nf2)])), (ei, .inl (cy 0, 60, .inl Ff2)), (n0, .inr (0, [.ref b0, .ref k0, .int (iI en)])), (b0, .inl (cy 0, 17, .inl (zI B))), (k0, .inl (cy 0, 17, .inl (zI Kf)))] := hD
        rcases hw_3 with ⟨h_3, rfl⟩ | ⟨h_3, rfl⟩
        · --
          refine z_if_ne (tgt := 27) hx hb (iI_t (by omega) (by omega)) dX3_lookToTheEnd_12 (by decide) (fun _ => ?_) (fun c4 => absurd c4 (by omega))
          refine lv_iload_n hx hb dX3_lookToTheEnd_27 rfl (lv_at hl 0 rfl) ?_
          exact z_iret hx hb hr hlocks hS (pl2, lk2, cp2, nf2, Ff2) (show (iI i) = iI (runS nl.toNat nw.toNat Fw Fl (skX (B 0) Kf lr er nw.toNat Fw Fl) 60 (pl, lk, cp, fo)).2 ∧ pl2 = (runS nl.toNat nw.toNat Fw Fl (skX (B 0) Kf lr er nw.toNat Fw Fl) 60 (pl, lk, cp, fo)).1.1 ∧ lk2 = (runS nl.toNat nw.toNat Fw Fl (skX (B 0) Kf lr er nw.toNat Fw Fl) 60 (pl, lk, cp, fo)).1.2.1 ∧ cp2 = (runS nl.toNat nw.toNat Fw Fl (skX (B 0) Kf lr er nw.toNat Fw Fl) 60 (pl, lk, cp, fo)).1.2.2.1 ∧ Rep nf2 Ff2 (runS nl.toNat nw.toNat Fw Fl (skX (B 0) Kf lr er nw.toNat Fw Fl) 60 (pl, lk, cp, fo)).1.2.2.2 ∧ (0 ≤ nl ∧ nl ≤ 60 ∧ 0 ≤ nw ∧ nw ≤ 16 ∧ 0 ≤ nf2 ∧ nf2 ≤ pl2 ∧ pl2 ≤ 100 ∧ nf2 ≤ 60 ∧ 0 ≤ lk2 ∧ lk2 ≤ pl2 ∧ 0 ≤ cp2 ∧ cp2 ≤ 16 * lk2 ∧ 0 ≤ lr ∧ lr ≤ 1 ∧ 0 ≤ er ∧ er ≤ 1) from (by
      have hz : (runS nl.toNat nw.toNat Fw Fl (skX (B 0) Kf lr er nw.toNat Fw Fl) (60 - i).toNat (pl2, lk2, cp2, fo2)) = ((pl2, lk2, cp2, fo2), 0) := runS_over (by omega) _
      rw [hz] at hrun
      obtain ⟨h1, h2⟩ := hrun
      rw [← h1, ← h2]
      exact ⟨congrArg iI (by omega), rfl, rfl, rfl, hrep2, by omega⟩)) hP dX3_lookToTheEnd_28
        · --
          refine z_if_ne (tgt := 27) hx hb (iI_t (by omega) (by omega)) dX3_lookToTheEnd_12 (by decide) (fun c5 => absurd c5 (by omega)) (fun _ => ?_)
          refine lv_aload_n hx hb dX3_lookToTheEnd_15 rfl (lv_at hl 1 rfl) ?_
          refine lv_aload_n hx hb dX3_lookToTheEnd_16 rfl (lv_at hl 2 rfl) ?_
          refine z_cVi (n := 1) (b := si) (As := [.ref n0]) (rest := []) ⟨hx, hb, hml, hown, hts⟩ (c_X3_lookOnce l D cy si li mi wi vi gi ei nl Fl nw Fw nf2 Ff2 lr er pl2 lk2 cp2 n0 b0 k0 en B Kf (by omega) (by omega) (hk) (by omega)) gX3_lookToTheEnd_X3_lookOnce rfl (by decide +kernel) ⟨Nat.le_of_ble_eq_true rfl, Nat.le_of_ble_eq_true rfl⟩ hK hT hP hD hS hA [0, 1, 2, 3, 4, 5, 6, 7, 8, 9] rfl rfl 0 3 rfl rfl rfl (fun _ => rfl) rfl hl.1 rfl (Nat.le_of_ble_eq_true rfl) dX3_lookToTheEnd_17 ⟨Nat.zero_le _, Nat.zero_le _⟩ (fun r_6 u_6 H locs hw_6 hP hD hS => ?_)
          obtain ⟨cp1_6, nf1_6, Ff1_6⟩ := u_6
          have hw_6 : r_6 = iI (skX (B 0) Kf lr er nw.toNat Fw Fl pl2 (diffF nw.toNat Fw Fl pl2)) ∧ cp1_6 = cp2 + (nw - max (diffF nw.toNat Fw Fl pl2) 0) ∧ (((diffF nw.toNat Fw Fl pl2) = -1 ∧ nf1_6 = nf2 + 1 ∧ Ff1_6 = upd Ff2 nf2.toNat (iI pl2)) ∨ (¬ (diffF nw.toNat Fw Fl pl2) = -1 ∧ nf1_6 = nf2 ∧ Ff1_6 = Ff2)) := hw_6
          have hP : va_P D vwCl [(si, .inr (3, [.ref li, .ref wi, .ref gi, .int (iI lr), .int (iI er), .int (iI (pl2 + (skX (B 0) Kf lr er nw.toNat Fw Fl pl2 (diffF nw.toNat Fw Fl pl2)))), .int (iI (lk2 + 1)), .int (iI cp1_6)])), (li, .inr (2, [.ref mi, .int (iI nl)])), (mi, .inl (cy 0, 60, .inl Fl)), (wi, .inr (2, [.ref vi, .int (iI nw)])), (vi, .inl (cy 0, 16, .inl Fw)), (gi, .inr (2, [.ref ei, .int (iI nf1_6)])), (ei, .inl (cy 0, 60, .inl Ff1_6)), (n0, .inr (0, [.ref b0, .ref k0, .int (iI en)])), (b0, .inl (cy 0, 17, .inl (zI B))), (k0, .inl (cy 0, 17, .inl (zI Kf)))] H := hP
          have hD : va_D A [(si, .inr (3, [.ref li, .ref wi, .ref gi, .int (iI lr), .int (iI er), .int (iI (pl2 + (skX (B 0) Kf lr er nw.toNat Fw Fl pl2 (diffF nw.toNat Fw Fl pl2)))), .int (iI (lk2 + 1)), .int (iI cp1_6)])), (li, .inr (2, [.ref mi, .int (iI nl)])), (mi, .inl (cy 0, 60, .inl Fl)), (wi, .inr (2, [.ref vi, .int (iI nw)])), (vi, .inl (cy 0, 16, .inl Fw)), (gi, .inr (2, [.ref ei, .int (iI nf1_6)])), (ei, .inl (cy 0, 60, .inl Ff1_6)), (n0, .inr (0, [.ref b0, .ref k0, .int (iI en)])), (b0, .inl (cy 0, 17, .inl (zI B))), (k0, .inl (cy 0, 17, .inl (zI Kf)))] := hD
          obtain ⟨rfl, rfl, h_6⟩ := hw_6
          refine lv_pop hx hb dX3_lookToTheEnd_20 rfl ?_
          refine z_iinc (lv' := [(2, .int (iI (i + 1))), (0, .ref si), (1, .ref n0)]) hx hb dX3_lookToTheEnd_21 hl (k := 0) rfl (by decide) rfl (fun ls hl => ?_)
          refine lv_goto (tgt := 2) hx hb dX3_lookToTheEnd_24 (by decide) ?_
          have hdr := diffF_rng nw.toNat Fw Fl pl2
          have hsr := skX_rng (lr := lr) (er := er) (m := nw.toNat) (W := Fw) (L := Fl) (pl := pl2) (d := diffF nw.toNat Fw Fl pl2) (B0 := B 0) (Kf := Kf) (by omega) hk (by omega) (by omega) (by omega)
          have hsp := skX_pos (Kf := Kf) (lr := lr) (er := er) (m := nw.toNat) (W := Fw) (L := Fl) (pl := pl2) (d := diffF nw.toNat Fw Fl pl2) (B0 := B 0) (by omega) (by omega)
          exact ih1 (i + 1) (pl2 + (skX (B 0) Kf lr er nw.toNat Fw Fl pl2 (diffF nw.toNat Fw Fl pl2))) (lk2 + 1) (cp2 + (nw - max (diffF nw.toNat Fw Fl pl2) 0)) nf1_6 Ff1_6 (if (diffF nw.toNat Fw Fl pl2) = -1 then fo2 ++ [iI pl2] else fo2) (by omega) (by omega) (look_rep hrep2 (by assumption)) (run_step (by omega) (by omega) (by omega) (by omega) hrun) (by omega) _ _ _ hP hD hS (lv_sub hl [0, 1, 2] rfl)
  exact hloop1 (Int.toNat (60 - 0) + 1) 0 pl lk cp nf Ff fo (by omega) (by omega) (hrep) (⟨rfl, by rw [Int.zero_add]; rfl⟩) (by omega) _ _ _ hP hD hS (lv_sub hl [0, 1, 2] rfl)
set_option maxHeartbeats 4000000 in
set_option maxRecDepth 100000 in
theorem c_X0_borderThatGrows (l : Launch) (D : va_G) (cy : Nat → ClassId) (n0 : Nat) (b0 : Nat) (k0 : Nat) (en : Int) (B : Nat → Int) (Kf : Nat → Int) (wi : Nat) (vi : Nat) (nw : Int) (Fw : Nat → Int32) (en2 : Int) (x : Int) (hb : 0 ≤ nw ∧ nw ≤ 16 ∧ en = nw ∧ 0 < en2 ∧ en2 ≤ en ∧ en2 + 1 ≤ x ∧ x ≤ en + 1) (hB : ∀ j : Nat, en2 ≤ j → (j : Int) ≤ en → (j : Int) + 1 ≤ B j ∧ B j ≤ en + 1) (hk : ∀ j : Nat, 0 ≤ Kf j ∧ Kf j ≤ 17) : Ci l D cy yX0_borderThatGrows wsX0_borderThatGrows 2 42 [.ref n0, .ref wi, .int (iI en2), .int (iI x)] [(n0, .inr (0, [.ref b0, .ref k0, .int (iI en)])), (b0, .inl (cy 0, 17, .inl (zI B))), (k0, .inl (cy 0, 17, .inl (zI Kf))), (wi, .inr (2, [.ref vi, .int (iI nw)])), (vi, .inl (cy 0, 16, .inl Fw))] (fun (r : Int32) (u : (Nat → Int)) => r = iI (growF en Fw B en2 (en + 1).toNat x Kf).1 ∧ u = (growF en Fw B en2 (en + 1).toNat x Kf).2) (fun u : (Nat → Int) => [(n0, .inr (0, [.ref b0, .ref k0, .int (iI en)])), (b0, .inl (cy 0, 17, .inl (zI B))), (k0, .inl (cy 0, 17, .inl (zI u))), (wi, .inr (2, [.ref vi, .int (iI nw)])), (vi, .inl (cy 0, 16, .inl Fw))]) := by
  refine Ci_of (cc := cX0_borderThatGrows) (maxL := 6) (ret := (some .int)) (by decide) rfl rfl ?_
  intro p e s m args below meth c A hx hb hr hts hown hlocks hml hP hK hD hT hA ls hl
  have hS : va_S A s.heap s.heap [] := va_S.rf
  have hl : lv_has ls 6 [(0, .ref n0), (1, .ref wi), (2, .int (iI en2)), (3, .int (iI x))] := hl
  have hiX0 : ∀ w ∈ wsX00, w ∈ wsX0_borderThatGrows := by decide +kernel
  refine lv_iload_n hx hb dX0_borderThatGrows_0 rfl (lv_at hl 3 rfl) ?_
  refine lv_istore (lv' := [(4, .int (iI x)), (0, .ref n0), (1, .ref wi), (2, .int (iI en2)), (3, .int (iI x))]) hx hb dX0_borderThatGrows_1 hl (by decide) rfl (fun ls hl => ?_)
  refine lv_iconst (v := iI 0) hx hb dX0_borderThatGrows_3 rfl ?_
  refine lv_istore (lv' := [(5, .int (iI 0)), (4, .int (iI x)), (0, .ref n0), (1, .ref wi), (2, .int (iI en2)), (3, .int (iI x))]) hx hb dX0_borderThatGrows_4 hl (by decide) rfl (fun ls hl => ?_)
  have hloop1 : ∀ (n1 : Nat) (t : Int) (b : Int) (K2 : Nat → Int) (ht : 0 ≤ t ∧ t ≤ en + 1) (hbb : en2 + 1 ≤ b ∧ b ≤ en + 1) (hk2 : ∀ j : Nat, 0 ≤ K2 j ∧ K2 j ≤ 17) (hg : (growF en Fw B en2 (en + 1 - t).toNat b K2) = (growF en Fw B en2 (en + 1).toNat x Kf)) (hm : en + 1 - t < (n1 : Int)) (H : Heap) (locs : List Loc) (ls : Array Slot) (hP : va_P D vwCl [(n0, .inr (0, [.ref b0, .ref k0, .int (iI en)])), (b0, .inl (cy 0, 17, .inl (zI B))), (k0, .inl (cy 0, 17, .inl (zI K2))), (wi, .inr (2, [.ref vi, .int (iI nw)])), (vi, .inl (cy 0, 16, .inl Fw))] H) (hD : va_D A [(n0, .inr (0, [.ref b0, .ref k0, .int (iI en)])), (b0, .inl (cy 0, 17, .inl (zI B))), (k0, .inl (cy 0, 17, .inl (zI K2))), (wi, .inr (2, [.ref vi, .int (iI nw)])), (vi, .inl (cy 0, 16, .inl Fw))]) (hS : va_S A s.heap H locs) (hl : lv_has ls 6 [(5, .int (iI t)), (4, .int (iI b)), (0, .ref n0), (1, .ref wi), (2, .int (iI en2)), (3, .int (iI x))]), W p l e ({ frames := 2, cells := 0, slots := 0, locals := 42 } : Room) s m args below meth c H locs 0 0 (MQ below (va_Qi (fun (r : Int32) (u : (Nat → Int)) => r = iI (growF en Fw B en2 (en + 1).toNat x Kf).1 ∧ u = (growF en Fw B en2 (en + 1).toNat x Kf).2) (fun u t => va_P D vwCl ((fun u : (Nat → Int) => [(n0, .inr (0, [.ref b0, .ref k0, .int (iI en)])), (b0, .inl (cy 0, 17, .inl (zI B))), (k0, .inl (cy 0, 17, .inl (zI u))), (wi, .inr (2, [.ref vi, .int (iI nw)])), (vi, .inl (cy 0, 16, .inl Fw))]) u) t.heap) A) args s 0 0 A) (F0 m 6 ls []) := by
    intro n1
    induction n1 with
    | zero =>
      intro t b K2 ht hbb hk2 hg hm; exact absurd hm (by omega)
    | succ n1 ih1 =>
      intro t b K2 ht hbb hk2 hg hm H locs ls hP hD hS hl
      have hkb := hk2 b.toNat
      refine lv_iload hx hb dX0_borderThatGrows_6 (lv_at hl 0 rfl) ?_
      refine lv_aload_n hx hb dX0_borderThatGrows_8 rfl (lv_at hl 2 rfl) ?_
      refine va_get (D := D) (ci := 0) (v := .int (iI en)) (C := RX0) (T := TX0) (N := 3) hx hb hts hiX0 hown hK hP 0 rfl rfl 2 (by decide) (hts (.fieldLink RX0 30 "BackwardSearch$Ends" "length" "I") (by decide +kernel)) (fun _ h9 => h9) rfl dX0_borderThatGrows_9 ?_
      refine z_icmp_gt (tgt := 86) hx hb (iI_t (by omega) (by omega)) (iI_t (by omega) (by omega)) dX0_borderThatGrows_12 (by decide) (fun c2 => ?_) (fun c2 => ?_)
      · --
        refine lv_iload hx hb dX0_borderThatGrows_86 (lv_at hl 1 rfl) ?_
        exact z_iret hx hb hr hlocks hS (K2) (show (iI b) = iI (growF en Fw B en2 (en + 1).toNat x Kf).1 ∧ K2 = (growF en Fw B en2 (en + 1).toNat x Kf).2 from (by
      have hz : (growF en Fw B en2 (en + 1 - t).toNat b K2) = (b, K2) := (by rw [show (en + 1 - t).toNat = 0 by omega]; rfl)
      rw [hz] at hg
      rw [← hg]
      exact ⟨rfl, rfl⟩)) hP dX0_borderThatGrows_88
      · --
        refine lv_iload hx hb dX0_borderThatGrows_15 (lv_at hl 1 rfl) ?_
        refine z_if_le (tgt := 47) hx hb (iI_t (by omega) (by omega)) dX0_borderThatGrows_17 (by decide) (fun c3 => ?_) (fun c3 => ?_)
        · --
          refine lv_iload hx hb dX0_borderThatGrows_47 (lv_at hl 1 rfl) ?_
          exact z_iret hx hb hr hlocks hS (K2) (show (iI b) = iI (growF en Fw B en2 (en + 1).toNat x Kf).1 ∧ K2 = (growF en Fw B en2 (en + 1).toNat x Kf).2 from (by
      have hz : (growF en Fw B en2 (en + 1 - t).toNat b K2) = (b, K2) := growF_stop (by first | exact Or.inl (by omega) | exact Or.inr (Or.inl (by omega)) | exact Or.inr (Or.inr (by assumption))) _
      rw [hz] at hg
      rw [← hg]
      exact ⟨rfl, rfl⟩)) hP dX0_borderThatGrows_49
        · --
          refine lv_iload hx hb dX0_borderThatGrows_20 (lv_at hl 1 rfl) ?_
          refine lv_aload_n hx hb dX0_borderThatGrows_22 rfl (lv_at hl 2 rfl) ?_
          refine va_get (D := D) (ci := 0) (v := .int (iI en)) (C := RX0) (T := TX0) (N := 3) hx hb hts hiX0 hown hK hP 0 rfl rfl 2 (by decide) (hts (.fieldLink RX0 30 "BackwardSearch$Ends" "length" "I") (by decide +kernel)) (fun _ h9 => h9) rfl dX0_borderThatGrows_23 ?_
          refine z_icmp_gt (tgt := 47) hx hb (iI_t (by omega) (by omega)) (iI_t (by omega) (by omega)) dX0_borderThatGrows_26 (by decide) (fun c4 => ?_) (fun c4 => ?_)
          · --
            refine lv_iload hx hb dX0_borderThatGrows_47 (lv_at hl 1 rfl) ?_
            exact z_iret hx hb hr hlocks hS (K2) (show (iI b) = iI (growF en Fw B en2 (en + 1).toNat x Kf).1 ∧ K2 = (growF en Fw B en2 (en + 1).toNat x Kf).2 from (by
      have hz : (growF en Fw B en2 (en + 1 - t).toNat b K2) = (b, K2) := growF_stop (by first | exact Or.inl (by omega) | exact Or.inr (Or.inl (by omega)) | exact Or.inr (Or.inr (by assumption))) _
      rw [hz] at hg
      rw [← hg]
      exact ⟨rfl, rfl⟩)) hP dX0_borderThatGrows_49
          · --
            refine lv_aload_n hx hb dX0_borderThatGrows_29 rfl (lv_at hl 3 rfl) ?_
            refine lv_iload_n hx hb dX0_borderThatGrows_30 rfl (lv_at hl 4 rfl) ?_
            refine lv_iconst (v := iI 1) hx hb dX0_borderThatGrows_31 rfl ?_
            refine z_sub hx hb dX0_borderThatGrows_32 ?_
            refine z_cVi (n := 1) (b := wi) (As := [.int (iI (en2 - 1))]) (rest := []) ⟨hx, hb, hml, hown, hts⟩ (c_X2_at l D cy wi vi 16 nw Fw (en2 - 1) (by omega) (by omega)) gX0_borderThatGrows_X2_at rfl (by decide +kernel) ⟨Nat.le_of_ble_eq_true rfl, Nat.le_of_ble_eq_true rfl⟩ hK hT hP hD hS hA [3, 4] rfl rfl 3 2 rfl rfl rfl (fun _ => rfl) rfl hl.1 rfl (Nat.le_of_ble_eq_true rfl) dX0_borderThatGrows_33 ⟨Nat.zero_le _, Nat.zero_le _⟩ (fun r_5 u_5 H locs hw_5 hP hD hS => ?_)
            have hw_5 : (0 ≤ (en2 - 1) ∧ (en2 - 1) < nw ∧ r_5 = Fw (en2 - 1).toNat) ∨ (¬ (0 ≤ (en2 - 1) ∧ (en2 - 1) < nw) ∧ r_5 = iI (-1)) := hw_5
            have hP : va_P D vwCl [(n0, .inr (0, [.ref b0, .ref k0, .int (iI en)])), (b0, .inl (cy 0, 17, .inl (zI B))), (k0, .inl (cy 0, 17, .inl (zI K2))), (wi, .inr (2, [.ref vi, .int (iI nw)])), (vi, .inl (cy 0, 16, .inl Fw))] H := hP
            have hD : va_D A [(n0, .inr (0, [.ref b0, .ref k0, .int (iI en)])), (b0, .inl (cy 0, 17, .inl (zI B))), (k0, .inl (cy 0, 17, .inl (zI K2))), (wi, .inr (2, [.ref vi, .int (iI nw)])), (vi, .inl (cy 0, 16, .inl Fw))] := hD
            rcases hw_5 with ⟨h_5, g_5, rfl⟩ | ⟨h_5, rfl⟩
            · --
              refine lv_aload_n hx hb dX0_borderThatGrows_36 rfl (lv_at hl 3 rfl) ?_
              refine lv_iload hx hb dX0_borderThatGrows_37 (lv_at hl 1 rfl) ?_
              refine lv_iconst (v := iI 1) hx hb dX0_borderThatGrows_39 rfl ?_
              refine z_sub hx hb dX0_borderThatGrows_40 ?_
              refine z_cVi (n := 1) (b := wi) (As := [.int (iI (b - 1))]) (rest := [.int (Fw (en2 - 1).toNat)]) ⟨hx, hb, hml, hown, hts⟩ (c_X2_at l D cy wi vi 16 nw Fw (b - 1) (by omega) (by omega)) gX0_borderThatGrows_X2_at rfl (by decide +kernel) ⟨Nat.le_of_ble_eq_true rfl, Nat.le_of_ble_eq_true rfl⟩ hK hT hP hD hS hA [3, 4] rfl rfl 3 2 rfl rfl rfl (fun _ => rfl) rfl hl.1 rfl (Nat.le_of_ble_eq_true rfl) dX0_borderThatGrows_41 ⟨Nat.zero_le _, Nat.zero_le _⟩ (fun r_6 u_6 H locs hw_6 hP hD hS => ?_)
              have hw_6 : (0 ≤ (b - 1) ∧ (b - 1) < nw ∧ r_6 = Fw (b - 1).toNat) ∨ (¬ (0 ≤ (b - 1) ∧ (b - 1) < nw) ∧ r_6 = iI (-1)) := hw_6
              have hP : va_P D vwCl [(n0, .inr (0, [.ref b0, .ref k0, .int (iI en)])), (b0, .inl (cy 0, 17, .inl (zI B))), (k0, .inl (cy 0, 17, .inl (zI K2))), (wi, .inr (2, [.ref vi, .int (iI nw)])), (vi, .inl (cy 0, 16, .inl Fw))] H := hP
              have hD : va_D A [(n0, .inr (0, [.ref b0, .ref k0, .int (iI en)])), (b0, .inl (cy 0, 17, .inl (zI B))), (k0, .inl (cy 0, 17, .inl (zI K2))), (wi, .inr (2, [.ref vi, .int (iI nw)])), (vi, .inl (cy 0, 16, .inl Fw))] := hD
              rcases hw_6 with ⟨h_6, g_6, rfl⟩ | ⟨h_6, rfl⟩
              · --
                refine lv_icmp_ne (tgt := 50) hx hb dX0_borderThatGrows_44 (by decide) (fun c7 => ?_) (fun c7 => ?_)
                · --
                  refine lv_aload_n hx hb dX0_borderThatGrows_50 rfl (lv_at hl 2 rfl) ?_
                  refine va_get (D := D) (ci := 0) (v := .ref k0) (C := RX0) (T := TX0) (N := 3) hx hb hts hiX0 hown hK hP 0 rfl rfl 1 (by decide) (hts (.fieldLink RX0 15 "BackwardSearch$Ends" "skipOf" "[I") (by decide +kernel)) (fun _ h9 => h9) rfl dX0_borderThatGrows_51 ?_
                  refine lv_iload hx hb dX0_borderThatGrows_54 (lv_at hl 1 rfl) ?_
                  refine z_iald hx hb hK hP 2 rfl (by omega) (by omega) (by omega) dX0_borderThatGrows_56 ?_
                  refine z_if_ne (tgt := 71) hx hb (iI_t (by omega) (by omega)) dX0_borderThatGrows_57 (by decide) (fun c8 => ?_) (fun c8 => ?_)
                  · --
                    refine lv_aload_n hx hb dX0_borderThatGrows_71 rfl (lv_at hl 2 rfl) ?_
                    refine va_get (D := D) (ci := 0) (v := .ref b0) (C := RX0) (T := TX0) (N := 3) hx hb hts hiX0 hown hK hP 0 rfl rfl 0 (by decide) (hts (.fieldLink RX0 9 "BackwardSearch$Ends" "borderOf" "[I") (by decide +kernel)) (fun _ h9 => h9) rfl dX0_borderThatGrows_72 ?_
                    refine lv_iload hx hb dX0_borderThatGrows_75 (lv_at hl 1 rfl) ?_
                    refine z_iald hx hb hK hP 1 rfl (by omega) (by omega) (by omega) dX0_borderThatGrows_77 ?_
                    refine lv_istore (lv' := [(4, .int (iI (B b.toNat))), (5, .int (iI t)), (0, .ref n0), (1, .ref wi), (2, .int (iI en2)), (3, .int (iI x))]) hx hb dX0_borderThatGrows_78 hl (by decide) rfl (fun ls hl => ?_)
                    refine z_iinc (lv' := [(5, .int (iI (t + 1))), (4, .int (iI (B b.toNat))), (0, .ref n0), (1, .ref wi), (2, .int (iI en2)), (3, .int (iI x))]) hx hb dX0_borderThatGrows_80 hl (k := 1) rfl (by decide) rfl (fun ls hl => ?_)
                    refine lv_goto (tgt := 6) hx hb dX0_borderThatGrows_83 (by decide) ?_
                    have hbx := hB b.toNat (by omega) (by omega)
                    exact ih1 (t + 1) (B b.toNat) K2 (by omega) (by omega) (by first | exact hk2 | exact updZ_rng hk2 (by omega)) (grow_step (by omega) (by omega) (by omega) (by assumption) hg (by first | rw [if_pos (by assumption)] | rw [if_neg (by assumption)])) (by omega) _ _ _ hP hD hS (lv_sub hl [0, 1, 2, 3, 4, 5] rfl)
                  · --
                    refine lv_aload_n hx hb dX0_borderThatGrows_60 rfl (lv_at hl 2 rfl) ?_
                    refine va_get (D := D) (ci := 0) (v := .ref k0) (C := RX0) (T := TX0) (N := 3) hx hb hts hiX0 hown hK hP 0 rfl rfl 1 (by decide) (hts (.fieldLink RX0 15 "BackwardSearch$Ends" "skipOf" "[I") (by decide +kernel)) (fun _ h9 => h9) rfl dX0_borderThatGrows_61 ?_
                    refine lv_iload hx hb dX0_borderThatGrows_64 (lv_at hl 1 rfl) ?_
                    refine lv_iload hx hb dX0_borderThatGrows_66 (lv_at hl 1 rfl) ?_
                    refine lv_iload_n hx hb dX0_borderThatGrows_68 rfl (lv_at hl 4 rfl) ?_
                    refine z_sub hx hb dX0_borderThatGrows_69 ?_
                    refine z_iast hx hb hK hP hD hS 2 rfl (by omega) (by omega) (by omega) dX0_borderThatGrows_70 (fun H locs hP hD hS => ?_)
                    rw [zI_upd] at hP hD
                    have hP : va_P D vwCl [(n0, .inr (0, [.ref b0, .ref k0, .int (iI en)])), (b0, .inl (cy 0, 17, .inl (zI B))), (k0, .inl (cy 0, 17, .inl (zI (updZ K2 b.toNat (b - en2))))), (wi, .inr (2, [.ref vi, .int (iI nw)])), (vi, .inl (cy 0, 16, .inl Fw))] H := hP
                    have hD : va_D A [(n0, .inr (0, [.ref b0, .ref k0, .int (iI en)])), (b0, .inl (cy 0, 17, .inl (zI B))), (k0, .inl (cy 0, 17, .inl (zI (updZ K2 b.toNat (b - en2))))), (wi, .inr (2, [.ref vi, .int (iI nw)])), (vi, .inl (cy 0, 16, .inl Fw))] := hD
                    refine lv_aload_n hx hb dX0_borderThatGrows_71 rfl (lv_at hl 2 rfl) ?_
                    refine va_get (D := D) (ci := 0) (v := .ref b0) (C := RX0) (T := TX0) (N := 3) hx hb hts hiX0 hown hK hP 0 rfl rfl 0 (by decide) (hts (.fieldLink RX0 9 "BackwardSearch$Ends" "borderOf" "[I") (by decide +kernel)) (fun _ h9 => h9) rfl dX0_borderThatGrows_72 ?_
                    refine lv_iload hx hb dX0_borderThatGrows_75 (lv_at hl 1 rfl) ?_
                    refine z_iald hx hb hK hP 1 rfl (by omega) (by omega) (by omega) dX0_borderThatGrows_77 ?_
                    refine lv_istore (lv' := [(4, .int (iI (B b.toNat))), (5, .int (iI t)), (0, .ref n0), (1, .ref wi), (2, .int (iI en2)), (3, .int (iI x))]) hx hb dX0_borderThatGrows_78 hl (by decide) rfl (fun ls hl => ?_)
                    refine z_iinc (lv' := [(5, .int (iI (t + 1))), (4, .int (iI (B b.toNat))), (0, .ref n0), (1, .ref wi), (2, .int (iI en2)), (3, .int (iI x))]) hx hb dX0_borderThatGrows_80 hl (k := 1) rfl (by decide) rfl (fun ls hl => ?_)
                    refine lv_goto (tgt := 6) hx hb dX0_borderThatGrows_83 (by decide) ?_
                    have hbx := hB b.toNat (by omega) (by omega)
                    exact ih1 (t + 1) (B b.toNat) (updZ K2 b.toNat (b - en2)) (by omega) (by omega) (by first | exact hk2 | exact updZ_rng hk2 (by omega)) (grow_step (by omega) (by omega) (by omega) (by assumption) hg (by first | rw [if_pos (by assumption)] | rw [if_neg (by assumption)])) (by omega) _ _ _ hP hD hS (lv_sub hl [0, 1, 2, 3, 4, 5] rfl)
                · --
                  refine lv_iload hx hb dX0_borderThatGrows_47 (lv_at hl 1 rfl) ?_
                  exact z_iret hx hb hr hlocks hS (K2) (show (iI b) = iI (growF en Fw B en2 (en + 1).toNat x Kf).1 ∧ K2 = (growF en Fw B en2 (en + 1).toNat x Kf).2 from (by
      have hz : (growF en Fw B en2 (en + 1 - t).toNat b K2) = (b, K2) := growF_stop (by first | exact Or.inl (by omega) | exact Or.inr (Or.inl (by omega)) | exact Or.inr (Or.inr (by assumption))) _
      rw [hz] at hg
      rw [← hg]
      exact ⟨rfl, rfl⟩)) hP dX0_borderThatGrows_49
              · --
                exfalso; omega
            · --
              exfalso; omega
  exact hloop1 (Int.toNat (en + 1 - 0) + 1) 0 x Kf (by omega) (by omega) (hk) (by rw [show en + 1 - 0 = en + 1 by omega]) (by omega) _ _ _ hP hD hS (lv_sub hl [0, 1, 2, 3, 4, 5] rfl)
set_option maxHeartbeats 4000000 in
set_option maxRecDepth 100000 in
theorem c_X0_findBorders (l : Launch) (D : va_G) (cy : Nat → ClassId) (n0 : Nat) (b0 : Nat) (k0 : Nat) (B : Nat → Int) (Kf : Nat → Int) (wi : Nat) (vi : Nat) (nw : Int) (Fw : Nat → Int32) (hb : 0 ≤ nw ∧ nw ≤ 16) (hk : ∀ j : Nat, 0 ≤ Kf j ∧ Kf j ≤ 17) : Cv l D cy yX0_findBorders wsX0_findBorders 3 67 [.ref n0, .ref wi] [(n0, .inr (0, [.ref b0, .ref k0, .int (iI nw)])), (b0, .inl (cy 0, 17, .inl (zI B))), (k0, .inl (cy 0, 17, .inl (zI Kf))), (wi, .inr (2, [.ref vi, .int (iI nw)])), (vi, .inl (cy 0, 16, .inl Fw))] (fun (u : (Nat → Int) × (Nat → Int)) => u.1 = (findF nw.toNat Fw nw.toNat (nw + 1) (updZ B nw.toNat (nw + 1)) Kf).1 ∧ u.2 = (findF nw.toNat Fw nw.toNat (nw + 1) (updZ B nw.toNat (nw + 1)) Kf).2) (fun u : (Nat → Int) × (Nat → Int) => [(n0, .inr (0, [.ref b0, .ref k0, .int (iI nw)])), (b0, .inl (cy 0, 17, .inl (zI u.1))), (k0, .inl (cy 0, 17, .inl (zI u.2))), (wi, .inr (2, [.ref vi, .int (iI nw)])), (vi, .inl (cy 0, 16, .inl Fw))]) := by
  refine Cv_of (cc := cX0_findBorders) (maxL := 4) (ret := none) (by decide) rfl rfl ?_
  intro p e s m args below meth c A hx hb hr hts hown hlocks hml hP hK hD hT hA ls hl
  have hS : va_S A s.heap s.heap [] := va_S.rf
  have hl : lv_has ls 4 [(0, .ref n0), (1, .ref wi)] := hl
  have hiX0 : ∀ w ∈ wsX00, w ∈ wsX0_findBorders := by decide +kernel
  refine lv_aload_n hx hb dX0_findBorders_0 rfl (lv_at hl 0 rfl) ?_
  refine va_get (D := D) (ci := 0) (v := .int (iI nw)) (C := RX0) (T := TX0) (N := 3) hx hb hts hiX0 hown hK hP 0 rfl rfl 2 (by decide) (hts (.fieldLink RX0 30 "BackwardSearch$Ends" "length" "I") (by decide +kernel)) (fun _ h9 => h9) rfl dX0_findBorders_1 ?_
  refine lv_iconst (v := iI 1) hx hb dX0_findBorders_4 rfl ?_
  refine z_add hx hb dX0_findBorders_5 ?_
  refine lv_istore_n (lv' := [(2, .int (iI (nw + 1))), (0, .ref n0), (1, .ref wi)]) hx hb dX0_findBorders_6 rfl hl (by decide) rfl (fun ls hl => ?_)
  refine lv_aload_n hx hb dX0_findBorders_7 rfl (lv_at hl 1 rfl) ?_
  refine va_get (D := D) (ci := 0) (v := .ref b0) (C := RX0) (T := TX0) (N := 3) hx hb hts hiX0 hown hK hP 0 rfl rfl 0 (by decide) (hts (.fieldLink RX0 9 "BackwardSearch$Ends" "borderOf" "[I") (by decide +kernel)) (fun _ h9 => h9) rfl dX0_findBorders_8 ?_
  refine lv_aload_n hx hb dX0_findBorders_11 rfl (lv_at hl 1 rfl) ?_
  refine va_get (D := D) (ci := 0) (v := .int (iI nw)) (C := RX0) (T := TX0) (N := 3) hx hb hts hiX0 hown hK hP 0 rfl rfl 2 (by decide) (hts (.fieldLink RX0 30 "BackwardSearch$Ends" "length" "I") (by decide +kernel)) (fun _ h9 => h9) rfl dX0_findBorders_12 ?_
  refine lv_iload_n hx hb dX0_findBorders_15 rfl (lv_at hl 0 rfl) ?_
  refine z_iast hx hb hK hP hD hS 1 rfl (by omega) (by omega) (by omega) dX0_findBorders_16 (fun H locs hP hD hS => ?_)
  rw [zI_upd] at hP hD
  have hP : va_P D vwCl [(n0, .inr (0, [.ref b0, .ref k0, .int (iI nw)])), (b0, .inl (cy 0, 17, .inl (zI (updZ B nw.toNat (nw + 1))))), (k0, .inl (cy 0, 17, .inl (zI Kf))), (wi, .inr (2, [.ref vi, .int (iI nw)])), (vi, .inl (cy 0, 16, .inl Fw))] H := hP
  have hD : va_D A [(n0, .inr (0, [.ref b0, .ref k0, .int (iI nw)])), (b0, .inl (cy 0, 17, .inl (zI (updZ B nw.toNat (nw + 1))))), (k0, .inl (cy 0, 17, .inl (zI Kf))), (wi, .inr (2, [.ref vi, .int (iI nw)])), (vi, .inl (cy 0, 16, .inl Fw))] := hD
  refine lv_aload_n hx hb dX0_findBorders_17 rfl (lv_at hl 1 rfl) ?_
  refine va_get (D := D) (ci := 0) (v := .int (iI nw)) (C := RX0) (T := TX0) (N := 3) hx hb hts hiX0 hown hK hP 0 rfl rfl 2 (by decide) (hts (.fieldLink RX0 30 "BackwardSearch$Ends" "length" "I") (by decide +kernel)) (fun _ h9 => h9) rfl dX0_findBorders_18 ?_
  refine lv_istore_n (lv' := [(3, .int (iI nw)), (2, .int (iI (nw + 1))), (0, .ref n0), (1, .ref wi)]) hx hb dX0_findBorders_21 rfl hl (by decide) rfl (fun ls hl => ?_)
  have hloop1 : ∀ (n1 : Nat) (e2 : Int) (b : Int) (B2 : Nat → Int) (K2 : Nat → Int) (he : 0 ≤ e2 ∧ e2 ≤ nw) (hbb : e2 + 1 ≤ b ∧ b ≤ nw + 1) (hB2 : ∀ j : Nat, e2 ≤ j → (j : Int) ≤ nw → (j : Int) + 1 ≤ B2 j ∧ B2 j ≤ nw + 1) (hk2 : ∀ j : Nat, 0 ≤ K2 j ∧ K2 j ≤ 17) (hg : findF nw.toNat Fw e2.toNat b B2 K2 = (findF nw.toNat Fw nw.toNat (nw + 1) (updZ B nw.toNat (nw + 1)) Kf)) (hm : e2 < (n1 : Int)) (H : Heap) (locs : List Loc) (ls : Array Slot) (hP : va_P D vwCl [(n0, .inr (0, [.ref b0, .ref k0, .int (iI nw)])), (b0, .inl (cy 0, 17, .inl (zI B2))), (k0, .inl (cy 0, 17, .inl (zI K2))), (wi, .inr (2, [.ref vi, .int (iI nw)])), (vi, .inl (cy 0, 16, .inl Fw))] H) (hD : va_D A [(n0, .inr (0, [.ref b0, .ref k0, .int (iI nw)])), (b0, .inl (cy 0, 17, .inl (zI B2))), (k0, .inl (cy 0, 17, .inl (zI K2))), (wi, .inr (2, [.ref vi, .int (iI nw)])), (vi, .inl (cy 0, 16, .inl Fw))]) (hS : va_S A s.heap H locs) (hl : lv_has ls 4 [(3, .int (iI e2)), (2, .int (iI b)), (0, .ref n0), (1, .ref wi)]), W p l e ({ frames := 3, cells := 0, slots := 0, locals := 67 } : Room) s m args below meth c H locs 0 0 (MQ below (va_Qv (fun (u : (Nat → Int) × (Nat → Int)) => u.1 = (findF nw.toNat Fw nw.toNat (nw + 1) (updZ B nw.toNat (nw + 1)) Kf).1 ∧ u.2 = (findF nw.toNat Fw nw.toNat (nw + 1) (updZ B nw.toNat (nw + 1)) Kf).2) (fun u t => va_P D vwCl ((fun u : (Nat → Int) × (Nat → Int) => [(n0, .inr (0, [.ref b0, .ref k0, .int (iI nw)])), (b0, .inl (cy 0, 17, .inl (zI u.1))), (k0, .inl (cy 0, 17, .inl (zI u.2))), (wi, .inr (2, [.ref vi, .int (iI nw)])), (vi, .inl (cy 0, 16, .inl Fw))]) u) t.heap) A) args s 0 0 A) (F0 m 22 ls []) := by
    intro n1
    induction n1 with
    | zero =>
      intro e2 b B2 K2 he hbb hB2 hk2 hg hm; exact absurd hm (by omega)
    | succ n1 ih1 =>
      intro e2 b B2 K2 he hbb hB2 hk2 hg hm H locs ls hP hD hS hl
      refine lv_iload_n hx hb dX0_findBorders_22 rfl (lv_at hl 0 rfl) ?_
      refine z_if_le (tgt := 51) hx hb (iI_t (by omega) (by omega)) dX0_findBorders_23 (by decide) (fun c2 => ?_) (fun c2 => ?_)
      · --
        exact z_vret hx hb hr hlocks hS (B2, K2) (show B2 = (findF nw.toNat Fw nw.toNat (nw + 1) (updZ B nw.toNat (nw + 1)) Kf).1 ∧ K2 = (findF nw.toNat Fw nw.toNat (nw + 1) (updZ B nw.toNat (nw + 1)) Kf).2 from (by
      have hz : e2.toNat = 0 := by omega
      rw [hz] at hg
      rw [← hg]
      exact ⟨rfl, rfl⟩)) hP dX0_findBorders_51
      · --
        have hgr := growF_rng (m := nw) (W := Fw) (B := B2) (e := e2) hB2 (by omega) (nw + 1).toNat b K2 (by omega) (by omega) hk2
        refine lv_aload_n hx hb dX0_findBorders_26 rfl (lv_at hl 2 rfl) ?_
        refine lv_aload_n hx hb dX0_findBorders_27 rfl (lv_at hl 3 rfl) ?_
        refine lv_iload_n hx hb dX0_findBorders_28 rfl (lv_at hl 0 rfl) ?_
        refine lv_iload_n hx hb dX0_findBorders_29 rfl (lv_at hl 1 rfl) ?_
        refine z_cVi (n := 3) (b := n0) (As := [.ref wi, .int (iI e2), .int (iI b)]) (rest := []) ⟨hx, hb, hml, hown, hts⟩ (c_X0_borderThatGrows l D cy n0 b0 k0 nw B2 K2 wi vi nw Fw e2 b (by omega) (hB2) (hk2)) gX0_findBorders_X0_borderThatGrows rfl (by decide +kernel) ⟨Nat.le_of_ble_eq_true rfl, Nat.le_of_ble_eq_true rfl⟩ hK hT hP hD hS hA [0, 1, 2, 3, 4] rfl rfl 0 0 rfl rfl rfl (fun _ => rfl) rfl hl.1 rfl (Nat.le_of_ble_eq_true rfl) dX0_findBorders_30 ⟨Nat.zero_le _, Nat.zero_le _⟩ (fun r_3 u_3 H locs hw_3 hP hD hS => ?_)
        obtain ⟨K1_3, rfl⟩ : ∃ z, z = u_3 := ⟨_, rfl⟩
        have hw_3 : r_3 = iI (growF nw Fw B2 e2 (nw + 1).toNat b K2).1 ∧ K1_3 = (growF nw Fw B2 e2 (nw + 1).toNat b K2).2 := hw_3
        have hP : va_P D vwCl [(n0, .inr (0, [.ref b0, .ref k0, .int (iI nw)])), (b0, .inl (cy 0, 17, .inl (zI B2))), (k0, .inl (cy 0, 17, .inl (zI K1_3))), (wi, .inr (2, [.ref vi, .int (iI nw)])), (vi, .inl (cy 0, 16, .inl Fw))] H := hP
        have hD : va_D A [(n0, .inr (0, [.ref b0, .ref k0, .int (iI nw)])), (b0, .inl (cy 0, 17, .inl (zI B2))), (k0, .inl (cy 0, 17, .inl (zI K1_3))), (wi, .inr (2, [.ref vi, .int (iI nw)])), (vi, .inl (cy 0, 16, .inl Fw))] := hD
        obtain ⟨rfl, rfl⟩ := hw_3
        refine lv_iconst (v := iI 1) hx hb dX0_findBorders_33 rfl ?_
        refine z_sub hx hb dX0_findBorders_34 ?_
        refine lv_istore_n (lv' := [(2, .int (iI (((growF nw Fw B2 e2 (nw + 1).toNat b K2).1) - 1))), (3, .int (iI e2)), (0, .ref n0), (1, .ref wi)]) hx hb dX0_findBorders_35 rfl hl (by decide) rfl (fun ls hl => ?_)
        refine lv_aload_n hx hb dX0_findBorders_36 rfl (lv_at hl 2 rfl) ?_
        refine va_get (D := D) (ci := 0) (v := .ref b0) (C := RX0) (T := TX0) (N := 3) hx hb hts hiX0 hown hK hP 0 rfl rfl 0 (by decide) (hts (.fieldLink RX0 9 "BackwardSearch$Ends" "borderOf" "[I") (by decide +kernel)) (fun _ h9 => h9) rfl dX0_findBorders_37 ?_
        refine lv_iload_n hx hb dX0_findBorders_40 rfl (lv_at hl 1 rfl) ?_
        refine lv_iconst (v := iI 1) hx hb dX0_findBorders_41 rfl ?_
        refine z_sub hx hb dX0_findBorders_42 ?_
        refine lv_iload_n hx hb dX0_findBorders_43 rfl (lv_at hl 0 rfl) ?_
        refine z_iast hx hb hK hP hD hS 1 rfl (by omega) (by omega) (by omega) dX0_findBorders_44 (fun H locs hP hD hS => ?_)
        rw [zI_upd] at hP hD
        have hP : va_P D vwCl [(n0, .inr (0, [.ref b0, .ref k0, .int (iI nw)])), (b0, .inl (cy 0, 17, .inl (zI (updZ B2 ((e2 - 1).toNat) (((growF nw Fw B2 e2 (nw + 1).toNat b K2).1) - 1))))), (k0, .inl (cy 0, 17, .inl (zI (growF nw Fw B2 e2 (nw + 1).toNat b K2).2))), (wi, .inr (2, [.ref vi, .int (iI nw)])), (vi, .inl (cy 0, 16, .inl Fw))] H := hP
        have hD : va_D A [(n0, .inr (0, [.ref b0, .ref k0, .int (iI nw)])), (b0, .inl (cy 0, 17, .inl (zI (updZ B2 ((e2 - 1).toNat) (((growF nw Fw B2 e2 (nw + 1).toNat b K2).1) - 1))))), (k0, .inl (cy 0, 17, .inl (zI (growF nw Fw B2 e2 (nw + 1).toNat b K2).2))), (wi, .inr (2, [.ref vi, .int (iI nw)])), (vi, .inl (cy 0, 16, .inl Fw))] := hD
        refine z_iinc (lv' := [(3, .int (iI (e2 + (-1)))), (2, .int (iI (((growF nw Fw B2 e2 (nw + 1).toNat b K2).1) - 1))), (0, .ref n0), (1, .ref wi)]) hx hb dX0_findBorders_45 hl (k := 1) rfl (by decide) rfl (fun ls hl => ?_)
        refine lv_goto (tgt := 22) hx hb dX0_findBorders_48 (by decide) ?_
        exact ih1 (e2 + (-1)) (((growF nw Fw B2 e2 (nw + 1).toNat b K2).1) - 1) (updZ B2 ((e2 - 1).toNat) (((growF nw Fw B2 e2 (nw + 1).toNat b K2).1) - 1)) ((growF nw Fw B2 e2 (nw + 1).toNat b K2).2) (by omega) (by omega) (find_rngB (by omega) hB2 hgr.1) (hgr.2) (find_step (by omega) (by omega) hg) (by omega) _ _ _ hP hD hS (lv_sub hl [0, 1, 2, 3] rfl)
  exact hloop1 (Int.toNat (nw) + 1) nw (nw + 1) (updZ B nw.toNat (nw + 1)) Kf (by omega) (by omega) (fun j h1 h2 => by rw [show j = nw.toNat by omega, updZ_same]; omega) (hk) (rfl) (by omega) _ _ _ hP hD hS (lv_sub hl [0, 1, 2, 3] rfl)
set_option maxHeartbeats 4000000 in
set_option maxRecDepth 100000 in
theorem c_X0_skipToBordersOfTheWord (l : Launch) (D : va_G) (cy : Nat → ClassId) (n0 : Nat) (b0 : Nat) (k0 : Nat) (en : Int) (B : Nat → Int) (Kf : Nat → Int) (hb : 0 ≤ en ∧ en ≤ 16) (hB : ∀ j : Nat, (j : Int) ≤ en → 0 ≤ B j ∧ B j ≤ 17) (hk : ∀ j : Nat, 0 ≤ Kf j ∧ Kf j ≤ 17) : Cv l D cy yX0_skipToBordersOfTheWord wsX0_skipToBordersOfTheWord 0 0 [.ref n0] [(n0, .inr (0, [.ref b0, .ref k0, .int (iI en)])), (b0, .inl (cy 0, 17, .inl (zI B))), (k0, .inl (cy 0, 17, .inl (zI Kf)))] (fun (u : (Nat → Int)) => u = (tailF B (en + 1).toNat 0 (B 0) Kf)) (fun u : (Nat → Int) => [(n0, .inr (0, [.ref b0, .ref k0, .int (iI en)])), (b0, .inl (cy 0, 17, .inl (zI B))), (k0, .inl (cy 0, 17, .inl (zI u)))]) := by
  refine Cv_of (cc := cX0_skipToBordersOfTheWord) (maxL := 3) (ret := none) (by decide) rfl rfl ?_
  intro p e s m args below meth c A hx hb hr hts hown hlocks hml hP hK hD hT hA ls hl
  have hS : va_S A s.heap s.heap [] := va_S.rf
  have hl : lv_has ls 3 [(0, .ref n0)] := hl
  have hiX0 : ∀ w ∈ wsX00, w ∈ wsX0_skipToBordersOfTheWord := by decide +kernel
  refine lv_aload_n hx hb dX0_skipToBordersOfTheWord_0 rfl (lv_at hl 0 rfl) ?_
  refine va_get (D := D) (ci := 0) (v := .ref b0) (C := RX0) (T := TX0) (N := 3) hx hb hts hiX0 hown hK hP 0 rfl rfl 0 (by decide) (hts (.fieldLink RX0 9 "BackwardSearch$Ends" "borderOf" "[I") (by decide +kernel)) (fun _ h9 => h9) rfl dX0_skipToBordersOfTheWord_1 ?_
  refine lv_iconst (v := iI 0) hx hb dX0_skipToBordersOfTheWord_4 rfl ?_
  refine z_iald hx hb hK hP 1 rfl (by omega) (by omega) (by omega) dX0_skipToBordersOfTheWord_5 ?_
  refine lv_istore_n (lv' := [(1, .int (iI (B (0 : Int).toNat))), (0, .ref n0)]) hx hb dX0_skipToBordersOfTheWord_6 rfl hl (by decide) rfl (fun ls hl => ?_)
  refine lv_iconst (v := iI 0) hx hb dX0_skipToBordersOfTheWord_7 rfl ?_
  refine lv_istore_n (lv' := [(2, .int (iI 0)), (1, .int (iI (B (0 : Int).toNat))), (0, .ref n0)]) hx hb dX0_skipToBordersOfTheWord_8 rfl hl (by decide) rfl (fun ls hl => ?_)
  have hloop1 : ∀ (n1 : Nat) (e2 : Int) (b : Int) (K2 : Nat → Int) (he : 0 ≤ e2 ∧ e2 ≤ en + 1) (hbb : 0 ≤ b ∧ b ≤ 17) (hk2 : ∀ j : Nat, 0 ≤ K2 j ∧ K2 j ≤ 17) (hg : tailF B (en + 1 - e2).toNat e2.toNat b K2 = (tailF B (en + 1).toNat 0 (B 0) Kf)) (hm : en + 1 - e2 < (n1 : Int)) (H : Heap) (locs : List Loc) (ls : Array Slot) (hP : va_P D vwCl [(n0, .inr (0, [.ref b0, .ref k0, .int (iI en)])), (b0, .inl (cy 0, 17, .inl (zI B))), (k0, .inl (cy 0, 17, .inl (zI K2)))] H) (hD : va_D A [(n0, .inr (0, [.ref b0, .ref k0, .int (iI en)])), (b0, .inl (cy 0, 17, .inl (zI B))), (k0, .inl (cy 0, 17, .inl (zI K2)))]) (hS : va_S A s.heap H locs) (hl : lv_has ls 3 [(2, .int (iI e2)), (1, .int (iI b)), (0, .ref n0)]), W p l e ({ frames := 0, cells := 0, slots := 0, locals := 0 } : Room) s m args below meth c H locs 0 0 (MQ below (va_Qv (fun (u : (Nat → Int)) => u = (tailF B (en + 1).toNat 0 (B 0) Kf)) (fun u t => va_P D vwCl ((fun u : (Nat → Int) => [(n0, .inr (0, [.ref b0, .ref k0, .int (iI en)])), (b0, .inl (cy 0, 17, .inl (zI B))), (k0, .inl (cy 0, 17, .inl (zI u)))]) u) t.heap) A) args s 0 0 A) (F0 m 9 ls []) := by
    intro n1
    induction n1 with
    | zero =>
      intro e2 b K2 he hbb hk2 hg hm; exact absurd hm (by omega)
    | succ n1 ih1 =>
      intro e2 b K2 he hbb hk2 hg hm H locs ls hP hD hS hl
      have hke := hk2 e2.toNat
      refine lv_iload_n hx hb dX0_skipToBordersOfTheWord_9 rfl (lv_at hl 0 rfl) ?_
      refine lv_aload_n hx hb dX0_skipToBordersOfTheWord_10 rfl (lv_at hl 2 rfl) ?_
      refine va_get (D := D) (ci := 0) (v := .int (iI en)) (C := RX0) (T := TX0) (N := 3) hx hb hts hiX0 hown hK hP 0 rfl rfl 2 (by decide) (hts (.fieldLink RX0 30 "BackwardSearch$Ends" "length" "I") (by decide +kernel)) (fun _ h9 => h9) rfl dX0_skipToBordersOfTheWord_11 ?_
      refine z_icmp_gt (tgt := 51) hx hb (iI_t (by omega) (by omega)) (iI_t (by omega) (by omega)) dX0_skipToBordersOfTheWord_14 (by decide) (fun c2 => ?_) (fun c2 => ?_)
      · --
        exact z_vret hx hb hr hlocks hS (K2) (show K2 = (tailF B (en + 1).toNat 0 (B 0) Kf) from (by
      have hz : (en + 1 - e2).toNat = 0 := by omega
      rw [hz] at hg
      exact hg)) hP dX0_skipToBordersOfTheWord_51
      · --
        refine lv_aload_n hx hb dX0_skipToBordersOfTheWord_17 rfl (lv_at hl 2 rfl) ?_
        refine va_get (D := D) (ci := 0) (v := .ref k0) (C := RX0) (T := TX0) (N := 3) hx hb hts hiX0 hown hK hP 0 rfl rfl 1 (by decide) (hts (.fieldLink RX0 15 "BackwardSearch$Ends" "skipOf" "[I") (by decide +kernel)) (fun _ h9 => h9) rfl dX0_skipToBordersOfTheWord_18 ?_
        refine lv_iload_n hx hb dX0_skipToBordersOfTheWord_21 rfl (lv_at hl 0 rfl) ?_
        refine z_iald hx hb hK hP 2 rfl (by omega) (by omega) (by omega) dX0_skipToBordersOfTheWord_22 ?_
        refine z_if_ne (tgt := 33) hx hb (iI_t (by omega) (by omega)) dX0_skipToBordersOfTheWord_23 (by decide) (fun c3 => ?_) (fun c3 => ?_)
        · --
          refine lv_iload_n hx hb dX0_skipToBordersOfTheWord_33 rfl (lv_at hl 0 rfl) ?_
          refine lv_iload_n hx hb dX0_skipToBordersOfTheWord_34 rfl (lv_at hl 1 rfl) ?_
          refine z_icmp_ne (tgt := 45) hx hb (iI_t (by omega) (by omega)) (iI_t (by omega) (by omega)) dX0_skipToBordersOfTheWord_35 (by decide) (fun c4 => ?_) (fun c4 => ?_)
          · --
            refine z_iinc (lv' := [(2, .int (iI (e2 + 1))), (1, .int (iI b)), (0, .ref n0)]) hx hb dX0_skipToBordersOfTheWord_45 hl (k := 0) rfl (by decide) rfl (fun ls hl => ?_)
            refine lv_goto (tgt := 9) hx hb dX0_skipToBordersOfTheWord_48 (by decide) ?_
            have hBe := hB e2.toNat (by omega)
            exact ih1 (e2 + 1) b K2 (by omega) (by omega) (by first | exact hk2 | exact updZ_rng hk2 (by omega)) (tail_step (by omega) (by omega) hg (by first | exact if_pos (by assumption) | exact if_neg (by assumption)) (by first | exact if_pos (by assumption) | exact if_neg (by assumption))) (by omega) _ _ _ hP hD hS (lv_sub hl [0, 1, 2] rfl)
          · --
            refine lv_aload_n hx hb dX0_skipToBordersOfTheWord_38 rfl (lv_at hl 2 rfl) ?_
            refine va_get (D := D) (ci := 0) (v := .ref b0) (C := RX0) (T := TX0) (N := 3) hx hb hts hiX0 hown hK hP 0 rfl rfl 0 (by decide) (hts (.fieldLink RX0 9 "BackwardSearch$Ends" "borderOf" "[I") (by decide +kernel)) (fun _ h9 => h9) rfl dX0_skipToBordersOfTheWord_39 ?_
            refine lv_iload_n hx hb dX0_skipToBordersOfTheWord_42 rfl (lv_at hl 0 rfl) ?_
            refine z_iald hx hb hK hP 1 rfl (by omega) (by omega) (by omega) dX0_skipToBordersOfTheWord_43 ?_
            refine lv_istore_n (lv' := [(1, .int (iI (B e2.toNat))), (2, .int (iI e2)), (0, .ref n0)]) hx hb dX0_skipToBordersOfTheWord_44 rfl hl (by decide) rfl (fun ls hl => ?_)
            refine z_iinc (lv' := [(2, .int (iI (e2 + 1))), (1, .int (iI (B e2.toNat))), (0, .ref n0)]) hx hb dX0_skipToBordersOfTheWord_45 hl (k := 1) rfl (by decide) rfl (fun ls hl => ?_)
            refine lv_goto (tgt := 9) hx hb dX0_skipToBordersOfTheWord_48 (by decide) ?_
            have hBe := hB e2.toNat (by omega)
            exact ih1 (e2 + 1) (B e2.toNat) K2 (by omega) (by omega) (by first | exact hk2 | exact updZ_rng hk2 (by omega)) (tail_step (by omega) (by omega) hg (by first | exact if_pos (by assumption) | exact if_neg (by assumption)) (by first | exact if_pos (by assumption) | exact if_neg (by assumption))) (by omega) _ _ _ hP hD hS (lv_sub hl [0, 1, 2] rfl)
        · --
          refine lv_aload_n hx hb dX0_skipToBordersOfTheWord_26 rfl (lv_at hl 2 rfl) ?_
          refine va_get (D := D) (ci := 0) (v := .ref k0) (C := RX0) (T := TX0) (N := 3) hx hb hts hiX0 hown hK hP 0 rfl rfl 1 (by decide) (hts (.fieldLink RX0 15 "BackwardSearch$Ends" "skipOf" "[I") (by decide +kernel)) (fun _ h9 => h9) rfl dX0_skipToBordersOfTheWord_27 ?_
          refine lv_iload_n hx hb dX0_skipToBordersOfTheWord_30 rfl (lv_at hl 0 rfl) ?_
          refine lv_iload_n hx hb dX0_skipToBordersOfTheWord_31 rfl (lv_at hl 1 rfl) ?_
          refine z_iast hx hb hK hP hD hS 2 rfl (by omega) (by omega) (by omega) dX0_skipToBordersOfTheWord_32 (fun H locs hP hD hS => ?_)
          rw [zI_upd] at hP hD
          have hP : va_P D vwCl [(n0, .inr (0, [.ref b0, .ref k0, .int (iI en)])), (b0, .inl (cy 0, 17, .inl (zI B))), (k0, .inl (cy 0, 17, .inl (zI (updZ K2 e2.toNat b))))] H := hP
          have hD : va_D A [(n0, .inr (0, [.ref b0, .ref k0, .int (iI en)])), (b0, .inl (cy 0, 17, .inl (zI B))), (k0, .inl (cy 0, 17, .inl (zI (updZ K2 e2.toNat b))))] := hD
          refine lv_iload_n hx hb dX0_skipToBordersOfTheWord_33 rfl (lv_at hl 0 rfl) ?_
          refine lv_iload_n hx hb dX0_skipToBordersOfTheWord_34 rfl (lv_at hl 1 rfl) ?_
          refine z_icmp_ne (tgt := 45) hx hb (iI_t (by omega) (by omega)) (iI_t (by omega) (by omega)) dX0_skipToBordersOfTheWord_35 (by decide) (fun c5 => ?_) (fun c5 => ?_)
          · --
            refine z_iinc (lv' := [(2, .int (iI (e2 + 1))), (1, .int (iI b)), (0, .ref n0)]) hx hb dX0_skipToBordersOfTheWord_45 hl (k := 0) rfl (by decide) rfl (fun ls hl => ?_)
            refine lv_goto (tgt := 9) hx hb dX0_skipToBordersOfTheWord_48 (by decide) ?_
            have hBe := hB e2.toNat (by omega)
            exact ih1 (e2 + 1) b (updZ K2 e2.toNat b) (by omega) (by omega) (by first | exact hk2 | exact updZ_rng hk2 (by omega)) (tail_step (by omega) (by omega) hg (by first | exact if_pos (by assumption) | exact if_neg (by assumption)) (by first | exact if_pos (by assumption) | exact if_neg (by assumption))) (by omega) _ _ _ hP hD hS (lv_sub hl [0, 1, 2] rfl)
          · --
            refine lv_aload_n hx hb dX0_skipToBordersOfTheWord_38 rfl (lv_at hl 2 rfl) ?_
            refine va_get (D := D) (ci := 0) (v := .ref b0) (C := RX0) (T := TX0) (N := 3) hx hb hts hiX0 hown hK hP 0 rfl rfl 0 (by decide) (hts (.fieldLink RX0 9 "BackwardSearch$Ends" "borderOf" "[I") (by decide +kernel)) (fun _ h9 => h9) rfl dX0_skipToBordersOfTheWord_39 ?_
            refine lv_iload_n hx hb dX0_skipToBordersOfTheWord_42 rfl (lv_at hl 0 rfl) ?_
            refine z_iald hx hb hK hP 1 rfl (by omega) (by omega) (by omega) dX0_skipToBordersOfTheWord_43 ?_
            refine lv_istore_n (lv' := [(1, .int (iI (B e2.toNat))), (2, .int (iI e2)), (0, .ref n0)]) hx hb dX0_skipToBordersOfTheWord_44 rfl hl (by decide) rfl (fun ls hl => ?_)
            refine z_iinc (lv' := [(2, .int (iI (e2 + 1))), (1, .int (iI (B e2.toNat))), (0, .ref n0)]) hx hb dX0_skipToBordersOfTheWord_45 hl (k := 1) rfl (by decide) rfl (fun ls hl => ?_)
            refine lv_goto (tgt := 9) hx hb dX0_skipToBordersOfTheWord_48 (by decide) ?_
            have hBe := hB e2.toNat (by omega)
            exact ih1 (e2 + 1) (B e2.toNat) (updZ K2 e2.toNat b) (by omega) (by omega) (by first | exact hk2 | exact updZ_rng hk2 (by omega)) (tail_step (by omega) (by omega) hg (by first | exact if_pos (by assumption) | exact if_neg (by assumption)) (by first | exact if_pos (by assumption) | exact if_neg (by assumption))) (by omega) _ _ _ hP hD hS (lv_sub hl [0, 1, 2] rfl)
  exact hloop1 (Int.toNat (en + 1 - 0) + 1) 0 (B 0) Kf (by omega) (by have := hB 0 (by omega); omega) (hk) (by rw [show en + 1 - 0 = en + 1 by omega]; rfl) (by omega) _ _ _ hP hD hS (lv_sub hl [0, 1, 2] rfl)
set_option maxHeartbeats 4000000 in
set_option maxRecDepth 100000 in
theorem c_X0_study (l : Launch) (D : va_G) (cy : Nat → ClassId) (n0 : Nat) (b0 : Nat) (k0 : Nat) (en : Int) (B : Nat → Int) (Kf : Nat → Int) (wi : Nat) (vi : Nat) (nw : Int) (Fw : Nat → Int32) (hb : 0 ≤ nw ∧ nw ≤ 16) (hk : ∀ j : Nat, 0 ≤ Kf j ∧ Kf j ≤ 17) : Cv l D cy yX0_study wsX0_study 4 90 [.ref n0, .ref wi] [(n0, .inr (0, [.ref b0, .ref k0, .int (iI en)])), (b0, .inl (cy 0, 17, .inl (zI B))), (k0, .inl (cy 0, 17, .inl (zI Kf))), (wi, .inr (2, [.ref vi, .int (iI nw)])), (vi, .inl (cy 0, 16, .inl Fw))] (fun (u : (Nat → Int) × (Nat → Int)) => u.1 = studyB nw.toNat Fw B Kf ∧ u.2 = studyK nw.toNat Fw B Kf) (fun u : (Nat → Int) × (Nat → Int) => [(n0, .inr (0, [.ref b0, .ref k0, .int (iI nw)])), (b0, .inl (cy 0, 17, .inl (zI u.1))), (k0, .inl (cy 0, 17, .inl (zI u.2))), (wi, .inr (2, [.ref vi, .int (iI nw)])), (vi, .inl (cy 0, 16, .inl Fw))]) := by
  refine Cv_of (cc := cX0_study) (maxL := 3) (ret := none) (by decide) rfl rfl ?_
  intro p e s m args below meth c A hx hb hr hts hown hlocks hml hP hK hD hT hA ls hl
  have hS : va_S A s.heap s.heap [] := va_S.rf
  have hl : lv_has ls 3 [(0, .ref n0), (1, .ref wi)] := hl
  have hiX0 : ∀ w ∈ wsX00, w ∈ wsX0_study := by decide +kernel
  refine lv_aload_n hx hb dX0_study_0 rfl (lv_at hl 0 rfl) ?_
  refine lv_aload_n hx hb dX0_study_1 rfl (lv_at hl 1 rfl) ?_
  refine z_cVi (n := 0) (b := wi) (As := []) (rest := [.ref n0]) ⟨hx, hb, hml, hown, hts⟩ (c_X2_size l D cy wi vi nw ) gX0_study_X2_size rfl (by decide +kernel) ⟨Nat.le_of_ble_eq_true rfl, Nat.le_of_ble_eq_true rfl⟩ hK hT hP hD hS hA [3] rfl rfl 3 2 rfl rfl rfl (fun _ => rfl) rfl hl.1 rfl (Nat.le_of_ble_eq_true rfl) dX0_study_2 ⟨Nat.zero_le _, Nat.zero_le _⟩ (fun r_1 u_1 H locs hw_1 hP hD hS => ?_)
  have hw_1 : r_1 = iI nw := hw_1
  have hP : va_P D vwCl [(n0, .inr (0, [.ref b0, .ref k0, .int (iI en)])), (b0, .inl (cy 0, 17, .inl (zI B))), (k0, .inl (cy 0, 17, .inl (zI Kf))), (wi, .inr (2, [.ref vi, .int (iI nw)])), (vi, .inl (cy 0, 16, .inl Fw))] H := hP
  have hD : va_D A [(n0, .inr (0, [.ref b0, .ref k0, .int (iI en)])), (b0, .inl (cy 0, 17, .inl (zI B))), (k0, .inl (cy 0, 17, .inl (zI Kf))), (wi, .inr (2, [.ref vi, .int (iI nw)])), (vi, .inl (cy 0, 16, .inl Fw))] := hD
  obtain rfl := hw_1
  refine lv_bipush (v := iI 16) hx hb dX0_study_5 (by decide +kernel) ?_
  refine z_mmin (hml := hml.trans hl.1.symm) hx hb hown (hts (.methodLink RX0 24 Lib.Math.min.name) (by decide +kernel)) (hts (.static Lib.Math.min.name) (by decide +kernel)) (hts (.initialized "java/lang/Math") (by decide +kernel)) (hts (.code Lib.Math.min.name Lib.Math.min.code 2 (some .int)) (by decide +kernel)) (Nat.le_of_ble_eq_true rfl) (Nat.le_of_ble_eq_true rfl) (Nat.zero_le _) (Nat.zero_le _) (by omega) (by omega) (by omega) (by omega) dX0_study_7 (fun z_2 e_2 => ?_)
  refine va_put (D := D) (ci := 0) (v := .int (iI z_2)) (ty := .int) (C := RX0) (T := TX0) (N := 3) hx hb hts hiX0 tyX0 tyX0_ok nmX0 hown hK hP hD hS 0 rfl rfl 2 (by decide) (hts (.fieldLink RX0 30 "BackwardSearch$Ends" "length" "I") (by decide +kernel)) (fun _ h9 => h9) rfl (by decide +kernel) rfl rfl (Nat.le_of_ble_eq_true rfl) dX0_study_10 (fun H locs hP hD hS => ?_)
  have hP : va_P D vwCl [(n0, .inr (0, [.ref b0, .ref k0, .int (iI z_2)])), (b0, .inl (cy 0, 17, .inl (zI B))), (k0, .inl (cy 0, 17, .inl (zI Kf))), (wi, .inr (2, [.ref vi, .int (iI nw)])), (vi, .inl (cy 0, 16, .inl Fw))] H := hP
  have hD : va_D A [(n0, .inr (0, [.ref b0, .ref k0, .int (iI z_2)])), (b0, .inl (cy 0, 17, .inl (zI B))), (k0, .inl (cy 0, 17, .inl (zI Kf))), (wi, .inr (2, [.ref vi, .int (iI nw)])), (vi, .inl (cy 0, 16, .inl Fw))] := hD
  obtain rfl : nw = z_2 := by omega
  refine lv_iconst (v := iI 0) hx hb dX0_study_13 rfl ?_
  refine lv_istore_n (lv' := [(2, .int (iI 0)), (0, .ref n0), (1, .ref wi)]) hx hb dX0_study_14 rfl hl (by decide) rfl (fun ls hl => ?_)
  have hloop3 : ∀ (n3 : Nat) (i : Int) (K2 : Nat → Int) (hi : 0 ≤ i ∧ i ≤ nw + 1) (hz : K2 = zF i Kf) (hm : nw + 1 - i < (n3 : Int)) (H : Heap) (locs : List Loc) (ls : Array Slot) (hP : va_P D vwCl [(n0, .inr (0, [.ref b0, .ref k0, .int (iI nw)])), (b0, .inl (cy 0, 17, .inl (zI B))), (k0, .inl (cy 0, 17, .inl (zI K2))), (wi, .inr (2, [.ref vi, .int (iI nw)])), (vi, .inl (cy 0, 16, .inl Fw))] H) (hD : va_D A [(n0, .inr (0, [.ref b0, .ref k0, .int (iI nw)])), (b0, .inl (cy 0, 17, .inl (zI B))), (k0, .inl (cy 0, 17, .inl (zI K2))), (wi, .inr (2, [.ref vi, .int (iI nw)])), (vi, .inl (cy 0, 16, .inl Fw))]) (hS : va_S A s.heap H locs) (hl : lv_has ls 3 [(2, .int (iI i)), (0, .ref n0), (1, .ref wi)]), W p l e ({ frames := 4, cells := 0, slots := 0, locals := 90 } : Room) s m args below meth c H locs 0 0 (MQ below (va_Qv (fun (u : (Nat → Int) × (Nat → Int)) => u.1 = studyB nw.toNat Fw B Kf ∧ u.2 = studyK nw.toNat Fw B Kf) (fun u t => va_P D vwCl ((fun u : (Nat → Int) × (Nat → Int) => [(n0, .inr (0, [.ref b0, .ref k0, .int (iI nw)])), (b0, .inl (cy 0, 17, .inl (zI u.1))), (k0, .inl (cy 0, 17, .inl (zI u.2))), (wi, .inr (2, [.ref vi, .int (iI nw)])), (vi, .inl (cy 0, 16, .inl Fw))]) u) t.heap) A) args s 0 0 A) (F0 m 15 ls []) := by
    intro n3
    induction n3 with
    | zero =>
      intro i K2 hi hz hm; exact absurd hm (by omega)
    | succ n3 ih3 =>
      intro i K2 hi hz hm H locs ls hP hD hS hl
      refine lv_iload_n hx hb dX0_study_15 rfl (lv_at hl 0 rfl) ?_
      refine lv_aload_n hx hb dX0_study_16 rfl (lv_at hl 1 rfl) ?_
      refine va_get (D := D) (ci := 0) (v := .int (iI nw)) (C := RX0) (T := TX0) (N := 3) hx hb hts hiX0 hown hK hP 0 rfl rfl 2 (by decide) (hts (.fieldLink RX0 30 "BackwardSearch$Ends" "length" "I") (by decide +kernel)) (fun _ h9 => h9) rfl dX0_study_17 ?_
      refine z_icmp_gt (tgt := 36) hx hb (iI_t (by omega) (by omega)) (iI_t (by omega) (by omega)) dX0_study_20 (by decide) (fun c4 => ?_) (fun c4 => ?_)
      · --
        obtain rfl : i = nw + 1 := by omega
        subst hz
        have hzr := zF_rng hk (nw + 1)
        have hfr := findF_rng (m := nw.toNat) (by omega) (W := Fw) nw.toNat (nw + 1) (updZ B nw.toNat (nw + 1)) (zF (nw + 1) Kf) (by omega) (by omega) (by omega) (fun j h1 h2 => by rw [show j = nw.toNat by omega, updZ_same]; omega) hzr
        refine lv_aload_n hx hb dX0_study_36 rfl (lv_at hl 1 rfl) ?_
        refine lv_aload_n hx hb dX0_study_37 rfl (lv_at hl 2 rfl) ?_
        refine z_cVv (n := 1) (b := n0) (As := [.ref wi]) (rest := []) ⟨hx, hb, hml, hown, hts⟩ (c_X0_findBorders l D cy n0 b0 k0 B (zF (nw + 1) Kf) wi vi nw Fw (by omega) (hzr)) gX0_study_X0_findBorders rfl (by decide +kernel) ⟨Nat.le_of_ble_eq_true rfl, Nat.le_of_ble_eq_true rfl⟩ hK hT hP hD hS hA [0, 1, 2, 3, 4] rfl rfl 0 0 rfl rfl rfl (fun _ => rfl) rfl hl.1 rfl (Nat.le_of_ble_eq_true rfl) dX0_study_38 ⟨Nat.zero_le _, Nat.zero_le _⟩ (fun  u_5 H locs hw_5 hP hD hS => ?_)
        obtain ⟨B1_5, K1_5⟩ := u_5
        have hw_5 : B1_5 = (findF nw.toNat Fw nw.toNat (nw + 1) (updZ B nw.toNat (nw + 1)) (zF (nw + 1) Kf)).1 ∧ K1_5 = (findF nw.toNat Fw nw.toNat (nw + 1) (updZ B nw.toNat (nw + 1)) (zF (nw + 1) Kf)).2 := hw_5
        have hP : va_P D vwCl [(n0, .inr (0, [.ref b0, .ref k0, .int (iI nw)])), (b0, .inl (cy 0, 17, .inl (zI B1_5))), (k0, .inl (cy 0, 17, .inl (zI K1_5))), (wi, .inr (2, [.ref vi, .int (iI nw)])), (vi, .inl (cy 0, 16, .inl Fw))] H := hP
        have hD : va_D A [(n0, .inr (0, [.ref b0, .ref k0, .int (iI nw)])), (b0, .inl (cy 0, 17, .inl (zI B1_5))), (k0, .inl (cy 0, 17, .inl (zI K1_5))), (wi, .inr (2, [.ref vi, .int (iI nw)])), (vi, .inl (cy 0, 16, .inl Fw))] := hD
        obtain ⟨rfl, rfl⟩ := hw_5
        refine lv_aload_n hx hb dX0_study_41 rfl (lv_at hl 1 rfl) ?_
        refine z_cVv (n := 0) (b := n0) (As := []) (rest := []) ⟨hx, hb, hml, hown, hts⟩ (c_X0_skipToBordersOfTheWord l D cy n0 b0 k0 nw ((findF nw.toNat Fw nw.toNat (nw + 1) (updZ B nw.toNat (nw + 1)) (zF (nw + 1) Kf)).1) ((findF nw.toNat Fw nw.toNat (nw + 1) (updZ B nw.toNat (nw + 1)) (zF (nw + 1) Kf)).2) (by omega) (fun j hj => by have := hfr.1 j (by omega); omega) (hfr.2)) gX0_study_X0_skipToBordersOfTheWord rfl (by decide +kernel) ⟨Nat.le_of_ble_eq_true rfl, Nat.le_of_ble_eq_true rfl⟩ hK hT hP hD hS hA [0, 1, 2] rfl rfl 0 0 rfl rfl rfl (fun _ => rfl) rfl hl.1 rfl (Nat.le_of_ble_eq_true rfl) dX0_study_42 ⟨Nat.zero_le _, Nat.zero_le _⟩ (fun  u_6 H locs hw_6 hP hD hS => ?_)
        obtain ⟨K1_6, rfl⟩ : ∃ z, z = u_6 := ⟨_, rfl⟩
        have hw_6 : K1_6 = (tailF ((findF nw.toNat Fw nw.toNat (nw + 1) (updZ B nw.toNat (nw + 1)) (zF (nw + 1) Kf)).1) (nw + 1).toNat 0 (((findF nw.toNat Fw nw.toNat (nw + 1) (updZ B nw.toNat (nw + 1)) (zF (nw + 1) Kf)).1) 0) ((findF nw.toNat Fw nw.toNat (nw + 1) (updZ B nw.toNat (nw + 1)) (zF (nw + 1) Kf)).2)) := hw_6
        have hP : va_P D vwCl [(n0, .inr (0, [.ref b0, .ref k0, .int (iI nw)])), (b0, .inl (cy 0, 17, .inl (zI ((findF nw.toNat Fw nw.toNat (nw + 1) (updZ B nw.toNat (nw + 1)) (zF (nw + 1) Kf)).1)))), (k0, .inl (cy 0, 17, .inl (zI K1_6))), (wi, .inr (2, [.ref vi, .int (iI nw)])), (vi, .inl (cy 0, 16, .inl Fw))] H := hP
        have hD : va_D A [(n0, .inr (0, [.ref b0, .ref k0, .int (iI nw)])), (b0, .inl (cy 0, 17, .inl (zI ((findF nw.toNat Fw nw.toNat (nw + 1) (updZ B nw.toNat (nw + 1)) (zF (nw + 1) Kf)).1)))), (k0, .inl (cy 0, 17, .inl (zI K1_6))), (wi, .inr (2, [.ref vi, .int (iI nw)])), (vi, .inl (cy 0, 16, .inl Fw))] := hD
        obtain rfl := hw_6
        exact z_vret hx hb hr hlocks hS (((findF nw.toNat Fw nw.toNat (nw + 1) (updZ B nw.toNat (nw + 1)) (zF (nw + 1) Kf)).1), (tailF ((findF nw.toNat Fw nw.toNat (nw + 1) (updZ B nw.toNat (nw + 1)) (zF (nw + 1) Kf)).1) (nw + 1).toNat 0 (((findF nw.toNat Fw nw.toNat (nw + 1) (updZ B nw.toNat (nw + 1)) (zF (nw + 1) Kf)).1) 0) ((findF nw.toNat Fw nw.toNat (nw + 1) (updZ B nw.toNat (nw + 1)) (zF (nw + 1) Kf)).2))) (show ((findF nw.toNat Fw nw.toNat (nw + 1) (updZ B nw.toNat (nw + 1)) (zF (nw + 1) Kf)).1) = studyB nw.toNat Fw B Kf ∧ (tailF ((findF nw.toNat Fw nw.toNat (nw + 1) (updZ B nw.toNat (nw + 1)) (zF (nw + 1) Kf)).1) (nw + 1).toNat 0 (((findF nw.toNat Fw nw.toNat (nw + 1) (updZ B nw.toNat (nw + 1)) (zF (nw + 1) Kf)).1) 0) ((findF nw.toNat Fw nw.toNat (nw + 1) (updZ B nw.toNat (nw + 1)) (zF (nw + 1) Kf)).2)) = studyK nw.toNat Fw B Kf from (study_eq (by omega))) hP dX0_study_45
      · --
        refine lv_aload_n hx hb dX0_study_23 rfl (lv_at hl 1 rfl) ?_
        refine va_get (D := D) (ci := 0) (v := .ref k0) (C := RX0) (T := TX0) (N := 3) hx hb hts hiX0 hown hK hP 0 rfl rfl 1 (by decide) (hts (.fieldLink RX0 15 "BackwardSearch$Ends" "skipOf" "[I") (by decide +kernel)) (fun _ h9 => h9) rfl dX0_study_24 ?_
        refine lv_iload_n hx hb dX0_study_27 rfl (lv_at hl 0 rfl) ?_
        refine lv_iconst (v := iI 0) hx hb dX0_study_28 rfl ?_
        refine z_iast hx hb hK hP hD hS 2 rfl (by omega) (by omega) (by omega) dX0_study_29 (fun H locs hP hD hS => ?_)
        rw [zI_upd] at hP hD
        have hP : va_P D vwCl [(n0, .inr (0, [.ref b0, .ref k0, .int (iI nw)])), (b0, .inl (cy 0, 17, .inl (zI B))), (k0, .inl (cy 0, 17, .inl (zI (updZ K2 i.toNat 0)))), (wi, .inr (2, [.ref vi, .int (iI nw)])), (vi, .inl (cy 0, 16, .inl Fw))] H := hP
        have hD : va_D A [(n0, .inr (0, [.ref b0, .ref k0, .int (iI nw)])), (b0, .inl (cy 0, 17, .inl (zI B))), (k0, .inl (cy 0, 17, .inl (zI (updZ K2 i.toNat 0)))), (wi, .inr (2, [.ref vi, .int (iI nw)])), (vi, .inl (cy 0, 16, .inl Fw))] := hD
        refine z_iinc (lv' := [(2, .int (iI (i + 1))), (0, .ref n0), (1, .ref wi)]) hx hb dX0_study_30 hl (k := 0) rfl (by decide) rfl (fun ls hl => ?_)
        refine lv_goto (tgt := 15) hx hb dX0_study_33 (by decide) ?_
        exact ih3 (i + 1) (updZ K2 i.toNat 0) (by omega) (by rw [hz]; exact zF_step i hi.1 Kf) (by omega) _ _ _ hP hD hS (lv_sub hl [0, 1, 2] rfl)
  exact hloop3 (Int.toNat (nw + 1 - 0) + 1) 0 Kf (by omega) ((zF_0 Kf).symm) (by omega) _ _ _ hP hD hS (lv_sub hl [0, 1, 2] rfl)
end
section
theorem dX1_size_0 : decode cX1_size 0 = .ok (.aload_n 0, 1) := by decide +kernel
theorem dX1_size_1 : decode cX1_size 1 = .ok (.getfield 18, 3) := by decide +kernel
theorem dX1_size_4 : decode cX1_size 4 = .ok (.ireturn, 1) := by decide +kernel
theorem dX1_keep_0 : decode cX1_keep 0 = .ok (.aload_n 0, 1) := by decide +kernel
theorem dX1_keep_1 : decode cX1_keep 1 = .ok (.getfield 11, 3) := by decide +kernel
theorem dX1_keep_4 : decode cX1_keep 4 = .ok (.aload_n 0, 1) := by decide +kernel
theorem dX1_keep_5 : decode cX1_keep 5 = .ok (.getfield 22, 3) := by decide +kernel
theorem dX1_keep_8 : decode cX1_keep 8 = .ok (.aaload, 1) := by decide +kernel
theorem dX1_keep_9 : decode cX1_keep 9 = .ok (.aload_n 1, 1) := by decide +kernel
theorem dX1_keep_10 : decode cX1_keep 10 = .ok (.invokevirtual 25, 3) := by decide +kernel
theorem dX1_keep_13 : decode cX1_keep 13 = .ok (.aload_n 0, 1) := by decide +kernel
theorem dX1_keep_14 : decode cX1_keep 14 = .ok (.aload_n 0, 1) := by decide +kernel
theorem dX1_keep_15 : decode cX1_keep 15 = .ok (.getfield 22, 3) := by decide +kernel
theorem dX1_keep_18 : decode cX1_keep 18 = .ok (.iconst 1, 1) := by decide +kernel
theorem dX1_keep_19 : decode cX1_keep 19 = .ok (.iadd, 1) := by decide +kernel
theorem dX1_keep_20 : decode cX1_keep 20 = .ok (.bipush 6, 2) := by decide +kernel
theorem dX1_keep_22 : decode cX1_keep 22 = .ok (.if_icmp .ge 12, 3) := by decide +kernel
theorem dX1_keep_25 : decode cX1_keep 25 = .ok (.aload_n 0, 1) := by decide +kernel
theorem dX1_keep_26 : decode cX1_keep 26 = .ok (.getfield 22, 3) := by decide +kernel
theorem dX1_keep_29 : decode cX1_keep 29 = .ok (.iconst 1, 1) := by decide +kernel
theorem dX1_keep_30 : decode cX1_keep 30 = .ok (.iadd, 1) := by decide +kernel
theorem dX1_keep_31 : decode cX1_keep 31 = .ok (.goto 4, 3) := by decide +kernel
theorem dX1_keep_34 : decode cX1_keep 34 = .ok (.iconst 0, 1) := by decide +kernel
theorem dX1_keep_35 : decode cX1_keep 35 = .ok (.putfield 22, 3) := by decide +kernel
theorem dX1_keep_38 : decode cX1_keep 38 = .ok (.aload_n 0, 1) := by decide +kernel
theorem dX1_keep_39 : decode cX1_keep 39 = .ok (.aload_n 0, 1) := by decide +kernel
theorem dX1_keep_40 : decode cX1_keep 40 = .ok (.getfield 18, 3) := by decide +kernel
theorem dX1_keep_43 : decode cX1_keep 43 = .ok (.iconst 1, 1) := by decide +kernel
theorem dX1_keep_44 : decode cX1_keep 44 = .ok (.iadd, 1) := by decide +kernel
theorem dX1_keep_45 : decode cX1_keep 45 = .ok (.bipush 6, 2) := by decide +kernel
theorem dX1_keep_47 : decode cX1_keep 47 = .ok (.invokestatic 29, 3) := by decide +kernel
theorem dX1_keep_50 : decode cX1_keep 50 = .ok (.putfield 18, 3) := by decide +kernel
theorem dX1_keep_53 : decode cX1_keep 53 = .ok (.return_, 1) := by decide +kernel
set_option maxRecDepth 20000 in
theorem ggX1_keep_X3_copy : GoodIn wsX1_keep wsX3_copy := goodIn_r _ [12, 13, 14, 15, 16, 17, 18, 19, 20, 21, 22, 23, 24, 25, 26, 27, 28, 29, 30, 31, 32, 33, 34, 35, 39, 40, 41, 42, 43, 44, 45, 46, 47, 48] (by decide +kernel) (by decide +kernel)
set_option maxRecDepth 20000 in
theorem gX1_keep_X3_copy : GoodIn wsX1_keep (wsV RX1 25 RX3 yX3_copy wsX3_copy) := goodIn_app (goodIn_of _ (by decide +kernel)) ggX1_keep_X3_copy
theorem dX1_giveBack_0 : decode cX1_giveBack 0 = .ok (.aload_n 0, 1) := by decide +kernel
theorem dX1_giveBack_1 : decode cX1_giveBack 1 = .ok (.getfield 18, 3) := by decide +kernel
theorem dX1_giveBack_4 : decode cX1_giveBack 4 = .ok (.ifCond .le 47, 3) := by decide +kernel
theorem dX1_giveBack_7 : decode cX1_giveBack 7 = .ok (.aload_n 0, 1) := by decide +kernel
theorem dX1_giveBack_8 : decode cX1_giveBack 8 = .ok (.aload_n 0, 1) := by decide +kernel
theorem dX1_giveBack_9 : decode cX1_giveBack 9 = .ok (.getfield 22, 3) := by decide +kernel
theorem dX1_giveBack_12 : decode cX1_giveBack 12 = .ok (.ifCond .le 12, 3) := by decide +kernel
theorem dX1_giveBack_15 : decode cX1_giveBack 15 = .ok (.aload_n 0, 1) := by decide +kernel
theorem dX1_giveBack_16 : decode cX1_giveBack 16 = .ok (.getfield 22, 3) := by decide +kernel
theorem dX1_giveBack_19 : decode cX1_giveBack 19 = .ok (.iconst 1, 1) := by decide +kernel
theorem dX1_giveBack_20 : decode cX1_giveBack 20 = .ok (.isub, 1) := by decide +kernel
theorem dX1_giveBack_21 : decode cX1_giveBack 21 = .ok (.goto 4, 3) := by decide +kernel
theorem dX1_giveBack_24 : decode cX1_giveBack 24 = .ok (.iconst 5, 1) := by decide +kernel
theorem dX1_giveBack_25 : decode cX1_giveBack 25 = .ok (.putfield 22, 3) := by decide +kernel
theorem dX1_giveBack_28 : decode cX1_giveBack 28 = .ok (.aload_n 0, 1) := by decide +kernel
theorem dX1_giveBack_29 : decode cX1_giveBack 29 = .ok (.dup, 1) := by decide +kernel
theorem dX1_giveBack_30 : decode cX1_giveBack 30 = .ok (.getfield 18, 3) := by decide +kernel
theorem dX1_giveBack_33 : decode cX1_giveBack 33 = .ok (.iconst 1, 1) := by decide +kernel
theorem dX1_giveBack_34 : decode cX1_giveBack 34 = .ok (.isub, 1) := by decide +kernel
theorem dX1_giveBack_35 : decode cX1_giveBack 35 = .ok (.putfield 18, 3) := by decide +kernel
theorem dX1_giveBack_38 : decode cX1_giveBack 38 = .ok (.aload_n 1, 1) := by decide +kernel
theorem dX1_giveBack_39 : decode cX1_giveBack 39 = .ok (.aload_n 0, 1) := by decide +kernel
theorem dX1_giveBack_40 : decode cX1_giveBack 40 = .ok (.getfield 11, 3) := by decide +kernel
theorem dX1_giveBack_43 : decode cX1_giveBack 43 = .ok (.aload_n 0, 1) := by decide +kernel
theorem dX1_giveBack_44 : decode cX1_giveBack 44 = .ok (.getfield 22, 3) := by decide +kernel
theorem dX1_giveBack_47 : decode cX1_giveBack 47 = .ok (.aaload, 1) := by decide +kernel
theorem dX1_giveBack_48 : decode cX1_giveBack 48 = .ok (.invokevirtual 25, 3) := by decide +kernel
theorem dX1_giveBack_51 : decode cX1_giveBack 51 = .ok (.return_, 1) := by decide +kernel
set_option maxRecDepth 20000 in
theorem ggX1_giveBack_X3_copy : GoodIn wsX1_giveBack wsX3_copy := goodIn_r _ [8, 9, 10, 11, 12, 13, 14, 15, 16, 17, 18, 19, 20, 21, 22, 23, 24, 25, 26, 27, 28, 29, 30, 31, 35, 36, 37, 38, 39, 40, 41, 42, 43, 44] (by decide +kernel) (by decide +kernel)
set_option maxRecDepth 20000 in
theorem gX1_giveBack_X3_copy : GoodIn wsX1_giveBack (wsV RX1 25 RX3 yX3_copy wsX3_copy) := goodIn_app (goodIn_of _ (by decide +kernel)) ggX1_giveBack_X3_copy
set_option maxHeartbeats 4000000 in
set_option maxRecDepth 100000 in
theorem c_X1_size (l : Launch) (D : va_G) (cy : Nat → ClassId) (h0 : Nat) (k0 : Nat) (nx : Int) (ct : Int) : Ci l D cy yX1_size wsX1_size 0 0 [.ref h0] [(h0, .inr (1, [.ref k0, .int (iI nx), .int (iI ct)]))] (fun (r : Int32) (u : Unit) => r = iI ct) (fun u : Unit => [(h0, .inr (1, [.ref k0, .int (iI nx), .int (iI ct)]))]) := by
  refine Ci_of (cc := cX1_size) (maxL := 1) (ret := (some .int)) (by decide) rfl rfl ?_
  intro p e s m args below meth c A hx hb hr hts hown hlocks hml hP hK hD hT hA ls hl
  have hS : va_S A s.heap s.heap [] := va_S.rf
  have hl : lv_has ls 1 [(0, .ref h0)] := hl
  have hiX1 : ∀ w ∈ wsX10, w ∈ wsX1_size := by decide +kernel
  refine lv_aload_n hx hb dX1_size_0 rfl (lv_at hl 0 rfl) ?_
  refine va_get (D := D) (ci := 1) (v := .int (iI ct)) (C := RX1) (T := TX1) (N := 3) hx hb hts hiX1 hown hK hP 0 rfl rfl 2 (by decide) (hts (.fieldLink RX1 18 "BackwardSearch$History" "count" "I") (by decide +kernel)) (fun _ h9 => h9) rfl dX1_size_1 ?_
  exact z_iret hx hb hr hlocks hS () (show (iI ct) = iI ct from rfl) hP dX1_size_4
set_option maxHeartbeats 4000000 in
set_option maxRecDepth 100000 in
theorem c_X1_keep (l : Launch) (D : va_G) (cy : Nat → ClassId) (h0 : Nat) (k0 : Nat) (R : Nat → Option Nat) (nx : Int) (ct : Int) (sia : Nat) (lia : Nat) (mia : Nat) (wia : Nat) (via : Nat) (gia : Nat) (eia : Nat) (nla : Int) (Fla : Nat → Int32) (nwa : Int) (Fwa : Nat → Int32) (nfa : Int) (Ffa : Nat → Int32) (lra : Int) (era : Int) (pla : Int) (lka : Int) (cpa : Int) (sib : Nat) (lib : Nat) (mib : Nat) (wib : Nat) (vib : Nat) (gib : Nat) (eib : Nat) (nlb : Int) (Flb : Nat → Int32) (nwb : Int) (Fwb : Nat → Int32) (nfb : Int) (Ffb : Nat → Int32) (lrb : Int) (erb : Int) (plb : Int) (lkb : Int) (cpb : Int) (hbb : 0 ≤ nlb ∧ nlb ≤ 60 ∧ 0 ≤ nwb ∧ nwb ≤ 16 ∧ 0 ≤ nfb ∧ nfb ≤ plb ∧ plb ≤ 100 ∧ nfb ≤ 60 ∧ 0 ≤ lkb ∧ lkb ≤ plb ∧ 0 ≤ cpb ∧ cpb ≤ 16 * lkb ∧ 0 ≤ lrb ∧ lrb ≤ 1 ∧ 0 ≤ erb ∧ erb ≤ 1) (hn : 0 ≤ nx ∧ nx < 6 ∧ 0 ≤ ct ∧ ct ≤ 6) (hR : R nx.toNat = some sia) : Cv l D cy yX1_keep wsX1_keep 3 64 [.ref h0, .ref sib] [(h0, .inr (1, [.ref k0, .int (iI nx), .int (iI ct)])), (k0, .inl (cy 2, 6, .inr (.inr (.inr (.inr R))))), (sia, .inr (3, [.ref lia, .ref wia, .ref gia, .int (iI lra), .int (iI era), .int (iI pla), .int (iI lka), .int (iI cpa)])), (lia, .inr (2, [.ref mia, .int (iI nla)])), (mia, .inl (cy 0, 60, .inl Fla)), (wia, .inr (2, [.ref via, .int (iI nwa)])), (via, .inl (cy 0, 16, .inl Fwa)), (gia, .inr (2, [.ref eia, .int (iI nfa)])), (eia, .inl (cy 0, 60, .inl Ffa)), (sib, .inr (3, [.ref lib, .ref wib, .ref gib, .int (iI lrb), .int (iI erb), .int (iI plb), .int (iI lkb), .int (iI cpb)])), (lib, .inr (2, [.ref mib, .int (iI nlb)])), (mib, .inl (cy 0, 60, .inl Flb)), (wib, .inr (2, [.ref vib, .int (iI nwb)])), (vib, .inl (cy 0, 16, .inl Fwb)), (gib, .inr (2, [.ref eib, .int (iI nfb)])), (eib, .inl (cy 0, 60, .inl Ffb))] (fun (u : Int × Int × (Nat → Int32) × (Nat → Int32) × (Nat → Int32)) => u.1 = (if nx + 1 < 6 then nx + 1 else 0) ∧ u.2.1 = min (ct + 1) 6 ∧ (∀ j : Nat, (j : Int) < nlb → u.2.2.1 j = Flb j) ∧ (∀ j : Nat, (j : Int) < nwb → u.2.2.2.1 j = Fwb j) ∧ ∀ j : Nat, (j : Int) < nfb → u.2.2.2.2 j = Ffb j) (fun u : Int × Int × (Nat → Int32) × (Nat → Int32) × (Nat → Int32) => [(h0, .inr (1, [.ref k0, .int (iI u.1), .int (iI u.2.1)])), (k0, .inl (cy 2, 6, .inr (.inr (.inr (.inr R))))), (sia, .inr (3, [.ref lia, .ref wia, .ref gia, .int (iI lrb), .int (iI erb), .int (iI plb), .int (iI lkb), .int (iI cpb)])), (lia, .inr (2, [.ref mia, .int (iI nlb)])), (mia, .inl (cy 0, 60, .inl u.2.2.1)), (wia, .inr (2, [.ref via, .int (iI nwb)])), (via, .inl (cy 0, 16, .inl u.2.2.2.1)), (gia, .inr (2, [.ref eia, .int (iI nfb)])), (eia, .inl (cy 0, 60, .inl u.2.2.2.2)), (sib, .inr (3, [.ref lib, .ref wib, .ref gib, .int (iI lrb), .int (iI erb), .int (iI plb), .int (iI lkb), .int (iI cpb)])), (lib, .inr (2, [.ref mib, .int (iI nlb)])), (mib, .inl (cy 0, 60, .inl Flb)), (wib, .inr (2, [.ref vib, .int (iI nwb)])), (vib, .inl (cy 0, 16, .inl Fwb)), (gib, .inr (2, [.ref eib, .int (iI nfb)])), (eib, .inl (cy 0, 60, .inl Ffb))]) := by
  refine Cv_of (cc := cX1_keep) (maxL := 2) (ret := none) (by decide) rfl rfl ?_
  intro p e s m args below meth c A hx hb hr hts hown hlocks hml hP hK hD hT hA ls hl
  have hS : va_S A s.heap s.heap [] := va_S.rf
  have hl : lv_has ls 2 [(0, .ref h0), (1, .ref sib)] := hl
  have hiX1 : ∀ w ∈ wsX10, w ∈ wsX1_keep := by decide +kernel
  refine lv_aload_n hx hb dX1_keep_0 rfl (lv_at hl 0 rfl) ?_
  refine va_get (D := D) (ci := 1) (v := .ref k0) (C := RX1) (T := TX1) (N := 3) hx hb hts hiX1 hown hK hP 0 rfl rfl 0 (by decide) (hts (.fieldLink RX1 11 "BackwardSearch$History" "kept" "[LBackwardSearch$State;") (by decide +kernel)) (fun _ h9 => h9) rfl dX1_keep_1 ?_
  refine lv_aload_n hx hb dX1_keep_4 rfl (lv_at hl 0 rfl) ?_
  refine va_get (D := D) (ci := 1) (v := .int (iI nx)) (C := RX1) (T := TX1) (N := 3) hx hb hts hiX1 hown hK hP 0 rfl rfl 1 (by decide) (hts (.fieldLink RX1 22 "BackwardSearch$History" "next" "I") (by decide +kernel)) (fun _ h9 => h9) rfl dX1_keep_5 ?_
  refine z_aldq (b := sia) hx hb hK hP 1 rfl (by omega) (by omega) (by omega) hR dX1_keep_8 ?_
  refine lv_aload_n hx hb dX1_keep_9 rfl (lv_at hl 1 rfl) ?_
  refine z_cVv (n := 1) (b := sia) (As := [.ref sib]) (rest := []) ⟨hx, hb, hml, hown, hts⟩ (c_X3_copy l D cy sia lia mia wia via gia eia nla Fla nwa Fwa nfa Ffa lra era pla lka cpa sib lib mib wib vib gib eib nlb Flb nwb Fwb nfb Ffb lrb erb plb lkb cpb (by omega)) gX1_keep_X3_copy rfl (by decide +kernel) ⟨Nat.le_of_ble_eq_true rfl, Nat.le_of_ble_eq_true rfl⟩ hK hT hP hD hS hA [2, 3, 4, 5, 6, 7, 8, 9, 10, 11, 12, 13, 14, 15] rfl rfl 2 3 rfl rfl rfl (fun _ => rfl) rfl hl.1 rfl (Nat.le_of_ble_eq_true rfl) dX1_keep_10 ⟨Nat.zero_le _, Nat.zero_le _⟩ (fun  u_1 H locs hw_1 hP hD hS => ?_)
  obtain ⟨Gl_1, Gw_1, Gf_1⟩ := u_1
  have hw_1 : (∀ j : Nat, (j : Int) < nlb → Gl_1 j = Flb j) ∧ (∀ j : Nat, (j : Int) < nwb → Gw_1 j = Fwb j) ∧ ∀ j : Nat, (j : Int) < nfb → Gf_1 j = Ffb j := hw_1
  have hP : va_P D vwCl [(h0, .inr (1, [.ref k0, .int (iI nx), .int (iI ct)])), (k0, .inl (cy 2, 6, .inr (.inr (.inr (.inr R))))), (sia, .inr (3, [.ref lia, .ref wia, .ref gia, .int (iI lrb), .int (iI erb), .int (iI plb), .int (iI lkb), .int (iI cpb)])), (lia, .inr (2, [.ref mia, .int (iI nlb)])), (mia, .inl (cy 0, 60, .inl Gl_1)), (wia, .inr (2, [.ref via, .int (iI nwb)])), (via, .inl (cy 0, 16, .inl Gw_1)), (gia, .inr (2, [.ref eia, .int (iI nfb)])), (eia, .inl (cy 0, 60, .inl Gf_1)), (sib, .inr (3, [.ref lib, .ref wib, .ref gib, .int (iI lrb), .int (iI erb), .int (iI plb), .int (iI lkb), .int (iI cpb)])), (lib, .inr (2, [.ref mib, .int (iI nlb)])), (mib, .inl (cy 0, 60, .inl Flb)), (wib, .inr (2, [.ref vib, .int (iI nwb)])), (vib, .inl (cy 0, 16, .inl Fwb)), (gib, .inr (2, [.ref eib, .int (iI nfb)])), (eib, .inl (cy 0, 60, .inl Ffb))] H := hP
  have hD : va_D A [(h0, .inr (1, [.ref k0, .int (iI nx), .int (iI ct)])), (k0, .inl (cy 2, 6, .inr (.inr (.inr (.inr R))))), (sia, .inr (3, [.ref lia, .ref wia, .ref gia, .int (iI lrb), .int (iI erb), .int (iI plb), .int (iI lkb), .int (iI cpb)])), (lia, .inr (2, [.ref mia, .int (iI nlb)])), (mia, .inl (cy 0, 60, .inl Gl_1)), (wia, .inr (2, [.ref via, .int (iI nwb)])), (via, .inl (cy 0, 16, .inl Gw_1)), (gia, .inr (2, [.ref eia, .int (iI nfb)])), (eia, .inl (cy 0, 60, .inl Gf_1)), (sib, .inr (3, [.ref lib, .ref wib, .ref gib, .int (iI lrb), .int (iI erb), .int (iI plb), .int (iI lkb), .int (iI cpb)])), (lib, .inr (2, [.ref mib, .int (iI nlb)])), (mib, .inl (cy 0, 60, .inl Flb)), (wib, .inr (2, [.ref vib, .int (iI nwb)])), (vib, .inl (cy 0, 16, .inl Fwb)), (gib, .inr (2, [.ref eib, .int (iI nfb)])), (eib, .inl (cy 0, 60, .inl Ffb))] := hD
  refine lv_aload_n hx hb dX1_keep_13 rfl (lv_at hl 0 rfl) ?_
  refine lv_aload_n hx hb dX1_keep_14 rfl (lv_at hl 0 rfl) ?_
  refine va_get (D := D) (ci := 1) (v := .int (iI nx)) (C := RX1) (T := TX1) (N := 3) hx hb hts hiX1 hown hK hP 0 rfl rfl 1 (by decide) (hts (.fieldLink RX1 22 "BackwardSearch$History" "next" "I") (by decide +kernel)) (fun _ h9 => h9) rfl dX1_keep_15 ?_
  refine lv_iconst (v := iI 1) hx hb dX1_keep_18 rfl ?_
  refine z_add hx hb dX1_keep_19 ?_
  refine lv_bipush (v := iI 6) hx hb dX1_keep_20 (by decide +kernel) ?_
  refine z_icmp_ge (tgt := 34) hx hb (iI_t (by omega) (by omega)) (iI_t (by omega) (by omega)) dX1_keep_22 (by decide) (fun c2 => ?_) (fun c2 => ?_)
  · --
    refine lv_iconst (v := iI 0) hx hb dX1_keep_34 rfl ?_
    refine va_put (D := D) (ci := 1) (v := .int (iI 0)) (ty := .int) (C := RX1) (T := TX1) (N := 3) hx hb hts hiX1 tyX1 tyX1_ok nmX1 hown hK hP hD hS 0 rfl rfl 1 (by decide) (hts (.fieldLink RX1 22 "BackwardSearch$History" "next" "I") (by decide +kernel)) (fun _ h9 => h9) rfl (by decide +kernel) rfl rfl (Nat.le_of_ble_eq_true rfl) dX1_keep_35 (fun H locs hP hD hS => ?_)
    have hP : va_P D vwCl [(h0, .inr (1, [.ref k0, .int (iI 0), .int (iI ct)])), (k0, .inl (cy 2, 6, .inr (.inr (.inr (.inr R))))), (sia, .inr (3, [.ref lia, .ref wia, .ref gia, .int (iI lrb), .int (iI erb), .int (iI plb), .int (iI lkb), .int (iI cpb)])), (lia, .inr (2, [.ref mia, .int (iI nlb)])), (mia, .inl (cy 0, 60, .inl Gl_1)), (wia, .inr (2, [.ref via, .int (iI nwb)])), (via, .inl (cy 0, 16, .inl Gw_1)), (gia, .inr (2, [.ref eia, .int (iI nfb)])), (eia, .inl (cy 0, 60, .inl Gf_1)), (sib, .inr (3, [.ref lib, .ref wib, .ref gib, .int (iI lrb), .int (iI erb), .int (iI plb), .int (iI lkb), .int (iI cpb)])), (lib, .inr (2, [.ref mib, .int (iI nlb)])), (mib, .inl (cy 0, 60, .inl Flb)), (wib, .inr (2, [.ref vib, .int (iI nwb)])), (vib, .inl (cy 0, 16, .inl Fwb)), (gib, .inr (2, [.ref eib, .int (iI nfb)])), (eib, .inl (cy 0, 60, .inl Ffb))] H := hP
    have hD : va_D A [(h0, .inr (1, [.ref k0, .int (iI 0), .int (iI ct)])), (k0, .inl (cy 2, 6, .inr (.inr (.inr (.inr R))))), (sia, .inr (3, [.ref lia, .ref wia, .ref gia, .int (iI lrb), .int (iI erb), .int (iI plb), .int (iI lkb), .int (iI cpb)])), (lia, .inr (2, [.ref mia, .int (iI nlb)])), (mia, .inl (cy 0, 60, .inl Gl_1)), (wia, .inr (2, [.ref via, .int (iI nwb)])), (via, .inl (cy 0, 16, .inl Gw_1)), (gia, .inr (2, [.ref eia, .int (iI nfb)])), (eia, .inl (cy 0, 60, .inl Gf_1)), (sib, .inr (3, [.ref lib, .ref wib, .ref gib, .int (iI lrb), .int (iI erb), .int (iI plb), .int (iI lkb), .int (iI cpb)])), (lib, .inr (2, [.ref mib, .int (iI nlb)])), (mib, .inl (cy 0, 60, .inl Flb)), (wib, .inr (2, [.ref vib, .int (iI nwb)])), (vib, .inl (cy 0, 16, .inl Fwb)), (gib, .inr (2, [.ref eib, .int (iI nfb)])), (eib, .inl (cy 0, 60, .inl Ffb))] := hD
    refine lv_aload_n hx hb dX1_keep_38 rfl (lv_at hl 0 rfl) ?_
    refine lv_aload_n hx hb dX1_keep_39 rfl (lv_at hl 0 rfl) ?_
    refine va_get (D := D) (ci := 1) (v := .int (iI ct)) (C := RX1) (T := TX1) (N := 3) hx hb hts hiX1 hown hK hP 0 rfl rfl 2 (by decide) (hts (.fieldLink RX1 18 "BackwardSearch$History" "count" "I") (by decide +kernel)) (fun _ h9 => h9) rfl dX1_keep_40 ?_
    refine lv_iconst (v := iI 1) hx hb dX1_keep_43 rfl ?_
    refine z_add hx hb dX1_keep_44 ?_
    refine lv_bipush (v := iI 6) hx hb dX1_keep_45 (by decide +kernel) ?_
    refine z_mmin (hml := hml.trans hl.1.symm) hx hb hown (hts (.methodLink RX1 29 Lib.Math.min.name) (by decide +kernel)) (hts (.static Lib.Math.min.name) (by decide +kernel)) (hts (.initialized "java/lang/Math") (by decide +kernel)) (hts (.code Lib.Math.min.name Lib.Math.min.code 2 (some .int)) (by decide +kernel)) (Nat.le_of_ble_eq_true rfl) (Nat.le_of_ble_eq_true rfl) (Nat.zero_le _) (Nat.zero_le _) (by omega) (by omega) (by omega) (by omega) dX1_keep_47 (fun z_3 e_3 => ?_)
    refine va_put (D := D) (ci := 1) (v := .int (iI z_3)) (ty := .int) (C := RX1) (T := TX1) (N := 3) hx hb hts hiX1 tyX1 tyX1_ok nmX1 hown hK hP hD hS 0 rfl rfl 2 (by decide) (hts (.fieldLink RX1 18 "BackwardSearch$History" "count" "I") (by decide +kernel)) (fun _ h9 => h9) rfl (by decide +kernel) rfl rfl (Nat.le_of_ble_eq_true rfl) dX1_keep_50 (fun H locs hP hD hS => ?_)
    have hP : va_P D vwCl [(h0, .inr (1, [.ref k0, .int (iI 0), .int (iI z_3)])), (k0, .inl (cy 2, 6, .inr (.inr (.inr (.inr R))))), (sia, .inr (3, [.ref lia, .ref wia, .ref gia, .int (iI lrb), .int (iI erb), .int (iI plb), .int (iI lkb), .int (iI cpb)])), (lia, .inr (2, [.ref mia, .int (iI nlb)])), (mia, .inl (cy 0, 60, .inl Gl_1)), (wia, .inr (2, [.ref via, .int (iI nwb)])), (via, .inl (cy 0, 16, .inl Gw_1)), (gia, .inr (2, [.ref eia, .int (iI nfb)])), (eia, .inl (cy 0, 60, .inl Gf_1)), (sib, .inr (3, [.ref lib, .ref wib, .ref gib, .int (iI lrb), .int (iI erb), .int (iI plb), .int (iI lkb), .int (iI cpb)])), (lib, .inr (2, [.ref mib, .int (iI nlb)])), (mib, .inl (cy 0, 60, .inl Flb)), (wib, .inr (2, [.ref vib, .int (iI nwb)])), (vib, .inl (cy 0, 16, .inl Fwb)), (gib, .inr (2, [.ref eib, .int (iI nfb)])), (eib, .inl (cy 0, 60, .inl Ffb))] H := hP
    have hD : va_D A [(h0, .inr (1, [.ref k0, .int (iI 0), .int (iI z_3)])), (k0, .inl (cy 2, 6, .inr (.inr (.inr (.inr R))))), (sia, .inr (3, [.ref lia, .ref wia, .ref gia, .int (iI lrb), .int (iI erb), .int (iI plb), .int (iI lkb), .int (iI cpb)])), (lia, .inr (2, [.ref mia, .int (iI nlb)])), (mia, .inl (cy 0, 60, .inl Gl_1)), (wia, .inr (2, [.ref via, .int (iI nwb)])), (via, .inl (cy 0, 16, .inl Gw_1)), (gia, .inr (2, [.ref eia, .int (iI nfb)])), (eia, .inl (cy 0, 60, .inl Gf_1)), (sib, .inr (3, [.ref lib, .ref wib, .ref gib, .int (iI lrb), .int (iI erb), .int (iI plb), .int (iI lkb), .int (iI cpb)])), (lib, .inr (2, [.ref mib, .int (iI nlb)])), (mib, .inl (cy 0, 60, .inl Flb)), (wib, .inr (2, [.ref vib, .int (iI nwb)])), (vib, .inl (cy 0, 16, .inl Fwb)), (gib, .inr (2, [.ref eib, .int (iI nfb)])), (eib, .inl (cy 0, 60, .inl Ffb))] := hD
    exact z_vret hx hb hr hlocks hS (0, z_3, Gl_1, Gw_1, Gf_1) (show 0 = (if nx + 1 < 6 then nx + 1 else 0) ∧ z_3 = min (ct + 1) 6 ∧ (∀ j : Nat, (j : Int) < nlb → Gl_1 j = Flb j) ∧ (∀ j : Nat, (j : Int) < nwb → Gw_1 j = Fwb j) ∧ ∀ j : Nat, (j : Int) < nfb → Gf_1 j = Ffb j from ⟨by omega, by omega, hw_1⟩) hP dX1_keep_53
  · --
    refine lv_aload_n hx hb dX1_keep_25 rfl (lv_at hl 0 rfl) ?_
    refine va_get (D := D) (ci := 1) (v := .int (iI nx)) (C := RX1) (T := TX1) (N := 3) hx hb hts hiX1 hown hK hP 0 rfl rfl 1 (by decide) (hts (.fieldLink RX1 22 "BackwardSearch$History" "next" "I") (by decide +kernel)) (fun _ h9 => h9) rfl dX1_keep_26 ?_
    refine lv_iconst (v := iI 1) hx hb dX1_keep_29 rfl ?_
    refine z_add hx hb dX1_keep_30 ?_
    refine lv_goto (tgt := 35) hx hb dX1_keep_31 (by decide) ?_
    refine va_put (D := D) (ci := 1) (v := .int (iI (nx + 1))) (ty := .int) (C := RX1) (T := TX1) (N := 3) hx hb hts hiX1 tyX1 tyX1_ok nmX1 hown hK hP hD hS 0 rfl rfl 1 (by decide) (hts (.fieldLink RX1 22 "BackwardSearch$History" "next" "I") (by decide +kernel)) (fun _ h9 => h9) rfl (by decide +kernel) rfl rfl (Nat.le_of_ble_eq_true rfl) dX1_keep_35 (fun H locs hP hD hS => ?_)
    have hP : va_P D vwCl [(h0, .inr (1, [.ref k0, .int (iI (nx + 1)), .int (iI ct)])), (k0, .inl (cy 2, 6, .inr (.inr (.inr (.inr R))))), (sia, .inr (3, [.ref lia, .ref wia, .ref gia, .int (iI lrb), .int (iI erb), .int (iI plb), .int (iI lkb), .int (iI cpb)])), (lia, .inr (2, [.ref mia, .int (iI nlb)])), (mia, .inl (cy 0, 60, .inl Gl_1)), (wia, .inr (2, [.ref via, .int (iI nwb)])), (via, .inl (cy 0, 16, .inl Gw_1)), (gia, .inr (2, [.ref eia, .int (iI nfb)])), (eia, .inl (cy 0, 60, .inl Gf_1)), (sib, .inr (3, [.ref lib, .ref wib, .ref gib, .int (iI lrb), .int (iI erb), .int (iI plb), .int (iI lkb), .int (iI cpb)])), (lib, .inr (2, [.ref mib, .int (iI nlb)])), (mib, .inl (cy 0, 60, .inl Flb)), (wib, .inr (2, [.ref vib, .int (iI nwb)])), (vib, .inl (cy 0, 16, .inl Fwb)), (gib, .inr (2, [.ref eib, .int (iI nfb)])), (eib, .inl (cy 0, 60, .inl Ffb))] H := hP
    have hD : va_D A [(h0, .inr (1, [.ref k0, .int (iI (nx + 1)), .int (iI ct)])), (k0, .inl (cy 2, 6, .inr (.inr (.inr (.inr R))))), (sia, .inr (3, [.ref lia, .ref wia, .ref gia, .int (iI lrb), .int (iI erb), .int (iI plb), .int (iI lkb), .int (iI cpb)])), (lia, .inr (2, [.ref mia, .int (iI nlb)])), (mia, .inl (cy 0, 60, .inl Gl_1)), (wia, .inr (2, [.ref via, .int (iI nwb)])), (via, .inl (cy 0, 16, .inl Gw_1)), (gia, .inr (2, [.ref eia, .int (iI nfb)])), (eia, .inl (cy 0, 60, .inl Gf_1)), (sib, .inr (3, [.ref lib, .ref wib, .ref gib, .int (iI lrb), .int (iI erb), .int (iI plb), .int (iI lkb), .int (iI cpb)])), (lib, .inr (2, [.ref mib, .int (iI nlb)])), (mib, .inl (cy 0, 60, .inl Flb)), (wib, .inr (2, [.ref vib, .int (iI nwb)])), (vib, .inl (cy 0, 16, .inl Fwb)), (gib, .inr (2, [.ref eib, .int (iI nfb)])), (eib, .inl (cy 0, 60, .inl Ffb))] := hD
    refine lv_aload_n hx hb dX1_keep_38 rfl (lv_at hl 0 rfl) ?_
    refine lv_aload_n hx hb dX1_keep_39 rfl (lv_at hl 0 rfl) ?_
    refine va_get (D := D) (ci := 1) (v := .int (iI ct)) (C := RX1) (T := TX1) (N := 3) hx hb hts hiX1 hown hK hP 0 rfl rfl 2 (by decide) (hts (.fieldLink RX1 18 "BackwardSearch$History" "count" "I") (by decide +kernel)) (fun _ h9 => h9) rfl dX1_keep_40 ?_
    refine lv_iconst (v := iI 1) hx hb dX1_keep_43 rfl ?_
    refine z_add hx hb dX1_keep_44 ?_
    refine lv_bipush (v := iI 6) hx hb dX1_keep_45 (by decide +kernel) ?_
    refine z_mmin (hml := hml.trans hl.1.symm) hx hb hown (hts (.methodLink RX1 29 Lib.Math.min.name) (by decide +kernel)) (hts (.static Lib.Math.min.name) (by decide +kernel)) (hts (.initialized "java/lang/Math") (by decide +kernel)) (hts (.code Lib.Math.min.name Lib.Math.min.code 2 (some .int)) (by decide +kernel)) (Nat.le_of_ble_eq_true rfl) (Nat.le_of_ble_eq_true rfl) (Nat.zero_le _) (Nat.zero_le _) (by omega) (by omega) (by omega) (by omega) dX1_keep_47 (fun z_4 e_4 => ?_)
    refine va_put (D := D) (ci := 1) (v := .int (iI z_4)) (ty := .int) (C := RX1) (T := TX1) (N := 3) hx hb hts hiX1 tyX1 tyX1_ok nmX1 hown hK hP hD hS 0 rfl rfl 2 (by decide) (hts (.fieldLink RX1 18 "BackwardSearch$History" "count" "I") (by decide +kernel)) (fun _ h9 => h9) rfl (by decide +kernel) rfl rfl (Nat.le_of_ble_eq_true rfl) dX1_keep_50 (fun H locs hP hD hS => ?_)
    have hP : va_P D vwCl [(h0, .inr (1, [.ref k0, .int (iI (nx + 1)), .int (iI z_4)])), (k0, .inl (cy 2, 6, .inr (.inr (.inr (.inr R))))), (sia, .inr (3, [.ref lia, .ref wia, .ref gia, .int (iI lrb), .int (iI erb), .int (iI plb), .int (iI lkb), .int (iI cpb)])), (lia, .inr (2, [.ref mia, .int (iI nlb)])), (mia, .inl (cy 0, 60, .inl Gl_1)), (wia, .inr (2, [.ref via, .int (iI nwb)])), (via, .inl (cy 0, 16, .inl Gw_1)), (gia, .inr (2, [.ref eia, .int (iI nfb)])), (eia, .inl (cy 0, 60, .inl Gf_1)), (sib, .inr (3, [.ref lib, .ref wib, .ref gib, .int (iI lrb), .int (iI erb), .int (iI plb), .int (iI lkb), .int (iI cpb)])), (lib, .inr (2, [.ref mib, .int (iI nlb)])), (mib, .inl (cy 0, 60, .inl Flb)), (wib, .inr (2, [.ref vib, .int (iI nwb)])), (vib, .inl (cy 0, 16, .inl Fwb)), (gib, .inr (2, [.ref eib, .int (iI nfb)])), (eib, .inl (cy 0, 60, .inl Ffb))] H := hP
    have hD : va_D A [(h0, .inr (1, [.ref k0, .int (iI (nx + 1)), .int (iI z_4)])), (k0, .inl (cy 2, 6, .inr (.inr (.inr (.inr R))))), (sia, .inr (3, [.ref lia, .ref wia, .ref gia, .int (iI lrb), .int (iI erb), .int (iI plb), .int (iI lkb), .int (iI cpb)])), (lia, .inr (2, [.ref mia, .int (iI nlb)])), (mia, .inl (cy 0, 60, .inl Gl_1)), (wia, .inr (2, [.ref via, .int (iI nwb)])), (via, .inl (cy 0, 16, .inl Gw_1)), (gia, .inr (2, [.ref eia, .int (iI nfb)])), (eia, .inl (cy 0, 60, .inl Gf_1)), (sib, .inr (3, [.ref lib, .ref wib, .ref gib, .int (iI lrb), .int (iI erb), .int (iI plb), .int (iI lkb), .int (iI cpb)])), (lib, .inr (2, [.ref mib, .int (iI nlb)])), (mib, .inl (cy 0, 60, .inl Flb)), (wib, .inr (2, [.ref vib, .int (iI nwb)])), (vib, .inl (cy 0, 16, .inl Fwb)), (gib, .inr (2, [.ref eib, .int (iI nfb)])), (eib, .inl (cy 0, 60, .inl Ffb))] := hD
    exact z_vret hx hb hr hlocks hS (nx + 1, z_4, Gl_1, Gw_1, Gf_1) (show (nx + 1) = (if nx + 1 < 6 then nx + 1 else 0) ∧ z_4 = min (ct + 1) 6 ∧ (∀ j : Nat, (j : Int) < nlb → Gl_1 j = Flb j) ∧ (∀ j : Nat, (j : Int) < nwb → Gw_1 j = Fwb j) ∧ ∀ j : Nat, (j : Int) < nfb → Gf_1 j = Ffb j from ⟨by omega, by omega, hw_1⟩) hP dX1_keep_53
set_option maxHeartbeats 4000000 in
set_option maxRecDepth 100000 in
theorem c_X1_giveBack (l : Launch) (D : va_G) (cy : Nat → ClassId) (h0 : Nat) (k0 : Nat) (R : Nat → Option Nat) (nx : Int) (ct : Int) (sia : Nat) (lia : Nat) (mia : Nat) (wia : Nat) (via : Nat) (gia : Nat) (eia : Nat) (nla : Int) (Fla : Nat → Int32) (nwa : Int) (Fwa : Nat → Int32) (nfa : Int) (Ffa : Nat → Int32) (lra : Int) (era : Int) (pla : Int) (lka : Int) (cpa : Int) (sib : Nat) (lib : Nat) (mib : Nat) (wib : Nat) (vib : Nat) (gib : Nat) (eib : Nat) (nlb : Int) (Flb : Nat → Int32) (nwb : Int) (Fwb : Nat → Int32) (nfb : Int) (Ffb : Nat → Int32) (lrb : Int) (erb : Int) (plb : Int) (lkb : Int) (cpb : Int) (hbb : 0 ≤ nlb ∧ nlb ≤ 60 ∧ 0 ≤ nwb ∧ nwb ≤ 16 ∧ 0 ≤ nfb ∧ nfb ≤ plb ∧ plb ≤ 100 ∧ nfb ≤ 60 ∧ 0 ≤ lkb ∧ lkb ≤ plb ∧ 0 ≤ cpb ∧ cpb ≤ 16 * lkb ∧ 0 ≤ lrb ∧ lrb ≤ 1 ∧ 0 ≤ erb ∧ erb ≤ 1) (hn : 0 ≤ nx ∧ nx < 6 ∧ 0 < ct ∧ ct ≤ 6) (hR : R (if 0 < nx then nx - 1 else 5).toNat = some sib) : Cv l D cy yX1_giveBack wsX1_giveBack 3 64 [.ref h0, .ref sia] [(h0, .inr (1, [.ref k0, .int (iI nx), .int (iI ct)])), (k0, .inl (cy 2, 6, .inr (.inr (.inr (.inr R))))), (sia, .inr (3, [.ref lia, .ref wia, .ref gia, .int (iI lra), .int (iI era), .int (iI pla), .int (iI lka), .int (iI cpa)])), (lia, .inr (2, [.ref mia, .int (iI nla)])), (mia, .inl (cy 0, 60, .inl Fla)), (wia, .inr (2, [.ref via, .int (iI nwa)])), (via, .inl (cy 0, 16, .inl Fwa)), (gia, .inr (2, [.ref eia, .int (iI nfa)])), (eia, .inl (cy 0, 60, .inl Ffa)), (sib, .inr (3, [.ref lib, .ref wib, .ref gib, .int (iI lrb), .int (iI erb), .int (iI plb), .int (iI lkb), .int (iI cpb)])), (lib, .inr (2, [.ref mib, .int (iI nlb)])), (mib, .inl (cy 0, 60, .inl Flb)), (wib, .inr (2, [.ref vib, .int (iI nwb)])), (vib, .inl (cy 0, 16, .inl Fwb)), (gib, .inr (2, [.ref eib, .int (iI nfb)])), (eib, .inl (cy 0, 60, .inl Ffb))] (fun (u : Int × (Nat → Int32) × (Nat → Int32) × (Nat → Int32)) => u.1 = (if 0 < nx then nx - 1 else 5) ∧ (∀ j : Nat, (j : Int) < nlb → u.2.1 j = Flb j) ∧ (∀ j : Nat, (j : Int) < nwb → u.2.2.1 j = Fwb j) ∧ ∀ j : Nat, (j : Int) < nfb → u.2.2.2 j = Ffb j) (fun u : Int × (Nat → Int32) × (Nat → Int32) × (Nat → Int32) => [(h0, .inr (1, [.ref k0, .int (iI u.1), .int (iI (ct - 1))])), (k0, .inl (cy 2, 6, .inr (.inr (.inr (.inr R))))), (sia, .inr (3, [.ref lia, .ref wia, .ref gia, .int (iI lrb), .int (iI erb), .int (iI plb), .int (iI lkb), .int (iI cpb)])), (lia, .inr (2, [.ref mia, .int (iI nlb)])), (mia, .inl (cy 0, 60, .inl u.2.1)), (wia, .inr (2, [.ref via, .int (iI nwb)])), (via, .inl (cy 0, 16, .inl u.2.2.1)), (gia, .inr (2, [.ref eia, .int (iI nfb)])), (eia, .inl (cy 0, 60, .inl u.2.2.2)), (sib, .inr (3, [.ref lib, .ref wib, .ref gib, .int (iI lrb), .int (iI erb), .int (iI plb), .int (iI lkb), .int (iI cpb)])), (lib, .inr (2, [.ref mib, .int (iI nlb)])), (mib, .inl (cy 0, 60, .inl Flb)), (wib, .inr (2, [.ref vib, .int (iI nwb)])), (vib, .inl (cy 0, 16, .inl Fwb)), (gib, .inr (2, [.ref eib, .int (iI nfb)])), (eib, .inl (cy 0, 60, .inl Ffb))]) := by
  refine Cv_of (cc := cX1_giveBack) (maxL := 2) (ret := none) (by decide) rfl rfl ?_
  intro p e s m args below meth c A hx hb hr hts hown hlocks hml hP hK hD hT hA ls hl
  have hS : va_S A s.heap s.heap [] := va_S.rf
  have hl : lv_has ls 2 [(0, .ref h0), (1, .ref sia)] := hl
  have hiX1 : ∀ w ∈ wsX10, w ∈ wsX1_giveBack := by decide +kernel
  refine lv_aload_n hx hb dX1_giveBack_0 rfl (lv_at hl 0 rfl) ?_
  refine va_get (D := D) (ci := 1) (v := .int (iI ct)) (C := RX1) (T := TX1) (N := 3) hx hb hts hiX1 hown hK hP 0 rfl rfl 2 (by decide) (hts (.fieldLink RX1 18 "BackwardSearch$History" "count" "I") (by decide +kernel)) (fun _ h9 => h9) rfl dX1_giveBack_1 ?_
  refine z_if_le (tgt := 51) hx hb (iI_t (by omega) (by omega)) dX1_giveBack_4 (by decide) (fun c1 => absurd c1 (by omega)) (fun c1 => ?_)
  refine lv_aload_n hx hb dX1_giveBack_7 rfl (lv_at hl 0 rfl) ?_
  refine lv_aload_n hx hb dX1_giveBack_8 rfl (lv_at hl 0 rfl) ?_
  refine va_get (D := D) (ci := 1) (v := .int (iI nx)) (C := RX1) (T := TX1) (N := 3) hx hb hts hiX1 hown hK hP 0 rfl rfl 1 (by decide) (hts (.fieldLink RX1 22 "BackwardSearch$History" "next" "I") (by decide +kernel)) (fun _ h9 => h9) rfl dX1_giveBack_9 ?_
  refine z_if_le (tgt := 24) hx hb (iI_t (by omega) (by omega)) dX1_giveBack_12 (by decide) (fun c2 => ?_) (fun c2 => ?_)
  · --
    refine lv_iconst (v := iI 5) hx hb dX1_giveBack_24 rfl ?_
    refine va_put (D := D) (ci := 1) (v := .int (iI 5)) (ty := .int) (C := RX1) (T := TX1) (N := 3) hx hb hts hiX1 tyX1 tyX1_ok nmX1 hown hK hP hD hS 0 rfl rfl 1 (by decide) (hts (.fieldLink RX1 22 "BackwardSearch$History" "next" "I") (by decide +kernel)) (fun _ h9 => h9) rfl (by decide +kernel) rfl rfl (Nat.le_of_ble_eq_true rfl) dX1_giveBack_25 (fun H locs hP hD hS => ?_)
    have hP : va_P D vwCl [(h0, .inr (1, [.ref k0, .int (iI 5), .int (iI ct)])), (k0, .inl (cy 2, 6, .inr (.inr (.inr (.inr R))))), (sia, .inr (3, [.ref lia, .ref wia, .ref gia, .int (iI lra), .int (iI era), .int (iI pla), .int (iI lka), .int (iI cpa)])), (lia, .inr (2, [.ref mia, .int (iI nla)])), (mia, .inl (cy 0, 60, .inl Fla)), (wia, .inr (2, [.ref via, .int (iI nwa)])), (via, .inl (cy 0, 16, .inl Fwa)), (gia, .inr (2, [.ref eia, .int (iI nfa)])), (eia, .inl (cy 0, 60, .inl Ffa)), (sib, .inr (3, [.ref lib, .ref wib, .ref gib, .int (iI lrb), .int (iI erb), .int (iI plb), .int (iI lkb), .int (iI cpb)])), (lib, .inr (2, [.ref mib, .int (iI nlb)])), (mib, .inl (cy 0, 60, .inl Flb)), (wib, .inr (2, [.ref vib, .int (iI nwb)])), (vib, .inl (cy 0, 16, .inl Fwb)), (gib, .inr (2, [.ref eib, .int (iI nfb)])), (eib, .inl (cy 0, 60, .inl Ffb))] H := hP
    have hD : va_D A [(h0, .inr (1, [.ref k0, .int (iI 5), .int (iI ct)])), (k0, .inl (cy 2, 6, .inr (.inr (.inr (.inr R))))), (sia, .inr (3, [.ref lia, .ref wia, .ref gia, .int (iI lra), .int (iI era), .int (iI pla), .int (iI lka), .int (iI cpa)])), (lia, .inr (2, [.ref mia, .int (iI nla)])), (mia, .inl (cy 0, 60, .inl Fla)), (wia, .inr (2, [.ref via, .int (iI nwa)])), (via, .inl (cy 0, 16, .inl Fwa)), (gia, .inr (2, [.ref eia, .int (iI nfa)])), (eia, .inl (cy 0, 60, .inl Ffa)), (sib, .inr (3, [.ref lib, .ref wib, .ref gib, .int (iI lrb), .int (iI erb), .int (iI plb), .int (iI lkb), .int (iI cpb)])), (lib, .inr (2, [.ref mib, .int (iI nlb)])), (mib, .inl (cy 0, 60, .inl Flb)), (wib, .inr (2, [.ref vib, .int (iI nwb)])), (vib, .inl (cy 0, 16, .inl Fwb)), (gib, .inr (2, [.ref eib, .int (iI nfb)])), (eib, .inl (cy 0, 60, .inl Ffb))] := hD
    refine lv_aload_n hx hb dX1_giveBack_28 rfl (lv_at hl 0 rfl) ?_
    refine lv_dup hx hb dX1_giveBack_29 rfl ?_
    refine va_get (D := D) (ci := 1) (v := .int (iI ct)) (C := RX1) (T := TX1) (N := 3) hx hb hts hiX1 hown hK hP 0 rfl rfl 2 (by decide) (hts (.fieldLink RX1 18 "BackwardSearch$History" "count" "I") (by decide +kernel)) (fun _ h9 => h9) rfl dX1_giveBack_30 ?_
    refine lv_iconst (v := iI 1) hx hb dX1_giveBack_33 rfl ?_
    refine z_sub hx hb dX1_giveBack_34 ?_
    refine va_put (D := D) (ci := 1) (v := .int (iI (ct - 1))) (ty := .int) (C := RX1) (T := TX1) (N := 3) hx hb hts hiX1 tyX1 tyX1_ok nmX1 hown hK hP hD hS 0 rfl rfl 2 (by decide) (hts (.fieldLink RX1 18 "BackwardSearch$History" "count" "I") (by decide +kernel)) (fun _ h9 => h9) rfl (by decide +kernel) rfl rfl (Nat.le_of_ble_eq_true rfl) dX1_giveBack_35 (fun H locs hP hD hS => ?_)
    have hP : va_P D vwCl [(h0, .inr (1, [.ref k0, .int (iI 5), .int (iI (ct - 1))])), (k0, .inl (cy 2, 6, .inr (.inr (.inr (.inr R))))), (sia, .inr (3, [.ref lia, .ref wia, .ref gia, .int (iI lra), .int (iI era), .int (iI pla), .int (iI lka), .int (iI cpa)])), (lia, .inr (2, [.ref mia, .int (iI nla)])), (mia, .inl (cy 0, 60, .inl Fla)), (wia, .inr (2, [.ref via, .int (iI nwa)])), (via, .inl (cy 0, 16, .inl Fwa)), (gia, .inr (2, [.ref eia, .int (iI nfa)])), (eia, .inl (cy 0, 60, .inl Ffa)), (sib, .inr (3, [.ref lib, .ref wib, .ref gib, .int (iI lrb), .int (iI erb), .int (iI plb), .int (iI lkb), .int (iI cpb)])), (lib, .inr (2, [.ref mib, .int (iI nlb)])), (mib, .inl (cy 0, 60, .inl Flb)), (wib, .inr (2, [.ref vib, .int (iI nwb)])), (vib, .inl (cy 0, 16, .inl Fwb)), (gib, .inr (2, [.ref eib, .int (iI nfb)])), (eib, .inl (cy 0, 60, .inl Ffb))] H := hP
    have hD : va_D A [(h0, .inr (1, [.ref k0, .int (iI 5), .int (iI (ct - 1))])), (k0, .inl (cy 2, 6, .inr (.inr (.inr (.inr R))))), (sia, .inr (3, [.ref lia, .ref wia, .ref gia, .int (iI lra), .int (iI era), .int (iI pla), .int (iI lka), .int (iI cpa)])), (lia, .inr (2, [.ref mia, .int (iI nla)])), (mia, .inl (cy 0, 60, .inl Fla)), (wia, .inr (2, [.ref via, .int (iI nwa)])), (via, .inl (cy 0, 16, .inl Fwa)), (gia, .inr (2, [.ref eia, .int (iI nfa)])), (eia, .inl (cy 0, 60, .inl Ffa)), (sib, .inr (3, [.ref lib, .ref wib, .ref gib, .int (iI lrb), .int (iI erb), .int (iI plb), .int (iI lkb), .int (iI cpb)])), (lib, .inr (2, [.ref mib, .int (iI nlb)])), (mib, .inl (cy 0, 60, .inl Flb)), (wib, .inr (2, [.ref vib, .int (iI nwb)])), (vib, .inl (cy 0, 16, .inl Fwb)), (gib, .inr (2, [.ref eib, .int (iI nfb)])), (eib, .inl (cy 0, 60, .inl Ffb))] := hD
    refine lv_aload_n hx hb dX1_giveBack_38 rfl (lv_at hl 1 rfl) ?_
    refine lv_aload_n hx hb dX1_giveBack_39 rfl (lv_at hl 0 rfl) ?_
    refine va_get (D := D) (ci := 1) (v := .ref k0) (C := RX1) (T := TX1) (N := 3) hx hb hts hiX1 hown hK hP 0 rfl rfl 0 (by decide) (hts (.fieldLink RX1 11 "BackwardSearch$History" "kept" "[LBackwardSearch$State;") (by decide +kernel)) (fun _ h9 => h9) rfl dX1_giveBack_40 ?_
    refine lv_aload_n hx hb dX1_giveBack_43 rfl (lv_at hl 0 rfl) ?_
    refine va_get (D := D) (ci := 1) (v := .int (iI 5)) (C := RX1) (T := TX1) (N := 3) hx hb hts hiX1 hown hK hP 0 rfl rfl 1 (by decide) (hts (.fieldLink RX1 22 "BackwardSearch$History" "next" "I") (by decide +kernel)) (fun _ h9 => h9) rfl dX1_giveBack_44 ?_
    refine z_aldq (b := sib) hx hb hK hP 1 rfl (by omega) (by omega) (by omega) (by first | (rw [if_pos (by omega)] at hR; exact hR) | (rw [if_neg (by omega)] at hR; exact hR)) dX1_giveBack_47 ?_
    refine z_cVv (n := 1) (b := sia) (As := [.ref sib]) (rest := []) ⟨hx, hb, hml, hown, hts⟩ (c_X3_copy l D cy sia lia mia wia via gia eia nla Fla nwa Fwa nfa Ffa lra era pla lka cpa sib lib mib wib vib gib eib nlb Flb nwb Fwb nfb Ffb lrb erb plb lkb cpb (by omega)) gX1_giveBack_X3_copy rfl (by decide +kernel) ⟨Nat.le_of_ble_eq_true rfl, Nat.le_of_ble_eq_true rfl⟩ hK hT hP hD hS hA [2, 3, 4, 5, 6, 7, 8, 9, 10, 11, 12, 13, 14, 15] rfl rfl 2 3 rfl rfl rfl (fun _ => rfl) rfl hl.1 rfl (Nat.le_of_ble_eq_true rfl) dX1_giveBack_48 ⟨Nat.zero_le _, Nat.zero_le _⟩ (fun  u_3 H locs hw_3 hP hD hS => ?_)
    obtain ⟨Gl_3, Gw_3, Gf_3⟩ := u_3
    have hw_3 : (∀ j : Nat, (j : Int) < nlb → Gl_3 j = Flb j) ∧ (∀ j : Nat, (j : Int) < nwb → Gw_3 j = Fwb j) ∧ ∀ j : Nat, (j : Int) < nfb → Gf_3 j = Ffb j := hw_3
    have hP : va_P D vwCl [(h0, .inr (1, [.ref k0, .int (iI 5), .int (iI (ct - 1))])), (k0, .inl (cy 2, 6, .inr (.inr (.inr (.inr R))))), (sia, .inr (3, [.ref lia, .ref wia, .ref gia, .int (iI lrb), .int (iI erb), .int (iI plb), .int (iI lkb), .int (iI cpb)])), (lia, .inr (2, [.ref mia, .int (iI nlb)])), (mia, .inl (cy 0, 60, .inl Gl_3)), (wia, .inr (2, [.ref via, .int (iI nwb)])), (via, .inl (cy 0, 16, .inl Gw_3)), (gia, .inr (2, [.ref eia, .int (iI nfb)])), (eia, .inl (cy 0, 60, .inl Gf_3)), (sib, .inr (3, [.ref lib, .ref wib, .ref gib, .int (iI lrb), .int (iI erb), .int (iI plb), .int (iI lkb), .int (iI cpb)])), (lib, .inr (2, [.ref mib, .int (iI nlb)])), (mib, .inl (cy 0, 60, .inl Flb)), (wib, .inr (2, [.ref vib, .int (iI nwb)])), (vib, .inl (cy 0, 16, .inl Fwb)), (gib, .inr (2, [.ref eib, .int (iI nfb)])), (eib, .inl (cy 0, 60, .inl Ffb))] H := hP
    have hD : va_D A [(h0, .inr (1, [.ref k0, .int (iI 5), .int (iI (ct - 1))])), (k0, .inl (cy 2, 6, .inr (.inr (.inr (.inr R))))), (sia, .inr (3, [.ref lia, .ref wia, .ref gia, .int (iI lrb), .int (iI erb), .int (iI plb), .int (iI lkb), .int (iI cpb)])), (lia, .inr (2, [.ref mia, .int (iI nlb)])), (mia, .inl (cy 0, 60, .inl Gl_3)), (wia, .inr (2, [.ref via, .int (iI nwb)])), (via, .inl (cy 0, 16, .inl Gw_3)), (gia, .inr (2, [.ref eia, .int (iI nfb)])), (eia, .inl (cy 0, 60, .inl Gf_3)), (sib, .inr (3, [.ref lib, .ref wib, .ref gib, .int (iI lrb), .int (iI erb), .int (iI plb), .int (iI lkb), .int (iI cpb)])), (lib, .inr (2, [.ref mib, .int (iI nlb)])), (mib, .inl (cy 0, 60, .inl Flb)), (wib, .inr (2, [.ref vib, .int (iI nwb)])), (vib, .inl (cy 0, 16, .inl Fwb)), (gib, .inr (2, [.ref eib, .int (iI nfb)])), (eib, .inl (cy 0, 60, .inl Ffb))] := hD
    exact z_vret hx hb hr hlocks hS (5, Gl_3, Gw_3, Gf_3) (show 5 = (if 0 < nx then nx - 1 else 5) ∧ (∀ j : Nat, (j : Int) < nlb → Gl_3 j = Flb j) ∧ (∀ j : Nat, (j : Int) < nwb → Gw_3 j = Fwb j) ∧ ∀ j : Nat, (j : Int) < nfb → Gf_3 j = Ffb j from ⟨by omega, by assumption⟩) hP dX1_giveBack_51
  · --
    refine lv_aload_n hx hb dX1_giveBack_15 rfl (lv_at hl 0 rfl) ?_
    refine va_get (D := D) (ci := 1) (v := .int (iI nx)) (C := RX1) (T := TX1) (N := 3) hx hb hts hiX1 hown hK hP 0 rfl rfl 1 (by decide) (hts (.fieldLink RX1 22 "BackwardSearch$History" "next" "I") (by decide +kernel)) (fun _ h9 => h9) rfl dX1_giveBack_16 ?_
    refine lv_iconst (v := iI 1) hx hb dX1_giveBack_19 rfl ?_
    refine z_sub hx hb dX1_giveBack_20 ?_
    refine lv_goto (tgt := 25) hx hb dX1_giveBack_21 (by decide) ?_
    refine va_put (D := D) (ci := 1) (v := .int (iI (nx - 1))) (ty := .int) (C := RX1) (T := TX1) (N := 3) hx hb hts hiX1 tyX1 tyX1_ok nmX1 hown hK hP hD hS 0 rfl rfl 1 (by decide) (hts (.fieldLink RX1 22 "BackwardSearch$History" "next" "I") (by decide +kernel)) (fun _ h9 => h9) rfl (by decide +kernel) rfl rfl (Nat.le_of_ble_eq_true rfl) dX1_giveBack_25 (fun H locs hP hD hS => ?_)
    have hP : va_P D vwCl [(h0, .inr (1, [.ref k0, .int (iI (nx - 1)), .int (iI ct)])), (k0, .inl (cy 2, 6, .inr (.inr (.inr (.inr R))))), (sia, .inr (3, [.ref lia, .ref wia, .ref gia, .int (iI lra), .int (iI era), .int (iI pla), .int (iI lka), .int (iI cpa)])), (lia, .inr (2, [.ref mia, .int (iI nla)])), (mia, .inl (cy 0, 60, .inl Fla)), (wia, .inr (2, [.ref via, .int (iI nwa)])), (via, .inl (cy 0, 16, .inl Fwa)), (gia, .inr (2, [.ref eia, .int (iI nfa)])), (eia, .inl (cy 0, 60, .inl Ffa)), (sib, .inr (3, [.ref lib, .ref wib, .ref gib, .int (iI lrb), .int (iI erb), .int (iI plb), .int (iI lkb), .int (iI cpb)])), (lib, .inr (2, [.ref mib, .int (iI nlb)])), (mib, .inl (cy 0, 60, .inl Flb)), (wib, .inr (2, [.ref vib, .int (iI nwb)])), (vib, .inl (cy 0, 16, .inl Fwb)), (gib, .inr (2, [.ref eib, .int (iI nfb)])), (eib, .inl (cy 0, 60, .inl Ffb))] H := hP
    have hD : va_D A [(h0, .inr (1, [.ref k0, .int (iI (nx - 1)), .int (iI ct)])), (k0, .inl (cy 2, 6, .inr (.inr (.inr (.inr R))))), (sia, .inr (3, [.ref lia, .ref wia, .ref gia, .int (iI lra), .int (iI era), .int (iI pla), .int (iI lka), .int (iI cpa)])), (lia, .inr (2, [.ref mia, .int (iI nla)])), (mia, .inl (cy 0, 60, .inl Fla)), (wia, .inr (2, [.ref via, .int (iI nwa)])), (via, .inl (cy 0, 16, .inl Fwa)), (gia, .inr (2, [.ref eia, .int (iI nfa)])), (eia, .inl (cy 0, 60, .inl Ffa)), (sib, .inr (3, [.ref lib, .ref wib, .ref gib, .int (iI lrb), .int (iI erb), .int (iI plb), .int (iI lkb), .int (iI cpb)])), (lib, .inr (2, [.ref mib, .int (iI nlb)])), (mib, .inl (cy 0, 60, .inl Flb)), (wib, .inr (2, [.ref vib, .int (iI nwb)])), (vib, .inl (cy 0, 16, .inl Fwb)), (gib, .inr (2, [.ref eib, .int (iI nfb)])), (eib, .inl (cy 0, 60, .inl Ffb))] := hD
    refine lv_aload_n hx hb dX1_giveBack_28 rfl (lv_at hl 0 rfl) ?_
    refine lv_dup hx hb dX1_giveBack_29 rfl ?_
    refine va_get (D := D) (ci := 1) (v := .int (iI ct)) (C := RX1) (T := TX1) (N := 3) hx hb hts hiX1 hown hK hP 0 rfl rfl 2 (by decide) (hts (.fieldLink RX1 18 "BackwardSearch$History" "count" "I") (by decide +kernel)) (fun _ h9 => h9) rfl dX1_giveBack_30 ?_
    refine lv_iconst (v := iI 1) hx hb dX1_giveBack_33 rfl ?_
    refine z_sub hx hb dX1_giveBack_34 ?_
    refine va_put (D := D) (ci := 1) (v := .int (iI (ct - 1))) (ty := .int) (C := RX1) (T := TX1) (N := 3) hx hb hts hiX1 tyX1 tyX1_ok nmX1 hown hK hP hD hS 0 rfl rfl 2 (by decide) (hts (.fieldLink RX1 18 "BackwardSearch$History" "count" "I") (by decide +kernel)) (fun _ h9 => h9) rfl (by decide +kernel) rfl rfl (Nat.le_of_ble_eq_true rfl) dX1_giveBack_35 (fun H locs hP hD hS => ?_)
    have hP : va_P D vwCl [(h0, .inr (1, [.ref k0, .int (iI (nx - 1)), .int (iI (ct - 1))])), (k0, .inl (cy 2, 6, .inr (.inr (.inr (.inr R))))), (sia, .inr (3, [.ref lia, .ref wia, .ref gia, .int (iI lra), .int (iI era), .int (iI pla), .int (iI lka), .int (iI cpa)])), (lia, .inr (2, [.ref mia, .int (iI nla)])), (mia, .inl (cy 0, 60, .inl Fla)), (wia, .inr (2, [.ref via, .int (iI nwa)])), (via, .inl (cy 0, 16, .inl Fwa)), (gia, .inr (2, [.ref eia, .int (iI nfa)])), (eia, .inl (cy 0, 60, .inl Ffa)), (sib, .inr (3, [.ref lib, .ref wib, .ref gib, .int (iI lrb), .int (iI erb), .int (iI plb), .int (iI lkb), .int (iI cpb)])), (lib, .inr (2, [.ref mib, .int (iI nlb)])), (mib, .inl (cy 0, 60, .inl Flb)), (wib, .inr (2, [.ref vib, .int (iI nwb)])), (vib, .inl (cy 0, 16, .inl Fwb)), (gib, .inr (2, [.ref eib, .int (iI nfb)])), (eib, .inl (cy 0, 60, .inl Ffb))] H := hP
    have hD : va_D A [(h0, .inr (1, [.ref k0, .int (iI (nx - 1)), .int (iI (ct - 1))])), (k0, .inl (cy 2, 6, .inr (.inr (.inr (.inr R))))), (sia, .inr (3, [.ref lia, .ref wia, .ref gia, .int (iI lra), .int (iI era), .int (iI pla), .int (iI lka), .int (iI cpa)])), (lia, .inr (2, [.ref mia, .int (iI nla)])), (mia, .inl (cy 0, 60, .inl Fla)), (wia, .inr (2, [.ref via, .int (iI nwa)])), (via, .inl (cy 0, 16, .inl Fwa)), (gia, .inr (2, [.ref eia, .int (iI nfa)])), (eia, .inl (cy 0, 60, .inl Ffa)), (sib, .inr (3, [.ref lib, .ref wib, .ref gib, .int (iI lrb), .int (iI erb), .int (iI plb), .int (iI lkb), .int (iI cpb)])), (lib, .inr (2, [.ref mib, .int (iI nlb)])), (mib, .inl (cy 0, 60, .inl Flb)), (wib, .inr (2, [.ref vib, .int (iI nwb)])), (vib, .inl (cy 0, 16, .inl Fwb)), (gib, .inr (2, [.ref eib, .int (iI nfb)])), (eib, .inl (cy 0, 60, .inl Ffb))] := hD
    refine lv_aload_n hx hb dX1_giveBack_38 rfl (lv_at hl 1 rfl) ?_
    refine lv_aload_n hx hb dX1_giveBack_39 rfl (lv_at hl 0 rfl) ?_
    refine va_get (D := D) (ci := 1) (v := .ref k0) (C := RX1) (T := TX1) (N := 3) hx hb hts hiX1 hown hK hP 0 rfl rfl 0 (by decide) (hts (.fieldLink RX1 11 "BackwardSearch$History" "kept" "[LBackwardSearch$State;") (by decide +kernel)) (fun _ h9 => h9) rfl dX1_giveBack_40 ?_
    refine lv_aload_n hx hb dX1_giveBack_43 rfl (lv_at hl 0 rfl) ?_
    refine va_get (D := D) (ci := 1) (v := .int (iI (nx - 1))) (C := RX1) (T := TX1) (N := 3) hx hb hts hiX1 hown hK hP 0 rfl rfl 1 (by decide) (hts (.fieldLink RX1 22 "BackwardSearch$History" "next" "I") (by decide +kernel)) (fun _ h9 => h9) rfl dX1_giveBack_44 ?_
    refine z_aldq (b := sib) hx hb hK hP 1 rfl (by omega) (by omega) (by omega) (by first | (rw [if_pos (by omega)] at hR; exact hR) | (rw [if_neg (by omega)] at hR; exact hR)) dX1_giveBack_47 ?_
    refine z_cVv (n := 1) (b := sia) (As := [.ref sib]) (rest := []) ⟨hx, hb, hml, hown, hts⟩ (c_X3_copy l D cy sia lia mia wia via gia eia nla Fla nwa Fwa nfa Ffa lra era pla lka cpa sib lib mib wib vib gib eib nlb Flb nwb Fwb nfb Ffb lrb erb plb lkb cpb (by omega)) gX1_giveBack_X3_copy rfl (by decide +kernel) ⟨Nat.le_of_ble_eq_true rfl, Nat.le_of_ble_eq_true rfl⟩ hK hT hP hD hS hA [2, 3, 4, 5, 6, 7, 8, 9, 10, 11, 12, 13, 14, 15] rfl rfl 2 3 rfl rfl rfl (fun _ => rfl) rfl hl.1 rfl (Nat.le_of_ble_eq_true rfl) dX1_giveBack_48 ⟨Nat.zero_le _, Nat.zero_le _⟩ (fun  u_4 H locs hw_4 hP hD hS => ?_)
    obtain ⟨Gl_4, Gw_4, Gf_4⟩ := u_4
    have hw_4 : (∀ j : Nat, (j : Int) < nlb → Gl_4 j = Flb j) ∧ (∀ j : Nat, (j : Int) < nwb → Gw_4 j = Fwb j) ∧ ∀ j : Nat, (j : Int) < nfb → Gf_4 j = Ffb j := hw_4
    have hP : va_P D vwCl [(h0, .inr (1, [.ref k0, .int (iI (nx - 1)), .int (iI (ct - 1))])), (k0, .inl (cy 2, 6, .inr (.inr (.inr (.inr R))))), (sia, .inr (3, [.ref lia, .ref wia, .ref gia, .int (iI lrb), .int (iI erb), .int (iI plb), .int (iI lkb), .int (iI cpb)])), (lia, .inr (2, [.ref mia, .int (iI nlb)])), (mia, .inl (cy 0, 60, .inl Gl_4)), (wia, .inr (2, [.ref via, .int (iI nwb)])), (via, .inl (cy 0, 16, .inl Gw_4)), (gia, .inr (2, [.ref eia, .int (iI nfb)])), (eia, .inl (cy 0, 60, .inl Gf_4)), (sib, .inr (3, [.ref lib, .ref wib, .ref gib, .int (iI lrb), .int (iI erb), .int (iI plb), .int (iI lkb), .int (iI cpb)])), (lib, .inr (2, [.ref mib, .int (iI nlb)])), (mib, .inl (cy 0, 60, .inl Flb)), (wib, .inr (2, [.ref vib, .int (iI nwb)])), (vib, .inl (cy 0, 16, .inl Fwb)), (gib, .inr (2, [.ref eib, .int (iI nfb)])), (eib, .inl (cy 0, 60, .inl Ffb))] H := hP
    have hD : va_D A [(h0, .inr (1, [.ref k0, .int (iI (nx - 1)), .int (iI (ct - 1))])), (k0, .inl (cy 2, 6, .inr (.inr (.inr (.inr R))))), (sia, .inr (3, [.ref lia, .ref wia, .ref gia, .int (iI lrb), .int (iI erb), .int (iI plb), .int (iI lkb), .int (iI cpb)])), (lia, .inr (2, [.ref mia, .int (iI nlb)])), (mia, .inl (cy 0, 60, .inl Gl_4)), (wia, .inr (2, [.ref via, .int (iI nwb)])), (via, .inl (cy 0, 16, .inl Gw_4)), (gia, .inr (2, [.ref eia, .int (iI nfb)])), (eia, .inl (cy 0, 60, .inl Gf_4)), (sib, .inr (3, [.ref lib, .ref wib, .ref gib, .int (iI lrb), .int (iI erb), .int (iI plb), .int (iI lkb), .int (iI cpb)])), (lib, .inr (2, [.ref mib, .int (iI nlb)])), (mib, .inl (cy 0, 60, .inl Flb)), (wib, .inr (2, [.ref vib, .int (iI nwb)])), (vib, .inl (cy 0, 16, .inl Fwb)), (gib, .inr (2, [.ref eib, .int (iI nfb)])), (eib, .inl (cy 0, 60, .inl Ffb))] := hD
    exact z_vret hx hb hr hlocks hS (nx - 1, Gl_4, Gw_4, Gf_4) (show (nx - 1) = (if 0 < nx then nx - 1 else 5) ∧ (∀ j : Nat, (j : Int) < nlb → Gl_4 j = Flb j) ∧ (∀ j : Nat, (j : Int) < nwb → Gw_4 j = Fwb j) ∧ ∀ j : Nat, (j : Int) < nfb → Gf_4 j = Ffb j from ⟨by omega, by assumption⟩) hP dX1_giveBack_51
end
section
/-! periods and end skips, told by trying; what the table tells -/
def leastF (p : Nat → Bool) : Nat → Nat → Nat
  | 0, k => k
  | n + 1, k => if p k = true then k else leastF p n (k + 1)
theorem leastF_spec (p : Nat → Bool) : ∀ (n k k0 : Nat), k ≤ k0 → k0 < k + n → p k0 = true → p (leastF p n k) = true ∧ k ≤ leastF p n k ∧ leastF p n k ≤ k0 ∧ ∀ j, k ≤ j → j < leastF p n k → p j = false
  | 0, k, k0, h1, h2, _ => by omega
  | n + 1, k, k0, h1, h2, h3 => by
    simp only [leastF]
    split
    · rename_i h; exact ⟨h, Nat.le_refl _, h1, fun j a b => by omega⟩
    · rename_i h
      have hne : k ≠ k0 := fun e => h (e ▸ h3)
      obtain ⟨q1, q2, q3, q4⟩ := leastF_spec p n (k + 1) k0 (by omega) (by omega) h3
      refine ⟨q1, by omega, q3, fun j a b => ?_⟩
      by_cases e : j = k
      · rw [e]; simpa using h
      · exact q4 j (by omega) b
def perP (m : Nat) (W : Nat → Int32) (p : Nat) : Prop := ∀ i : Nat, i < m → p ≤ i → W i = W (i - p)
def endP (m : Nat) (W : Nat → Int32) (j k : Nat) : Prop := (k ≤ j → ¬ W j = W (j - k)) ∧ ∀ i : Nat, i < m → j < i → k ≤ i → W i = W (i - k)
def perB (m : Nat) (W : Nat → Int32) (p : Nat) : Bool := decide (∀ i : Nat, i < m → p ≤ i → W i = W (i - p))
def endB (m : Nat) (W : Nat → Int32) (j k : Nat) : Bool := decide ((k ≤ j → ¬ W j = W (j - k)) ∧ ∀ i : Nat, i < m → j < i → k ≤ i → W i = W (i - k))
theorem perB_iff {m : Nat} {W : Nat → Int32} {p : Nat} : perB m W p = true ↔ perP m W p := decide_eq_true_iff
theorem endB_iff {m : Nat} {W : Nat → Int32} {j k : Nat} : endB m W j k = true ↔ endP m W j k := decide_eq_true_iff
def perF (m : Nat) (W : Nat → Int32) : Nat := if m = 0 then 0 else leastF (perB m W) m 1
def endF (m : Nat) (W : Nat → Int32) (j : Nat) : Nat := leastF (endB m W j) m 1
theorem perF_spec {m : Nat} {W : Nat → Int32} (hm : 0 < m) : perP m W (perF m W) ∧ 1 ≤ perF m W ∧ perF m W ≤ m ∧ ∀ p, 1 ≤ p → p < perF m W → ¬ perP m W p := by
  have h := leastF_spec (perB m W) m 1 m hm (by omega) (perB_iff.mpr (fun i a b => by omega))
  unfold perF
  rw [if_neg (by omega)]
  exact ⟨perB_iff.mp h.1, h.2.1, h.2.2.1, fun p a b q => absurd (perB_iff.mpr q) (by rw [h.2.2.2 p a b]; exact Bool.false_ne_true)⟩
theorem endF_spec {m : Nat} {W : Nat → Int32} {j : Nat} (hj : j < m) : endP m W j (endF m W j) ∧ 1 ≤ endF m W j ∧ endF m W j ≤ m ∧ ∀ k, 1 ≤ k → k < endF m W j → ¬ endP m W j k := by
  have h := leastF_spec (endB m W j) m 1 m (by omega) (by omega) (endB_iff.mpr ⟨fun h => by omega, fun i a b c => by omega⟩)
  exact ⟨endB_iff.mp h.1, h.2.1, h.2.2.1, fun p a b q => absurd (endB_iff.mpr q) (by rw [h.2.2.2 p a b]; exact Bool.false_ne_true)⟩
theorem perF_uniq {m : Nat} {W : Nat → Int32} {p : Nat} (h1 : 1 ≤ p) (h2 : p ≤ m) (h : perP m W p) (hmin : ∀ q, 1 ≤ q → q < p → ¬ perP m W q) : p = perF m W := by
  obtain ⟨a, b, c, d⟩ := perF_spec (W := W) (show 0 < m by omega)
  rcases Nat.lt_trichotomy p (perF m W) with q | q | q
  · exact absurd h (d p h1 q)
  · exact q
  · exact absurd a (hmin _ b q)
theorem endF_uniq {m : Nat} {W : Nat → Int32} {j k : Nat} (hj : j < m) (h1 : 1 ≤ k) (h : endP m W j k) (hmin : ∀ q, 1 ≤ q → q < k → ¬ endP m W j q) : k = endF m W j := by
  obtain ⟨a, b, c, d⟩ := endF_spec (W := W) hj
  rcases Nat.lt_trichotomy k (endF m W j) with q | q | q
  · exact absurd h (d k h1 q)
  · exact q
  · exact absurd a (hmin _ b q)
theorem perB_congr {m : Nat} {W V : Nat → Int32} (h : ∀ j : Nat, j < m → W j = V j) (p : Nat) : perB m W p = perB m V p := by
  unfold perB
  congr 1
  refine propext ⟨fun q i a b => ?_, fun q i a b => ?_⟩
  · rw [← h i a, ← h (i - p) (by omega)]; exact q i a b
  · rw [h i a, h (i - p) (by omega)]; exact q i a b
theorem endB_congr {m : Nat} {W V : Nat → Int32} (h : ∀ j : Nat, j < m → W j = V j) {j : Nat} (hj : j < m) (k : Nat) : endB m W j k = endB m V j k := by
  unfold endB
  congr 1
  refine propext ⟨fun q => ⟨fun a => ?_, fun i a b c => ?_⟩, fun q => ⟨fun a => ?_, fun i a b c => ?_⟩⟩
  · rw [← h j hj, ← h (j - k) (by omega)]; exact q.1 a
  · rw [← h i a, ← h (i - k) (by omega)]; exact q.2 i a b c
  · rw [h j hj, h (j - k) (by omega)]; exact q.1 a
  · rw [h i a, h (i - k) (by omega)]; exact q.2 i a b c
theorem perF_congr {m : Nat} {W V : Nat → Int32} (h : ∀ j : Nat, j < m → W j = V j) : perF m W = perF m V := by
  unfold perF
  rw [show perB m W = perB m V from funext (perB_congr h)]
theorem endF_congr {m : Nat} {W V : Nat → Int32} (h : ∀ j : Nat, j < m → W j = V j) {j : Nat} (hj : j < m) : endF m W j = endF m V j := by
  unfold endF
  rw [show endB m W j = endB m V j from funext (endB_congr h hj)]
/-! borders of the ends of a word: the end that begins at b is one of the end that begins at e -/
def Bd (m : Nat) (W : Nat → Int32) (e b : Nat) : Prop := e < b ∧ b ≤ m ∧ ∀ x : Nat, b ≤ x → x < m → W x = W (x - (b - e))
theorem Bd_end {m : Nat} {W : Nat → Int32} {e : Nat} (h : e < m) : Bd m W e m := ⟨h, Nat.le_refl _, fun x a b => by omega⟩
theorem Bd_trans {m : Nat} {W : Nat → Int32} {e b c : Nat} (h : Bd m W e b) (hc : b < c) : Bd m W e c ↔ Bd m W b c := by
  obtain ⟨h1, h2, h3⟩ := h
  constructor
  · rintro ⟨_, q2, q3⟩
    refine ⟨hc, q2, fun x a a2 => ?_⟩
    rw [q3 x a a2, h3 (x - (c - b)) (by omega) (by omega)]
    congr 1
    omega
  · rintro ⟨_, q2, q3⟩
    refine ⟨by omega, q2, fun x a a2 => ?_⟩
    rw [q3 x a a2, h3 (x - (c - b)) (by omega) (by omega)]
    congr 1
    omega
theorem Bd_step {m : Nat} {W : Nat → Int32} {e b : Nat} (hb : b < m) : Bd m W e b ↔ e < b ∧ Bd m W (e + 1) (b + 1) ∧ W e = W b := by
  constructor
  · rintro ⟨h1, h2, h3⟩
    refine ⟨h1, ⟨by omega, by omega, fun x a a2 => ?_⟩, ?_⟩
    · rw [h3 x (by omega) a2]; congr 1; omega
    · rw [h3 b (Nat.le_refl _) hb]; congr 1; omega
  · rintro ⟨h1, ⟨_, h2, h3⟩, h4⟩
    refine ⟨h1, by omega, fun x a a2 => ?_⟩
    by_cases e0 : x = b
    · subst e0; rw [← h4]; congr 1; omega
    · rw [h3 x (by omega) a2]; congr 1; omega
/-- the widest border of each end from e on stands in B; that of the empty end is m + 1 -/
def MinB (m : Nat) (W : Nat → Int32) (e : Nat) (b : Int) : Prop := if e = m then b = (m : Int) + 1 else (0 ≤ b ∧ Bd m W e b.toNat ∧ ∀ c : Nat, (c : Int) < b → ¬ Bd m W e c)
def AllB (m : Nat) (W : Nat → Int32) (e : Nat) (B : Nat → Int) : Prop := ∀ j : Nat, e ≤ j → j ≤ m → MinB m W j (B j)
/-- what is noted for b: the last end e' (of those from e on) of which b is a border behind another letter -/
def Mis (m : Nat) (W : Nat → Int32) (e b : Nat) : Prop := 1 ≤ e ∧ Bd m W e b ∧ ¬ W (e - 1) = W (b - 1)
def PK (m : Nat) (W : Nat → Int32) (e b : Nat) (K : Nat → Int) : Prop := (K b = 0 ∧ ∀ e2 : Nat, e ≤ e2 → ¬ Mis m W e2 b) ∨ ∃ e2 : Nat, e ≤ e2 ∧ Mis m W e2 b ∧ K b = (b : Int) - e2 ∧ ∀ e3 : Nat, e2 < e3 → ¬ Mis m W e3 b
theorem PK.down {m : Nat} {W : Nat → Int32} {e b : Nat} {K : Nat → Int} (h : PK m W (e + 1) b K) (hn : ¬ Mis m W e b) : PK m W e b K := by
  rcases h with ⟨h1, h2⟩ | ⟨e2, h1, h2⟩
  · refine Or.inl ⟨h1, fun e2 q => ?_⟩
    by_cases q2 : e2 = e
    · rw [q2]; exact hn
    · exact h2 e2 (by omega)
  · exact Or.inr ⟨e2, by omega, h2⟩
theorem PK.same {m : Nat} {W : Nat → Int32} {e b : Nat} {K K2 : Nat → Int} (h : PK m W e b K) (hk : K2 b = K b) : PK m W e b K2 := by
  unfold PK at h ⊢
  rw [hk]
  exact h
theorem grow_ok {m : Nat} {W : Nat → Int32} {B : Nat → Int} {e : Nat} (he : 1 ≤ e) (hem : e ≤ m) (hB : AllB m W e B) : ∀ (n b : Nat) (K : Nat → Int), m + 2 ≤ n + b → (b = m + 1 ∨ Bd m W e b) → b ≤ m + 1 → e < b → (∀ c : Nat, Bd m W e c → c < b → ¬ W (e - 1) = W (c - 1)) → (∀ c : Nat, c ≤ m → (c < b → PK m W e c K) ∧ (b ≤ c → PK m W (e + 1) c K)) →
    ∃ (g : Nat) (K2 : Nat → Int), growF (m : Int) W B (e : Int) n (b : Int) K = ((g : Int), K2) ∧ (g = m + 1 ∨ (Bd m W e g ∧ W (e - 1) = W (g - 1))) ∧ e < g ∧ g ≤ m + 1 ∧ (∀ c : Nat, Bd m W e c → c < g → ¬ W (e - 1) = W (c - 1)) ∧ ∀ c : Nat, c ≤ m → PK m W e c K2
  | 0, b, K, h1, h2, h3, h4, h5, h6 => by omega
  | n + 1, b, K, h1, h2, h3, h4, h5, h6 => by
    have e1 : ((e : Int) - 1).toNat = e - 1 := by omega
    have e2 : ((b : Int) - 1).toNat = b - 1 := by omega
    by_cases hs : (b : Int) ≤ 0 ∨ (m : Int) < b ∨ W ((e : Int) - 1).toNat = W ((b : Int) - 1).toNat
    · rw [growF_stop hs]
      rw [e1, e2] at hs
      refine ⟨b, K, rfl, ?_, h4, h3, h5, fun c hc => ?_⟩
      · rcases h2 with h | h
        · exact Or.inl h
        · rcases hs with q | q | q
          · omega
          · exact Or.inl (by omega)
          · exact Or.inr ⟨h, q⟩
      · rcases Nat.lt_or_ge c b with q | q
        · exact (h6 c hc).1 q
        · have hp := (h6 c hc).2 q
          by_cases hm : Mis m W e c
          · rcases hs with q1 | q1 | q1
            · omega
            · omega
            · obtain ⟨m1, m2, m3⟩ := hm
              have hbb : Bd m W e b := by
                rcases h2 with h | h
                · omega
                · exact h
              have hcb : b < c := by
                rcases Nat.lt_or_ge b c with z | z
                · exact z
                · have : c = b := by omega
                  subst this
                  exact absurd q1 m3
              have hbc := (Bd_trans hbb hcb).mp m2
              have hmis : Mis m W b c := ⟨by omega, hbc, by rw [← q1]; exact m3⟩
              rcases hp with ⟨_, p2⟩ | ⟨x, p1, p2⟩
              · exact absurd hmis (p2 b (by omega))
              · exact Or.inr ⟨x, by omega, p2⟩
          · exact hp.down hm
    · rw [growF_go hs]
      rw [e1, e2] at hs
      have hb0 : 0 < b := by omega
      have hbm : b ≤ m := by
        rcases Nat.lt_or_ge m b with q | q
        · exact absurd (Or.inr (Or.inl (by omega))) hs
        · exact q
      have hmm : ¬ W (e - 1) = W (b - 1) := fun q => hs (Or.inr (Or.inr q))
      have hbb : Bd m W e b := by
        rcases h2 with h | h
        · omega
        · exact h
      have e3 : ((b : Nat) : Int).toNat = b := by omega
      rw [e3]
      have hMb := hB b (by omega) hbm
      -- the next border
      obtain ⟨b2, hb2, q1, q2, q3, q4⟩ : ∃ b2 : Nat, B b = (b2 : Int) ∧ (b2 = m + 1 ∨ Bd m W b b2) ∧ b2 ≤ m + 1 ∧ b < b2 ∧ ∀ c : Nat, c < b2 → ¬ Bd m W b c := by
        unfold MinB at hMb
        by_cases z : b = m
        · rw [if_pos z] at hMb
          refine ⟨m + 1, by omega, Or.inl rfl, Nat.le_refl _, by omega, fun c hc hcc => ?_⟩
          have := hcc.1
          have := hcc.2.1
          omega
        · rw [if_neg z] at hMb
          obtain ⟨z1, z2, z3⟩ := hMb
          refine ⟨(B b).toNat, by omega, Or.inr z2, by have := z2.2.1; omega, z2.1, fun c hc => z3 c (by omega)⟩
      rw [hb2]
      refine grow_ok he hem hB n b2 _ (by omega) ?_ q2 (by omega) (fun c hc hcb => ?_) (fun c hc => ⟨fun hcb => ?_, fun hcb => ?_⟩)
      · rcases q1 with q | q
        · exact Or.inl q
        · exact Or.inr ((Bd_trans hbb q3).mpr q)
      · rcases Nat.lt_trichotomy c b with z | z | z
        · exact h5 c hc z
        · rw [z]; exact hmm
        · exact absurd ((Bd_trans hbb z).mp hc) (q4 c hcb)
      · rcases Nat.lt_trichotomy c b with z | z | z
        · refine ((h6 c hc).1 z).same ?_
          split
          · rw [updZ_ne _ _ (by omega)]
          · rfl
        · subst z
          have hp := (h6 c hc).2 (Nat.le_refl _)
          split
          · rename_i hk
            rcases hp with ⟨p1, p2⟩ | ⟨x, p1, p2, p3, p4⟩
            · exact Or.inr ⟨e, Nat.le_refl _, ⟨he, hbb, hmm⟩, updZ_same _ _ _, fun e3 z => p2 e3 (by omega)⟩
            · have := p2.2.1.1
              omega
          · rename_i hk
            rcases hp with ⟨p1, p2⟩ | ⟨x, p1, p2⟩
            · exact absurd p1 hk
            · exact Or.inr ⟨x, by omega, p2⟩
        · have hp := (h6 c hc).2 (by omega)
          refine (hp.down (fun hm => ?_)).same ?_
          · exact q4 c hcb ((Bd_trans hbb z).mp hm.2.1)
          · split
            · rw [updZ_ne _ _ (by omega)]
            · rfl
      · refine ((h6 c hc).2 (by omega)).same ?_
        split
        · rw [updZ_ne _ _ (by omega)]
        · rfl
theorem find_ok {m : Nat} {W : Nat → Int32} : ∀ (e : Nat) (b : Int) (B K : Nat → Int), e ≤ m → AllB m W e B → b = B e → (∀ c : Nat, c ≤ m → PK m W (e + 1) c K) → AllB m W 0 (findF m W e b B K).1 ∧ ∀ c : Nat, c ≤ m → PK m W 1 c (findF m W e b B K).2
  | 0, b, B, K, _, h2, _, h4 => ⟨h2, h4⟩
  | e + 1, b, B, K, h1, h2, h3, h4 => by
    have hM := h2 (e + 1) (Nat.le_refl _) h1
    obtain ⟨b0, hb0, q1, q2, q3, q4⟩ : ∃ b0 : Nat, b = (b0 : Int) ∧ (b0 = m + 1 ∨ Bd m W (e + 1) b0) ∧ b0 ≤ m + 1 ∧ e + 1 < b0 ∧ ∀ c : Nat, c < b0 → ¬ Bd m W (e + 1) c := by
      rw [h3]
      unfold MinB at hM
      by_cases z : e + 1 = m
      · rw [if_pos z] at hM
        refine ⟨m + 1, by omega, Or.inl rfl, Nat.le_refl _, by omega, fun c hc hcc => ?_⟩
        have := hcc.1
        have := hcc.2.1
        omega
      · rw [if_neg z] at hM
        obtain ⟨z1, z2, z3⟩ := hM
        exact ⟨(B (e + 1)).toNat, by omega, Or.inr z2, by have := z2.2.1; omega, z2.1, fun c hc => z3 c (by omega)⟩
    obtain ⟨g, K2, hg, g1, g2, g3, g4, g5⟩ := grow_ok (by omega) h1 h2 (m + 1) b0 K (by omega) q1 q2 q3 (fun c hc hcb => absurd hc (q4 c hcb)) (fun c hc => ⟨fun hcb => (h4 c hc).down (fun hm => q4 c hcb hm.2.1), fun _ => h4 c hc⟩)
    have hg' : growF (m : Int) W B ((e : Int) + 1) (m + 1) b K = ((g : Int), K2) := by rw [hb0]; exact hg
    simp only [findF]
    rw [hg']
    refine find_ok e _ _ _ (by omega) (fun j hj hjm => ?_) (updZ_same _ _ _).symm g5
    by_cases z : j = e
    · subst z
      rw [updZ_same]
      unfold MinB
      rw [if_neg (by omega)]
      have e1 : ((g : Int) - 1).toNat = g - 1 := by omega
      refine ⟨by omega, ?_, fun c hc hcc => ?_⟩
      · rw [e1]
        rcases g1 with g1 | ⟨g1, g6⟩
        · rw [g1]; exact Bd_end (by omega)
        · refine (Bd_step (by have := g1.2.1; omega)).mpr ⟨by omega, by rw [show g - 1 + 1 = g by omega]; exact g1, by simpa using g6⟩
      · have hcm : c < m := by
          have := hcc.2.1
          omega
        obtain ⟨_, y2, y3⟩ := (Bd_step hcm).mp hcc
        exact g4 (c + 1) y2 (by omega) (by simpa using y3)
    · rw [updZ_ne _ _ z]
      exact h2 j (by omega) hjm
def FB (m : Nat) (W : Nat → Int32) (e b : Nat) : Prop := Bd m W 0 b ∧ e ≤ b ∧ ∀ c : Nat, e ≤ c → c < b → ¬ Bd m W 0 c
theorem tail_ok {m : Nat} {W : Nat → Int32} {B : Nat → Int} (hB : AllB m W 0 B) : ∀ (n e b : Nat) (K : Nat → Int), n + e = m + 1 → (e ≤ m → FB m W e b) → ∀ c : Nat, c ≤ m → (c < e → tailF B n e (b : Int) K c = K c) ∧ (e ≤ c → (¬ K c = 0 → tailF B n e (b : Int) K c = K c) ∧ (K c = 0 → ∃ d : Nat, FB m W c d ∧ tailF B n e (b : Int) K c = (d : Int)))
  | 0, e, b, K, h1, h2 => fun c hc => ⟨fun _ => rfl, fun h => by omega⟩
  | n + 1, e, b, K, h1, h2 => by
    have hF := h2 (by omega)
    obtain ⟨b2, hb2, hF2⟩ : ∃ b2 : Nat, (if (e : Int) = (b : Int) then B e else (b : Int)) = (b2 : Int) ∧ (e + 1 ≤ m → FB m W (e + 1) b2) := by
      by_cases z : (e : Int) = (b : Int)
      · have z2 : e = b := by omega
        subst z2
        rw [if_pos rfl]
        have hM := hB e (Nat.zero_le _) (by omega)
        unfold MinB at hM
        by_cases y : e = m
        · rw [if_pos y] at hM
          exact ⟨m + 1, by omega, fun h => by omega⟩
        · rw [if_neg y] at hM
          obtain ⟨z1, z3, z4⟩ := hM
          refine ⟨(B e).toNat, by omega, fun _ => ⟨(Bd_trans hF.1 z3.1).mpr z3, z3.1, fun c c1 c2 c3 => z4 c (by omega) ((Bd_trans hF.1 (by omega)).mp c3)⟩⟩
      · rw [if_neg z]
        refine ⟨b, rfl, fun _ => ⟨hF.1, by have := hF.2.1; omega, fun c c1 c2 => hF.2.2 c (by omega) c2⟩⟩
    intro c hc
    simp only [tailF]
    rw [hb2]
    have ih := tail_ok hB n (e + 1) b2 (if K e = 0 then updZ K e (b : Int) else K) (by omega) hF2 c hc
    refine ⟨fun h => ?_, fun h => ?_⟩
    · rw [ih.1 (by omega)]
      split
      · rw [updZ_ne _ _ (by omega)]
      · rfl
    · by_cases z : c = e
      · subst z
        rw [ih.1 (by omega)]
        refine ⟨fun hk => ?_, fun hk => ?_⟩
        · rw [if_neg hk]
        · rw [if_pos hk, updZ_same]
          exact ⟨b, hF, rfl⟩
      · have i2 := ih.2 (by omega)
        have hkc : (if K e = 0 then updZ K e (b : Int) else K) c = K c := by
          split
          · rw [updZ_ne _ _ (by omega)]
          · rfl
        rw [hkc] at i2
        exact i2
theorem find_start {m : Nat} {W : Nat → Int32} (B K : Nat → Int) : AllB m W m (updZ B m ((m : Int) + 1)) ∧ ∀ c : Nat, c ≤ m → PK m W (m + 1) c (zF ((m : Int) + 1) K) := by
  refine ⟨fun j h1 h2 => ?_, fun c hc => Or.inl ⟨?_, fun e2 h hm => ?_⟩⟩
  · have : j = m := by omega
    subst this
    unfold MinB
    rw [if_pos rfl, updZ_same]
  · simp only [zF]
    rw [if_pos (by omega)]
  · have := hm.2.1.1
    have := hm.2.1.2.1
    omega
theorem study_ok {m : Nat} {W : Nat → Int32} (B K : Nat → Int) (hm : 0 < m) : studyB m W B K 0 = (perF m W : Int) ∧ ∀ j : Nat, j < m → studyK m W B K (j + 1) = (endF m W j : Int) := by
  obtain ⟨s1, s2⟩ := find_start (W := W) B K
  have hf := find_ok m ((m : Int) + 1) (updZ B m ((m : Int) + 1)) (zF ((m : Int) + 1) K) (Nat.le_refl _) s1 (updZ_same _ _ _).symm s2
  obtain ⟨f1, f2⟩ := hf
  have hM := f1 0 (Nat.le_refl _) (Nat.zero_le _)
  unfold MinB at hM
  rw [if_neg (by omega)] at hM
  obtain ⟨z1, z2, z3⟩ := hM
  have hB0 : (findF m W m ((m : Int) + 1) (updZ B m ((m : Int) + 1)) (zF ((m : Int) + 1) K)).1 = studyB m W B K := rfl
  rw [hB0] at z1 z2 z3 f1
  have hper : (studyB m W B K 0).toNat = perF m W := by
    refine perF_uniq (by have := z2.1; omega) z2.2.1 (fun i a b => by simpa using z2.2.2 i b a) (fun q q1 q2 q3 => z3 q (by omega) ⟨by omega, by have := z2.2.1; omega, fun x a b => by simpa using q3 x b a⟩)
  refine ⟨by omega, fun j hj => ?_⟩
  have hb : studyB m W B K 0 = (((studyB m W B K 0).toNat : Nat) : Int) := by omega
  have ht := tail_ok f1 (m + 1) 0 (studyB m W B K 0).toNat (findF m W m ((m : Int) + 1) (updZ B m ((m : Int) + 1)) (zF ((m : Int) + 1) K)).2 (by omega) (fun _ => ⟨z2, Nat.zero_le _, fun c _ c2 => z3 c (by omega)⟩) (j + 1) (by omega)
  rw [← hb] at ht
  have ht2 := ht.2 (Nat.zero_le _)
  have hK : tailF (studyB m W B K) (m + 1) 0 (studyB m W B K 0) (findF m W m ((m : Int) + 1) (updZ B m ((m : Int) + 1)) (zF ((m : Int) + 1) K)).2 = studyK m W B K := rfl
  rw [hK] at ht2
  have mis_of : ∀ k : Nat, 1 ≤ k → k ≤ j → endP m W j k → Mis m W (j + 1 - k) (j + 1) := by
    intro k k1 k2 hk
    refine ⟨by omega, ⟨by omega, by omega, fun x a b => ?_⟩, fun h => hk.1 k2 ?_⟩
    · rw [hk.2 x b (by omega) (by omega)]; congr 1; omega
    · rw [show j + 1 - k - 1 = j - k by omega, show j + 1 - 1 = j by omega] at h
      exact h.symm
  rcases f2 (j + 1) (by omega) with ⟨k0, k1⟩ | ⟨e2, k1, k2, k3, k4⟩
  · obtain ⟨d, hd, hk⟩ := ht2.2 k0
    rw [hk]
    congr 1
    refine endF_uniq hj (by have := hd.2.1; omega) ⟨fun h => by have := hd.2.1; omega, fun i a b c => by simpa using hd.1.2.2 i c a⟩ (fun q q1 q2 q3 => ?_)
    rcases Nat.lt_or_ge j q with y | y
    · exact hd.2.2 q (by omega) q2 ⟨by omega, by have := hd.1.2.1; omega, fun x a b => by simpa using q3.2 x b (by omega) a⟩
    · exact k1 _ (by omega) (mis_of q q1 y q3)
  · have hlt := k2.2.1.1
    have hk := ht2.1 (by omega)
    rw [hk, k3]
    have e1 : (((j + 1 : Nat)) : Int) - (e2 : Int) = ((j + 1 - e2 : Nat) : Int) := by omega
    rw [e1]
    congr 1
    refine endF_uniq hj (by omega) ⟨fun _ h => k2.2.2 ?_, fun i a b c => ?_⟩ (fun q q1 q2 q3 => k4 _ (by omega) (mis_of q q1 (by omega) q3))
    · rw [show j + 1 - 1 = j by omega, show e2 - 1 = j - (j + 1 - e2) by omega]
      exact h.symm
    · exact k2.2.1.2.2 i (by omega) a
theorem study_rng {m : Nat} (hm : m ≤ 16) {W : Nat → Int32} {B K : Nat → Int} (hK : ∀ j : Nat, 0 ≤ K j ∧ K j ≤ 17) : (∀ j : Nat, 0 ≤ studyK m W B K j ∧ studyK m W B K j ≤ 17) ∧ 1 ≤ studyB m W B K 0 ∧ studyB m W B K 0 ≤ 17 := by
  have h := findF_rng hm (W := W) m ((m : Int) + 1) (updZ B m ((m : Int) + 1)) (zF ((m : Int) + 1) K) (Nat.le_refl _) (Int.le_refl _) (Int.le_refl _) (fun j h1 h2 => by rw [show j = m by omega, updZ_same]; omega) (zF_rng hK _)
  have hB0 : (findF m W m ((m : Int) + 1) (updZ B m ((m : Int) + 1)) (zF ((m : Int) + 1) K)).1 = studyB m W B K := rfl
  rw [hB0] at h
  have h0 := h.1 0 (by omega)
  refine ⟨tailF_rng hm (fun j hj => by have := h.1 j hj; omega) (m + 1) 0 _ _ (by omega) (by omega) h.2, by omega, by omega⟩
end
section
theorem dX5_thrown_0 : decode cX5_thrown 0 = .ok (.aload_n 0, 1) := by decide +kernel
theorem dX5_thrown_1 : decode cX5_thrown 1 = .ok (.getfield 25, 3) := by decide +kernel
theorem dX5_thrown_4 : decode cX5_thrown 4 = .ok (.ireturn, 1) := by decide +kernel
theorem dX5_fails_0 : decode cX5_fails 0 = .ok (.aload_n 0, 1) := by decide +kernel
theorem dX5_fails_1 : decode cX5_fails 1 = .ok (.iload_n 1, 1) := by decide +kernel
theorem dX5_fails_2 : decode cX5_fails 2 = .ok (.putfield 25, 3) := by decide +kernel
theorem dX5_fails_5 : decode cX5_fails 5 = .ok (.iconst 0, 1) := by decide +kernel
theorem dX5_fails_6 : decode cX5_fails 6 = .ok (.ireturn, 1) := by decide +kernel
theorem dX5_told_0 : decode cX5_told 0 = .ok (.aload_n 0, 1) := by decide +kernel
theorem dX5_told_1 : decode cX5_told 1 = .ok (.iconst 0, 1) := by decide +kernel
theorem dX5_told_2 : decode cX5_told 2 = .ok (.putfield 25, 3) := by decide +kernel
theorem dX5_told_5 : decode cX5_told 5 = .ok (.iload_n 1, 1) := by decide +kernel
theorem dX5_told_6 : decode cX5_told 6 = .ok (.ireturn, 1) := by decide +kernel
theorem dX5_in_0 : decode cX5_in 0 = .ok (.lload_n 0, 1) := by decide +kernel
theorem dX5_in_1 : decode cX5_in 1 = .ok (.lload_n 2, 1) := by decide +kernel
theorem dX5_in_2 : decode cX5_in 2 = .ok (.lcmp, 1) := by decide +kernel
theorem dX5_in_3 : decode cX5_in 3 = .ok (.ifCond .lt 14, 3) := by decide +kernel
theorem dX5_in_6 : decode cX5_in 6 = .ok (.lload_n 0, 1) := by decide +kernel
theorem dX5_in_7 : decode cX5_in 7 = .ok (.lload 4, 2) := by decide +kernel
theorem dX5_in_9 : decode cX5_in 9 = .ok (.lcmp, 1) := by decide +kernel
theorem dX5_in_10 : decode cX5_in 10 = .ok (.ifCond .gt 7, 3) := by decide +kernel
theorem dX5_in_13 : decode cX5_in 13 = .ok (.iconst 1, 1) := by decide +kernel
theorem dX5_in_14 : decode cX5_in 14 = .ok (.goto 4, 3) := by decide +kernel
theorem dX5_in_17 : decode cX5_in 17 = .ok (.iconst 0, 1) := by decide +kernel
theorem dX5_in_18 : decode cX5_in 18 = .ok (.ireturn, 1) := by decide +kernel
theorem dX5_isLetter_0 : decode cX5_isLetter 0 = .ok (.iload_n 0, 1) := by decide +kernel
theorem dX5_isLetter_1 : decode cX5_isLetter 1 = .ok (.i2l, 1) := by decide +kernel
theorem dX5_isLetter_2 : decode cX5_isLetter 2 = .ok (.lconst 0, 1) := by decide +kernel
theorem dX5_isLetter_3 : decode cX5_isLetter 3 = .ok (.ldc2_w 32, 3) := by decide +kernel
theorem dX5_isLetter_6 : decode cX5_isLetter 6 = .ok (.invokestatic 34, 3) := by decide +kernel
theorem dX5_isLetter_9 : decode cX5_isLetter 9 = .ok (.ireturn, 1) := by decide +kernel
set_option maxRecDepth 20000 in
theorem ggX5_isLetter_X5_in : GoodIn wsX5_isLetter wsX5_in := goodIn_r _ [5] (by decide +kernel) (by decide +kernel)
set_option maxRecDepth 20000 in
theorem gX5_isLetter_X5_in : GoodIn wsX5_isLetter (va_wsS RX5 34 yX5_in wsX5_in) := goodIn_app (goodIn_of _ (by decide +kernel)) ggX5_isLetter_X5_in
theorem dX5_isInWord_0 : decode cX5_isInWord 0 = .ok (.iload_n 1, 1) := by decide +kernel
theorem dX5_isInWord_1 : decode cX5_isInWord 1 = .ok (.i2l, 1) := by decide +kernel
theorem dX5_isInWord_2 : decode cX5_isInWord 2 = .ok (.lconst 0, 1) := by decide +kernel
theorem dX5_isInWord_3 : decode cX5_isInWord 3 = .ok (.aload_n 0, 1) := by decide +kernel
theorem dX5_isInWord_4 : decode cX5_isInWord 4 = .ok (.getfield 7, 3) := by decide +kernel
theorem dX5_isInWord_7 : decode cX5_isInWord 7 = .ok (.bipush 61, 2) := by decide +kernel
theorem dX5_isInWord_9 : decode cX5_isInWord 9 = .ok (.iaload, 1) := by decide +kernel
theorem dX5_isInWord_10 : decode cX5_isInWord 10 = .ok (.i2l, 1) := by decide +kernel
theorem dX5_isInWord_11 : decode cX5_isInWord 11 = .ok (.lconst 1, 1) := by decide +kernel
theorem dX5_isInWord_12 : decode cX5_isInWord 12 = .ok (.lsub, 1) := by decide +kernel
theorem dX5_isInWord_13 : decode cX5_isInWord 13 = .ok (.invokestatic 34, 3) := by decide +kernel
theorem dX5_isInWord_16 : decode cX5_isInWord 16 = .ok (.ireturn, 1) := by decide +kernel
set_option maxRecDepth 20000 in
theorem ggX5_isInWord_X5_in : GoodIn wsX5_isInWord wsX5_in := goodIn_r _ [5] (by decide +kernel) (by decide +kernel)
set_option maxRecDepth 20000 in
theorem gX5_isInWord_X5_in : GoodIn wsX5_isInWord (va_wsS RX5 34 yX5_in wsX5_in) := goodIn_app (goodIn_of _ (by decide +kernel)) ggX5_isInWord_X5_in
theorem dX5_isInLine_0 : decode cX5_isInLine 0 = .ok (.iload_n 1, 1) := by decide +kernel
theorem dX5_isInLine_1 : decode cX5_isInLine 1 = .ok (.i2l, 1) := by decide +kernel
theorem dX5_isInLine_2 : decode cX5_isInLine 2 = .ok (.lconst 0, 1) := by decide +kernel
theorem dX5_isInLine_3 : decode cX5_isInLine 3 = .ok (.aload_n 0, 1) := by decide +kernel
theorem dX5_isInLine_4 : decode cX5_isInLine 4 = .ok (.getfield 7, 3) := by decide +kernel
theorem dX5_isInLine_7 : decode cX5_isInLine 7 = .ok (.iconst 0, 1) := by decide +kernel
theorem dX5_isInLine_8 : decode cX5_isInLine 8 = .ok (.iaload, 1) := by decide +kernel
theorem dX5_isInLine_9 : decode cX5_isInLine 9 = .ok (.i2l, 1) := by decide +kernel
theorem dX5_isInLine_10 : decode cX5_isInLine 10 = .ok (.lconst 1, 1) := by decide +kernel
theorem dX5_isInLine_11 : decode cX5_isInLine 11 = .ok (.lsub, 1) := by decide +kernel
theorem dX5_isInLine_12 : decode cX5_isInLine 12 = .ok (.invokestatic 34, 3) := by decide +kernel
theorem dX5_isInLine_15 : decode cX5_isInLine 15 = .ok (.ireturn, 1) := by decide +kernel
set_option maxRecDepth 20000 in
theorem ggX5_isInLine_X5_in : GoodIn wsX5_isInLine wsX5_in := goodIn_r _ [5] (by decide +kernel) (by decide +kernel)
set_option maxRecDepth 20000 in
theorem gX5_isInLine_X5_in : GoodIn wsX5_isInLine (va_wsS RX5 34 yX5_in wsX5_in) := goodIn_app (goodIn_of _ (by decide +kernel)) ggX5_isInLine_X5_in
theorem dX5_lastOf_0 : decode cX5_lastOf 0 = .ok (.iconst (-1), 1) := by decide +kernel
theorem dX5_lastOf_1 : decode cX5_lastOf 1 = .ok (.istore_n 2, 1) := by decide +kernel
theorem dX5_lastOf_2 : decode cX5_lastOf 2 = .ok (.iconst 0, 1) := by decide +kernel
theorem dX5_lastOf_3 : decode cX5_lastOf 3 = .ok (.istore_n 3, 1) := by decide +kernel
theorem dX5_lastOf_4 : decode cX5_lastOf 4 = .ok (.iload_n 3, 1) := by decide +kernel
theorem dX5_lastOf_5 : decode cX5_lastOf 5 = .ok (.aload_n 0, 1) := by decide +kernel
theorem dX5_lastOf_6 : decode cX5_lastOf 6 = .ok (.getfield 7, 3) := by decide +kernel
theorem dX5_lastOf_9 : decode cX5_lastOf 9 = .ok (.bipush 61, 2) := by decide +kernel
theorem dX5_lastOf_11 : decode cX5_lastOf 11 = .ok (.iaload, 1) := by decide +kernel
theorem dX5_lastOf_12 : decode cX5_lastOf 12 = .ok (.if_icmp .ge 28, 3) := by decide +kernel
theorem dX5_lastOf_15 : decode cX5_lastOf 15 = .ok (.aload_n 0, 1) := by decide +kernel
theorem dX5_lastOf_16 : decode cX5_lastOf 16 = .ok (.getfield 7, 3) := by decide +kernel
theorem dX5_lastOf_19 : decode cX5_lastOf 19 = .ok (.bipush 62, 2) := by decide +kernel
theorem dX5_lastOf_21 : decode cX5_lastOf 21 = .ok (.iload_n 3, 1) := by decide +kernel
theorem dX5_lastOf_22 : decode cX5_lastOf 22 = .ok (.iadd, 1) := by decide +kernel
theorem dX5_lastOf_23 : decode cX5_lastOf 23 = .ok (.iaload, 1) := by decide +kernel
theorem dX5_lastOf_24 : decode cX5_lastOf 24 = .ok (.iload_n 1, 1) := by decide +kernel
theorem dX5_lastOf_25 : decode cX5_lastOf 25 = .ok (.if_icmp .ne 7, 3) := by decide +kernel
theorem dX5_lastOf_28 : decode cX5_lastOf 28 = .ok (.iload_n 3, 1) := by decide +kernel
theorem dX5_lastOf_29 : decode cX5_lastOf 29 = .ok (.goto 4, 3) := by decide +kernel
theorem dX5_lastOf_32 : decode cX5_lastOf 32 = .ok (.iload_n 2, 1) := by decide +kernel
theorem dX5_lastOf_33 : decode cX5_lastOf 33 = .ok (.istore_n 2, 1) := by decide +kernel
theorem dX5_lastOf_34 : decode cX5_lastOf 34 = .ok (.iinc 3 1, 3) := by decide +kernel
theorem dX5_lastOf_37 : decode cX5_lastOf 37 = .ok (.goto (-33), 3) := by decide +kernel
theorem dX5_lastOf_40 : decode cX5_lastOf 40 = .ok (.iload_n 2, 1) := by decide +kernel
theorem dX5_lastOf_41 : decode cX5_lastOf 41 = .ok (.ireturn, 1) := by decide +kernel
theorem dX5_fits_0 : decode cX5_fits 0 = .ok (.iload_n 1, 1) := by decide +kernel
theorem dX5_fits_1 : decode cX5_fits 1 = .ok (.iload_n 2, 1) := by decide +kernel
theorem dX5_fits_2 : decode cX5_fits 2 = .ok (.if_icmp .lt 26, 3) := by decide +kernel
theorem dX5_fits_5 : decode cX5_fits 5 = .ok (.aload_n 0, 1) := by decide +kernel
theorem dX5_fits_6 : decode cX5_fits 6 = .ok (.getfield 7, 3) := by decide +kernel
theorem dX5_fits_9 : decode cX5_fits 9 = .ok (.bipush 62, 2) := by decide +kernel
theorem dX5_fits_11 : decode cX5_fits 11 = .ok (.iload_n 1, 1) := by decide +kernel
theorem dX5_fits_12 : decode cX5_fits 12 = .ok (.iadd, 1) := by decide +kernel
theorem dX5_fits_13 : decode cX5_fits 13 = .ok (.iaload, 1) := by decide +kernel
theorem dX5_fits_14 : decode cX5_fits 14 = .ok (.aload_n 0, 1) := by decide +kernel
theorem dX5_fits_15 : decode cX5_fits 15 = .ok (.getfield 7, 3) := by decide +kernel
theorem dX5_fits_18 : decode cX5_fits 18 = .ok (.bipush 62, 2) := by decide +kernel
theorem dX5_fits_20 : decode cX5_fits 20 = .ok (.iload_n 1, 1) := by decide +kernel
theorem dX5_fits_21 : decode cX5_fits 21 = .ok (.iadd, 1) := by decide +kernel
theorem dX5_fits_22 : decode cX5_fits 22 = .ok (.iload_n 2, 1) := by decide +kernel
theorem dX5_fits_23 : decode cX5_fits 23 = .ok (.isub, 1) := by decide +kernel
theorem dX5_fits_24 : decode cX5_fits 24 = .ok (.iaload, 1) := by decide +kernel
theorem dX5_fits_25 : decode cX5_fits 25 = .ok (.if_icmp .eq 7, 3) := by decide +kernel
theorem dX5_fits_28 : decode cX5_fits 28 = .ok (.iconst 1, 1) := by decide +kernel
theorem dX5_fits_29 : decode cX5_fits 29 = .ok (.goto 4, 3) := by decide +kernel
theorem dX5_fits_32 : decode cX5_fits 32 = .ok (.iconst 0, 1) := by decide +kernel
theorem dX5_fits_33 : decode cX5_fits 33 = .ok (.istore_n 3, 1) := by decide +kernel
theorem dX5_fits_34 : decode cX5_fits 34 = .ok (.iload_n 1, 1) := by decide +kernel
theorem dX5_fits_35 : decode cX5_fits 35 = .ok (.iconst 1, 1) := by decide +kernel
theorem dX5_fits_36 : decode cX5_fits 36 = .ok (.iadd, 1) := by decide +kernel
theorem dX5_fits_37 : decode cX5_fits 37 = .ok (.istore 4, 2) := by decide +kernel
theorem dX5_fits_39 : decode cX5_fits 39 = .ok (.iload 4, 2) := by decide +kernel
theorem dX5_fits_41 : decode cX5_fits 41 = .ok (.aload_n 0, 1) := by decide +kernel
theorem dX5_fits_42 : decode cX5_fits 42 = .ok (.getfield 7, 3) := by decide +kernel
theorem dX5_fits_45 : decode cX5_fits 45 = .ok (.bipush 61, 2) := by decide +kernel
theorem dX5_fits_47 : decode cX5_fits 47 = .ok (.iaload, 1) := by decide +kernel
theorem dX5_fits_48 : decode cX5_fits 48 = .ok (.if_icmp .ge 50, 3) := by decide +kernel
theorem dX5_fits_51 : decode cX5_fits 51 = .ok (.iload_n 3, 1) := by decide +kernel
theorem dX5_fits_52 : decode cX5_fits 52 = .ok (.ifCond .eq 38, 3) := by decide +kernel
theorem dX5_fits_55 : decode cX5_fits 55 = .ok (.iload 4, 2) := by decide +kernel
theorem dX5_fits_57 : decode cX5_fits 57 = .ok (.iload_n 2, 1) := by decide +kernel
theorem dX5_fits_58 : decode cX5_fits 58 = .ok (.if_icmp .lt 28, 3) := by decide +kernel
theorem dX5_fits_61 : decode cX5_fits 61 = .ok (.aload_n 0, 1) := by decide +kernel
theorem dX5_fits_62 : decode cX5_fits 62 = .ok (.getfield 7, 3) := by decide +kernel
theorem dX5_fits_65 : decode cX5_fits 65 = .ok (.bipush 62, 2) := by decide +kernel
theorem dX5_fits_67 : decode cX5_fits 67 = .ok (.iload 4, 2) := by decide +kernel
theorem dX5_fits_69 : decode cX5_fits 69 = .ok (.iadd, 1) := by decide +kernel
theorem dX5_fits_70 : decode cX5_fits 70 = .ok (.iaload, 1) := by decide +kernel
theorem dX5_fits_71 : decode cX5_fits 71 = .ok (.aload_n 0, 1) := by decide +kernel
theorem dX5_fits_72 : decode cX5_fits 72 = .ok (.getfield 7, 3) := by decide +kernel
theorem dX5_fits_75 : decode cX5_fits 75 = .ok (.bipush 62, 2) := by decide +kernel
theorem dX5_fits_77 : decode cX5_fits 77 = .ok (.iload 4, 2) := by decide +kernel
theorem dX5_fits_79 : decode cX5_fits 79 = .ok (.iadd, 1) := by decide +kernel
theorem dX5_fits_80 : decode cX5_fits 80 = .ok (.iload_n 2, 1) := by decide +kernel
theorem dX5_fits_81 : decode cX5_fits 81 = .ok (.isub, 1) := by decide +kernel
theorem dX5_fits_82 : decode cX5_fits 82 = .ok (.iaload, 1) := by decide +kernel
theorem dX5_fits_83 : decode cX5_fits 83 = .ok (.if_icmp .ne 7, 3) := by decide +kernel
theorem dX5_fits_86 : decode cX5_fits 86 = .ok (.iconst 1, 1) := by decide +kernel
theorem dX5_fits_87 : decode cX5_fits 87 = .ok (.goto 4, 3) := by decide +kernel
theorem dX5_fits_90 : decode cX5_fits 90 = .ok (.iconst 0, 1) := by decide +kernel
theorem dX5_fits_91 : decode cX5_fits 91 = .ok (.istore_n 3, 1) := by decide +kernel
theorem dX5_fits_92 : decode cX5_fits 92 = .ok (.iinc 4 1, 3) := by decide +kernel
theorem dX5_fits_95 : decode cX5_fits 95 = .ok (.goto (-56), 3) := by decide +kernel
theorem dX5_fits_98 : decode cX5_fits 98 = .ok (.iload_n 3, 1) := by decide +kernel
theorem dX5_fits_99 : decode cX5_fits 99 = .ok (.ireturn, 1) := by decide +kernel
theorem dX5_endSkipOf_0 : decode cX5_endSkipOf 0 = .ok (.iconst 1, 1) := by decide +kernel
theorem dX5_endSkipOf_1 : decode cX5_endSkipOf 1 = .ok (.istore_n 2, 1) := by decide +kernel
theorem dX5_endSkipOf_2 : decode cX5_endSkipOf 2 = .ok (.aload_n 0, 1) := by decide +kernel
theorem dX5_endSkipOf_3 : decode cX5_endSkipOf 3 = .ok (.iload_n 1, 1) := by decide +kernel
theorem dX5_endSkipOf_4 : decode cX5_endSkipOf 4 = .ok (.iload_n 2, 1) := by decide +kernel
theorem dX5_endSkipOf_5 : decode cX5_endSkipOf 5 = .ok (.invokevirtual 38, 3) := by decide +kernel
theorem dX5_endSkipOf_8 : decode cX5_endSkipOf 8 = .ok (.ifCond .ne 9, 3) := by decide +kernel
theorem dX5_endSkipOf_11 : decode cX5_endSkipOf 11 = .ok (.iinc 2 1, 3) := by decide +kernel
theorem dX5_endSkipOf_14 : decode cX5_endSkipOf 14 = .ok (.goto (-12), 3) := by decide +kernel
theorem dX5_endSkipOf_17 : decode cX5_endSkipOf 17 = .ok (.iload_n 2, 1) := by decide +kernel
theorem dX5_endSkipOf_18 : decode cX5_endSkipOf 18 = .ok (.ireturn, 1) := by decide +kernel
set_option maxRecDepth 20000 in
theorem ggX5_endSkipOf_X5_fits : GoodIn wsX5_endSkipOf wsX5_fits := goodIn_r _ [5, 6, 7, 8, 9, 10, 11, 12, 13, 14] (by decide +kernel) (by decide +kernel)
set_option maxRecDepth 20000 in
theorem gX5_endSkipOf_X5_fits : GoodIn wsX5_endSkipOf (wsV RX5 38 RX5 yX5_fits wsX5_fits) := goodIn_app (goodIn_of _ (by decide +kernel)) ggX5_endSkipOf_X5_fits
theorem dX5_periodNow_0 : decode cX5_periodNow 0 = .ok (.aload_n 0, 1) := by decide +kernel
theorem dX5_periodNow_1 : decode cX5_periodNow 1 = .ok (.getfield 7, 3) := by decide +kernel
theorem dX5_periodNow_4 : decode cX5_periodNow 4 = .ok (.bipush 61, 2) := by decide +kernel
theorem dX5_periodNow_6 : decode cX5_periodNow 6 = .ok (.iaload, 1) := by decide +kernel
theorem dX5_periodNow_7 : decode cX5_periodNow 7 = .ok (.istore_n 1, 1) := by decide +kernel
theorem dX5_periodNow_8 : decode cX5_periodNow 8 = .ok (.iload_n 1, 1) := by decide +kernel
theorem dX5_periodNow_9 : decode cX5_periodNow 9 = .ok (.ifCond .ne 7, 3) := by decide +kernel
theorem dX5_periodNow_12 : decode cX5_periodNow 12 = .ok (.iconst 0, 1) := by decide +kernel
theorem dX5_periodNow_13 : decode cX5_periodNow 13 = .ok (.goto 4, 3) := by decide +kernel
theorem dX5_periodNow_16 : decode cX5_periodNow 16 = .ok (.iconst 1, 1) := by decide +kernel
theorem dX5_periodNow_17 : decode cX5_periodNow 17 = .ok (.istore_n 2, 1) := by decide +kernel
theorem dX5_periodNow_18 : decode cX5_periodNow 18 = .ok (.iload_n 1, 1) := by decide +kernel
theorem dX5_periodNow_19 : decode cX5_periodNow 19 = .ok (.ifCond .ne 7, 3) := by decide +kernel
theorem dX5_periodNow_22 : decode cX5_periodNow 22 = .ok (.iconst 1, 1) := by decide +kernel
theorem dX5_periodNow_23 : decode cX5_periodNow 23 = .ok (.goto 4, 3) := by decide +kernel
theorem dX5_periodNow_26 : decode cX5_periodNow 26 = .ok (.iconst 0, 1) := by decide +kernel
theorem dX5_periodNow_27 : decode cX5_periodNow 27 = .ok (.istore_n 3, 1) := by decide +kernel
theorem dX5_periodNow_28 : decode cX5_periodNow 28 = .ok (.iload_n 3, 1) := by decide +kernel
theorem dX5_periodNow_29 : decode cX5_periodNow 29 = .ok (.ifCond .ne 70, 3) := by decide +kernel
theorem dX5_periodNow_32 : decode cX5_periodNow 32 = .ok (.iconst 1, 1) := by decide +kernel
theorem dX5_periodNow_33 : decode cX5_periodNow 33 = .ok (.istore_n 3, 1) := by decide +kernel
theorem dX5_periodNow_34 : decode cX5_periodNow 34 = .ok (.iload_n 2, 1) := by decide +kernel
theorem dX5_periodNow_35 : decode cX5_periodNow 35 = .ok (.istore 4, 2) := by decide +kernel
theorem dX5_periodNow_37 : decode cX5_periodNow 37 = .ok (.iload 4, 2) := by decide +kernel
theorem dX5_periodNow_39 : decode cX5_periodNow 39 = .ok (.iload_n 1, 1) := by decide +kernel
theorem dX5_periodNow_40 : decode cX5_periodNow 40 = .ok (.if_icmp .ge 44, 3) := by decide +kernel
theorem dX5_periodNow_43 : decode cX5_periodNow 43 = .ok (.iload_n 3, 1) := by decide +kernel
theorem dX5_periodNow_44 : decode cX5_periodNow 44 = .ok (.ifCond .eq 32, 3) := by decide +kernel
theorem dX5_periodNow_47 : decode cX5_periodNow 47 = .ok (.aload_n 0, 1) := by decide +kernel
theorem dX5_periodNow_48 : decode cX5_periodNow 48 = .ok (.getfield 7, 3) := by decide +kernel
theorem dX5_periodNow_51 : decode cX5_periodNow 51 = .ok (.bipush 62, 2) := by decide +kernel
theorem dX5_periodNow_53 : decode cX5_periodNow 53 = .ok (.iload 4, 2) := by decide +kernel
theorem dX5_periodNow_55 : decode cX5_periodNow 55 = .ok (.iadd, 1) := by decide +kernel
theorem dX5_periodNow_56 : decode cX5_periodNow 56 = .ok (.iaload, 1) := by decide +kernel
theorem dX5_periodNow_57 : decode cX5_periodNow 57 = .ok (.aload_n 0, 1) := by decide +kernel
theorem dX5_periodNow_58 : decode cX5_periodNow 58 = .ok (.getfield 7, 3) := by decide +kernel
theorem dX5_periodNow_61 : decode cX5_periodNow 61 = .ok (.bipush 62, 2) := by decide +kernel
theorem dX5_periodNow_63 : decode cX5_periodNow 63 = .ok (.iload 4, 2) := by decide +kernel
theorem dX5_periodNow_65 : decode cX5_periodNow 65 = .ok (.iadd, 1) := by decide +kernel
theorem dX5_periodNow_66 : decode cX5_periodNow 66 = .ok (.iload_n 2, 1) := by decide +kernel
theorem dX5_periodNow_67 : decode cX5_periodNow 67 = .ok (.isub, 1) := by decide +kernel
theorem dX5_periodNow_68 : decode cX5_periodNow 68 = .ok (.iaload, 1) := by decide +kernel
theorem dX5_periodNow_69 : decode cX5_periodNow 69 = .ok (.if_icmp .ne 7, 3) := by decide +kernel
theorem dX5_periodNow_72 : decode cX5_periodNow 72 = .ok (.iconst 1, 1) := by decide +kernel
theorem dX5_periodNow_73 : decode cX5_periodNow 73 = .ok (.goto 4, 3) := by decide +kernel
theorem dX5_periodNow_76 : decode cX5_periodNow 76 = .ok (.iconst 0, 1) := by decide +kernel
theorem dX5_periodNow_77 : decode cX5_periodNow 77 = .ok (.istore_n 3, 1) := by decide +kernel
theorem dX5_periodNow_78 : decode cX5_periodNow 78 = .ok (.iinc 4 1, 3) := by decide +kernel
theorem dX5_periodNow_81 : decode cX5_periodNow 81 = .ok (.goto (-44), 3) := by decide +kernel
theorem dX5_periodNow_84 : decode cX5_periodNow 84 = .ok (.iload_n 2, 1) := by decide +kernel
theorem dX5_periodNow_85 : decode cX5_periodNow 85 = .ok (.iload_n 3, 1) := by decide +kernel
theorem dX5_periodNow_86 : decode cX5_periodNow 86 = .ok (.ifCond .eq 7, 3) := by decide +kernel
theorem dX5_periodNow_89 : decode cX5_periodNow 89 = .ok (.iconst 0, 1) := by decide +kernel
theorem dX5_periodNow_90 : decode cX5_periodNow 90 = .ok (.goto 4, 3) := by decide +kernel
theorem dX5_periodNow_93 : decode cX5_periodNow 93 = .ok (.iconst 1, 1) := by decide +kernel
theorem dX5_periodNow_94 : decode cX5_periodNow 94 = .ok (.iadd, 1) := by decide +kernel
theorem dX5_periodNow_95 : decode cX5_periodNow 95 = .ok (.istore_n 2, 1) := by decide +kernel
theorem dX5_periodNow_96 : decode cX5_periodNow 96 = .ok (.goto (-68), 3) := by decide +kernel
theorem dX5_periodNow_99 : decode cX5_periodNow 99 = .ok (.iload_n 2, 1) := by decide +kernel
theorem dX5_periodNow_100 : decode cX5_periodNow 100 = .ok (.ireturn, 1) := by decide +kernel
theorem dX5_difference_0 : decode cX5_difference 0 = .ok (.aload_n 0, 1) := by decide +kernel
theorem dX5_difference_1 : decode cX5_difference 1 = .ok (.getfield 7, 3) := by decide +kernel
theorem dX5_difference_4 : decode cX5_difference 4 = .ok (.bipush 61, 2) := by decide +kernel
theorem dX5_difference_6 : decode cX5_difference 6 = .ok (.iaload, 1) := by decide +kernel
theorem dX5_difference_7 : decode cX5_difference 7 = .ok (.iconst 1, 1) := by decide +kernel
theorem dX5_difference_8 : decode cX5_difference 8 = .ok (.isub, 1) := by decide +kernel
theorem dX5_difference_9 : decode cX5_difference 9 = .ok (.istore_n 2, 1) := by decide +kernel
theorem dX5_difference_10 : decode cX5_difference 10 = .ok (.iload_n 2, 1) := by decide +kernel
theorem dX5_difference_11 : decode cX5_difference 11 = .ok (.ifCond .lt 31, 3) := by decide +kernel
theorem dX5_difference_14 : decode cX5_difference 14 = .ok (.aload_n 0, 1) := by decide +kernel
theorem dX5_difference_15 : decode cX5_difference 15 = .ok (.getfield 7, 3) := by decide +kernel
theorem dX5_difference_18 : decode cX5_difference 18 = .ok (.bipush 62, 2) := by decide +kernel
theorem dX5_difference_20 : decode cX5_difference 20 = .ok (.iload_n 2, 1) := by decide +kernel
theorem dX5_difference_21 : decode cX5_difference 21 = .ok (.iadd, 1) := by decide +kernel
theorem dX5_difference_22 : decode cX5_difference 22 = .ok (.iaload, 1) := by decide +kernel
theorem dX5_difference_23 : decode cX5_difference 23 = .ok (.aload_n 0, 1) := by decide +kernel
theorem dX5_difference_24 : decode cX5_difference 24 = .ok (.getfield 7, 3) := by decide +kernel
theorem dX5_difference_27 : decode cX5_difference 27 = .ok (.iconst 1, 1) := by decide +kernel
theorem dX5_difference_28 : decode cX5_difference 28 = .ok (.iload_n 1, 1) := by decide +kernel
theorem dX5_difference_29 : decode cX5_difference 29 = .ok (.iadd, 1) := by decide +kernel
theorem dX5_difference_30 : decode cX5_difference 30 = .ok (.iload_n 2, 1) := by decide +kernel
theorem dX5_difference_31 : decode cX5_difference 31 = .ok (.iadd, 1) := by decide +kernel
theorem dX5_difference_32 : decode cX5_difference 32 = .ok (.iaload, 1) := by decide +kernel
theorem dX5_difference_33 : decode cX5_difference 33 = .ok (.if_icmp .ne 9, 3) := by decide +kernel
theorem dX5_difference_36 : decode cX5_difference 36 = .ok (.iinc 2 (-1), 3) := by decide +kernel
theorem dX5_difference_39 : decode cX5_difference 39 = .ok (.goto (-29), 3) := by decide +kernel
theorem dX5_difference_42 : decode cX5_difference 42 = .ok (.iload_n 2, 1) := by decide +kernel
theorem dX5_difference_43 : decode cX5_difference 43 = .ok (.ireturn, 1) := by decide +kernel
theorem dX5_skipBy_0 : decode cX5_skipBy 0 = .ok (.iload_n 2, 1) := by decide +kernel
theorem dX5_skipBy_1 : decode cX5_skipBy 1 = .ok (.ifCond .ge 8, 3) := by decide +kernel
theorem dX5_skipBy_4 : decode cX5_skipBy 4 = .ok (.aload_n 0, 1) := by decide +kernel
theorem dX5_skipBy_5 : decode cX5_skipBy 5 = .ok (.invokevirtual 42, 3) := by decide +kernel
theorem dX5_skipBy_8 : decode cX5_skipBy 8 = .ok (.ireturn, 1) := by decide +kernel
theorem dX5_skipBy_9 : decode cX5_skipBy 9 = .ok (.iconst 1, 1) := by decide +kernel
theorem dX5_skipBy_10 : decode cX5_skipBy 10 = .ok (.istore 5, 2) := by decide +kernel
theorem dX5_skipBy_12 : decode cX5_skipBy 12 = .ok (.iload_n 3, 1) := by decide +kernel
theorem dX5_skipBy_13 : decode cX5_skipBy 13 = .ok (.ifCond .eq 22, 3) := by decide +kernel
theorem dX5_skipBy_16 : decode cX5_skipBy 16 = .ok (.iload_n 2, 1) := by decide +kernel
theorem dX5_skipBy_17 : decode cX5_skipBy 17 = .ok (.aload_n 0, 1) := by decide +kernel
theorem dX5_skipBy_18 : decode cX5_skipBy 18 = .ok (.aload_n 0, 1) := by decide +kernel
theorem dX5_skipBy_19 : decode cX5_skipBy 19 = .ok (.getfield 7, 3) := by decide +kernel
theorem dX5_skipBy_22 : decode cX5_skipBy 22 = .ok (.iconst 1, 1) := by decide +kernel
theorem dX5_skipBy_23 : decode cX5_skipBy 23 = .ok (.iload_n 1, 1) := by decide +kernel
theorem dX5_skipBy_24 : decode cX5_skipBy 24 = .ok (.iadd, 1) := by decide +kernel
theorem dX5_skipBy_25 : decode cX5_skipBy 25 = .ok (.iload_n 2, 1) := by decide +kernel
theorem dX5_skipBy_26 : decode cX5_skipBy 26 = .ok (.iadd, 1) := by decide +kernel
theorem dX5_skipBy_27 : decode cX5_skipBy 27 = .ok (.iaload, 1) := by decide +kernel
theorem dX5_skipBy_28 : decode cX5_skipBy 28 = .ok (.invokevirtual 46, 3) := by decide +kernel
theorem dX5_skipBy_31 : decode cX5_skipBy 31 = .ok (.isub, 1) := by decide +kernel
theorem dX5_skipBy_32 : decode cX5_skipBy 32 = .ok (.goto 4, 3) := by decide +kernel
theorem dX5_skipBy_35 : decode cX5_skipBy 35 = .ok (.iconst 1, 1) := by decide +kernel
theorem dX5_skipBy_36 : decode cX5_skipBy 36 = .ok (.istore 6, 2) := by decide +kernel
theorem dX5_skipBy_38 : decode cX5_skipBy 38 = .ok (.iload 4, 2) := by decide +kernel
theorem dX5_skipBy_40 : decode cX5_skipBy 40 = .ok (.ifCond .eq 11, 3) := by decide +kernel
theorem dX5_skipBy_43 : decode cX5_skipBy 43 = .ok (.aload_n 0, 1) := by decide +kernel
theorem dX5_skipBy_44 : decode cX5_skipBy 44 = .ok (.iload_n 2, 1) := by decide +kernel
theorem dX5_skipBy_45 : decode cX5_skipBy 45 = .ok (.invokevirtual 50, 3) := by decide +kernel
theorem dX5_skipBy_48 : decode cX5_skipBy 48 = .ok (.goto 4, 3) := by decide +kernel
theorem dX5_skipBy_51 : decode cX5_skipBy 51 = .ok (.iconst 1, 1) := by decide +kernel
theorem dX5_skipBy_52 : decode cX5_skipBy 52 = .ok (.istore 7, 2) := by decide +kernel
theorem dX5_skipBy_54 : decode cX5_skipBy 54 = .ok (.iload 6, 2) := by decide +kernel
theorem dX5_skipBy_56 : decode cX5_skipBy 56 = .ok (.iload 5, 2) := by decide +kernel
theorem dX5_skipBy_58 : decode cX5_skipBy 58 = .ok (.if_icmp .le 8, 3) := by decide +kernel
theorem dX5_skipBy_61 : decode cX5_skipBy 61 = .ok (.iload 6, 2) := by decide +kernel
theorem dX5_skipBy_63 : decode cX5_skipBy 63 = .ok (.goto 5, 3) := by decide +kernel
theorem dX5_skipBy_66 : decode cX5_skipBy 66 = .ok (.iload 5, 2) := by decide +kernel
theorem dX5_skipBy_68 : decode cX5_skipBy 68 = .ok (.istore 5, 2) := by decide +kernel
theorem dX5_skipBy_70 : decode cX5_skipBy 70 = .ok (.iload 7, 2) := by decide +kernel
theorem dX5_skipBy_72 : decode cX5_skipBy 72 = .ok (.iload 5, 2) := by decide +kernel
theorem dX5_skipBy_74 : decode cX5_skipBy 74 = .ok (.if_icmp .le 8, 3) := by decide +kernel
theorem dX5_skipBy_77 : decode cX5_skipBy 77 = .ok (.iload 7, 2) := by decide +kernel
theorem dX5_skipBy_79 : decode cX5_skipBy 79 = .ok (.goto 5, 3) := by decide +kernel
theorem dX5_skipBy_82 : decode cX5_skipBy 82 = .ok (.iload 5, 2) := by decide +kernel
theorem dX5_skipBy_84 : decode cX5_skipBy 84 = .ok (.ireturn, 1) := by decide +kernel
set_option maxRecDepth 20000 in
theorem ggX5_skipBy_X5_periodNow : GoodIn wsX5_skipBy wsX5_periodNow := goodIn_r _ [6, 1, 19, 20, 21, 22, 23, 24, 25, 26] (by decide +kernel) (by decide +kernel)
set_option maxRecDepth 20000 in
theorem gX5_skipBy_X5_periodNow : GoodIn wsX5_skipBy (wsV RX5 42 RX5 yX5_periodNow wsX5_periodNow) := goodIn_app (goodIn_of _ (by decide +kernel)) ggX5_skipBy_X5_periodNow
set_option maxRecDepth 20000 in
theorem ggX5_skipBy_X5_lastOf : GoodIn wsX5_skipBy wsX5_lastOf := goodIn_r _ [10, 1, 19, 20, 21, 22, 23, 24, 25, 26] (by decide +kernel) (by decide +kernel)
set_option maxRecDepth 20000 in
theorem gX5_skipBy_X5_lastOf : GoodIn wsX5_skipBy (wsV RX5 46 RX5 yX5_lastOf wsX5_lastOf) := goodIn_app (goodIn_of _ (by decide +kernel)) ggX5_skipBy_X5_lastOf
set_option maxRecDepth 20000 in
theorem ggX5_skipBy_X5_endSkipOf : GoodIn wsX5_skipBy wsX5_endSkipOf := goodIn_r _ [14, 15, 16, 17, 5, 18, 1, 19, 20, 21, 22, 23, 24, 25, 26] (by decide +kernel) (by decide +kernel)
set_option maxRecDepth 20000 in
theorem gX5_skipBy_X5_endSkipOf : GoodIn wsX5_skipBy (wsV RX5 50 RX5 yX5_endSkipOf wsX5_endSkipOf) := goodIn_app (goodIn_of _ (by decide +kernel)) ggX5_skipBy_X5_endSkipOf
theorem dX5_isOverAt_0 : decode cX5_isOverAt 0 = .ok (.aload_n 0, 1) := by decide +kernel
theorem dX5_isOverAt_1 : decode cX5_isOverAt 1 = .ok (.getfield 7, 3) := by decide +kernel
theorem dX5_isOverAt_4 : decode cX5_isOverAt 4 = .ok (.bipush 61, 2) := by decide +kernel
theorem dX5_isOverAt_6 : decode cX5_isOverAt 6 = .ok (.iaload, 1) := by decide +kernel
theorem dX5_isOverAt_7 : decode cX5_isOverAt 7 = .ok (.ifCond .eq 21, 3) := by decide +kernel
theorem dX5_isOverAt_10 : decode cX5_isOverAt 10 = .ok (.iload_n 1, 1) := by decide +kernel
theorem dX5_isOverAt_11 : decode cX5_isOverAt 11 = .ok (.aload_n 0, 1) := by decide +kernel
theorem dX5_isOverAt_12 : decode cX5_isOverAt 12 = .ok (.getfield 7, 3) := by decide +kernel
theorem dX5_isOverAt_15 : decode cX5_isOverAt 15 = .ok (.bipush 61, 2) := by decide +kernel
theorem dX5_isOverAt_17 : decode cX5_isOverAt 17 = .ok (.iaload, 1) := by decide +kernel
theorem dX5_isOverAt_18 : decode cX5_isOverAt 18 = .ok (.iadd, 1) := by decide +kernel
theorem dX5_isOverAt_19 : decode cX5_isOverAt 19 = .ok (.aload_n 0, 1) := by decide +kernel
theorem dX5_isOverAt_20 : decode cX5_isOverAt 20 = .ok (.getfield 7, 3) := by decide +kernel
theorem dX5_isOverAt_23 : decode cX5_isOverAt 23 = .ok (.iconst 0, 1) := by decide +kernel
theorem dX5_isOverAt_24 : decode cX5_isOverAt 24 = .ok (.iaload, 1) := by decide +kernel
theorem dX5_isOverAt_25 : decode cX5_isOverAt 25 = .ok (.if_icmp .le 7, 3) := by decide +kernel
theorem dX5_isOverAt_28 : decode cX5_isOverAt 28 = .ok (.iconst 1, 1) := by decide +kernel
theorem dX5_isOverAt_29 : decode cX5_isOverAt 29 = .ok (.goto 4, 3) := by decide +kernel
theorem dX5_isOverAt_32 : decode cX5_isOverAt 32 = .ok (.iconst 0, 1) := by decide +kernel
theorem dX5_isOverAt_33 : decode cX5_isOverAt 33 = .ok (.ireturn, 1) := by decide +kernel
def gW (G : Nat → Int32) : Nat → Int32 := fun j => G (62 + j)
def gL (G : Nat → Int32) : Nat → Int32 := fun j => G (1 + j)
def gF (G : Nat → Int32) : Nat → Int32 := fun j => G (84 + j)
theorem last_up {f : Nat → Int32} {x : Int32} {i k : Int} (h0 : 0 ≤ i) (h : k = lastF i.toNat f x) : (f i.toNat = x → i = lastF (i + 1).toNat f x) ∧ (¬ f i.toNat = x → k = lastF (i + 1).toNat f x) := by
  have e : (i + 1).toNat = i.toNat + 1 := by omega
  rw [e]
  simp only [lastF]
  exact ⟨fun q => by rw [if_pos q]; omega, fun q => by rw [if_neg q]; exact h⟩
/-- what fits has seen, with i letters gone through -/
def FitP (W : Nat → Int32) (p q i : Int) : Prop := (q ≤ p → ¬ W p.toNat = W (p.toNat - q.toNat)) ∧ ∀ x : Nat, (x : Int) < i → p < x → q ≤ x → W x = W (x - q.toNat)
theorem FitP_all {W : Nat → Int32} {m p q : Int} (h : 0 ≤ p ∧ 0 ≤ q ∧ 0 ≤ m) : FitP W p q m ↔ endP m.toNat W p.toNat q.toNat := by
  constructor
  · rintro ⟨h1, h2⟩
    exact ⟨fun a => h1 (by omega), fun i a b c => h2 i (by omega) (by omega) (by omega)⟩
  · rintro ⟨h1, h2⟩
    exact ⟨fun a => h1 (by omega), fun i a b c => h2 i (by omega) (by omega) (by omega)⟩
theorem FitP_0 {W : Nat → Int32} {p q : Int} : FitP W p q (p + 1) ↔ (q ≤ p → ¬ W p.toNat = W (p.toNat - q.toNat)) := ⟨fun h => h.1, fun h => ⟨h, fun x a b => by omega⟩⟩
theorem FitP_s {W : Nat → Int32} {p q i : Int} (h0 : 0 ≤ p ∧ p < i) : FitP W p q (i + 1) ↔ FitP W p q i ∧ (q ≤ i → W i.toNat = W (i.toNat - q.toNat)) := by
  constructor
  · rintro ⟨h1, h2⟩
    exact ⟨⟨h1, fun x a b c => h2 x (by omega) b c⟩, fun a => h2 i.toNat (by omega) (by omega) (by omega)⟩
  · rintro ⟨⟨h1, h2⟩, h3⟩
    refine ⟨h1, fun x a b c => ?_⟩
    by_cases e : x = i.toNat
    · rw [e]; exact h3 (by omega)
    · exact h2 x (by omega) b c
def PerQ (W : Nat → Int32) (p i : Int) : Prop := ∀ x : Nat, (x : Int) < i → p ≤ x → W x = W (x - p.toNat)
theorem PerQ_all {W : Nat → Int32} {m p : Int} (h : 0 ≤ p ∧ 0 ≤ m) : PerQ W p m ↔ perP m.toNat W p.toNat := ⟨fun h i a b => h i (by omega) (by omega), fun h i a b => h i (by omega) (by omega)⟩
theorem PerQ_0 {W : Nat → Int32} {p : Int} : PerQ W p p := fun x a b => by omega
theorem PerQ_s {W : Nat → Int32} {p i : Int} (h0 : 0 ≤ p ∧ p ≤ i) : PerQ W p (i + 1) ↔ PerQ W p i ∧ W i.toNat = W (i.toNat - p.toNat) := by
  constructor
  · intro h
    exact ⟨fun x a b => h x (by omega) b, h i.toNat (by omega) (by omega)⟩
  · rintro ⟨h2, h3⟩ x a b
    by_cases e : x = i.toNat
    · rw [e]; exact h3
    · exact h2 x (by omega) b
theorem end_at {m : Int} {W : Nat → Int32} {p q : Int} (hp : 0 ≤ p ∧ p < m) (h1 : 1 ≤ q) (h : endP m.toNat W p.toNat q.toNat) (hmin : ∀ k : Nat, 1 ≤ k → (k : Int) < q → ¬ endP m.toNat W p.toNat k) : q = (endF m.toNat W p.toNat : Int) := by
  have := endF_uniq (W := W) (j := p.toNat) (k := q.toNat) (m := m.toNat) (by omega) (by omega) h (fun k a b => hmin k a (by omega))
  omega
theorem per_at {m : Int} {W : Nat → Int32} {q : Int} (h1 : 1 ≤ q ∧ q ≤ m) (h : perP m.toNat W q.toNat) (hmin : ∀ k : Nat, 1 ≤ k → (k : Int) < q → ¬ perP m.toNat W k) : q = (perF m.toNat W : Int) := by
  have := perF_uniq (W := W) (p := q.toNat) (m := m.toNat) (by omega) (by omega) h (fun k a b => hmin k a (by omega))
  omega
def skS (lr er : Int) (m : Nat) (W L : Nat → Int32) (pl d : Int) : Int := if d = -1 then (perF m W : Int) else max (max 1 (if lr = 0 then 1 else d - lastF m W (L (pl + d).toNat))) (if er = 0 then 1 else (endF m W d.toNat : Int))

set_option maxHeartbeats 4000000 in
set_option maxRecDepth 100000 in
theorem c_X5_thrown (l : Launch) (D : va_G) (cy : Nat → ClassId) (m0 : Nat) (a0 : Nat) (p0 : Nat) (q0 : Nat) (v0 : Nat) (t0 : Nat) (ho : Int) (th : Int) (tl : Int) : Ci l D cy yX5_thrown wsX5_thrown 0 0 [.ref m0] [(m0, .inr (5, [.ref a0, .ref p0, .int (iI ho), .ref q0, .ref v0, .int (iI th), .ref t0, .int (iI tl)]))] (fun (r : Int32) (u : Unit) => r = iI th) (fun u : Unit => [(m0, .inr (5, [.ref a0, .ref p0, .int (iI ho), .ref q0, .ref v0, .int (iI th), .ref t0, .int (iI tl)]))]) := by
  refine Ci_of (cc := cX5_thrown) (maxL := 1) (ret := (some .int)) (by decide) rfl rfl ?_
  intro p e s m args below meth c A hx hb hr hts hown hlocks hml hP hK hD hT hA ls hl
  have hS : va_S A s.heap s.heap [] := va_S.rf
  have hl : lv_has ls 1 [(0, .ref m0)] := hl
  have hiX5 : ∀ w ∈ wsX50, w ∈ wsX5_thrown := by decide +kernel
  refine lv_aload_n hx hb dX5_thrown_0 rfl (lv_at hl 0 rfl) ?_
  refine va_get (D := D) (ci := 5) (v := .int (iI th)) (C := RX5) (T := TX5) (N := 8) hx hb hts hiX5 hown hK hP 0 rfl rfl 5 (by decide) (hts (.fieldLink RX5 25 "BackwardSearchModel" "thrown" "I") (by decide +kernel)) (fun _ h9 => h9) rfl dX5_thrown_1 ?_
  exact z_iret hx hb hr hlocks hS () (show (iI th) = iI th from rfl) hP dX5_thrown_4
set_option maxHeartbeats 4000000 in
set_option maxRecDepth 100000 in
theorem c_X5_fails (l : Launch) (D : va_G) (cy : Nat → ClassId) (m0 : Nat) (a0 : Nat) (p0 : Nat) (q0 : Nat) (v0 : Nat) (t0 : Nat) (ho : Int) (th : Int) (tl : Int) (x : Int) : Ci l D cy yX5_fails wsX5_fails 0 0 [.ref m0, .int (iI x)] [(m0, .inr (5, [.ref a0, .ref p0, .int (iI ho), .ref q0, .ref v0, .int (iI th), .ref t0, .int (iI tl)]))] (fun (r : Int32) (u : Unit) => r = iI 0) (fun u : Unit => [(m0, .inr (5, [.ref a0, .ref p0, .int (iI ho), .ref q0, .ref v0, .int (iI x), .ref t0, .int (iI tl)]))]) := by
  refine Ci_of (cc := cX5_fails) (maxL := 2) (ret := (some .int)) (by decide) rfl rfl ?_
  intro p e s m args below meth c A hx hb hr hts hown hlocks hml hP hK hD hT hA ls hl
  have hS : va_S A s.heap s.heap [] := va_S.rf
  have hl : lv_has ls 2 [(0, .ref m0), (1, .int (iI x))] := hl
  have hiX5 : ∀ w ∈ wsX50, w ∈ wsX5_fails := by decide +kernel
  refine lv_aload_n hx hb dX5_fails_0 rfl (lv_at hl 0 rfl) ?_
  refine lv_iload_n hx hb dX5_fails_1 rfl (lv_at hl 1 rfl) ?_
  refine va_put (D := D) (ci := 5) (v := .int (iI x)) (ty := .int) (C := RX5) (T := TX5) (N := 8) hx hb hts hiX5 tyX5 tyX5_ok nmX5 hown hK hP hD hS 0 rfl rfl 5 (by decide) (hts (.fieldLink RX5 25 "BackwardSearchModel" "thrown" "I") (by decide +kernel)) (fun _ h9 => h9) rfl (by decide +kernel) rfl rfl (Nat.le_of_ble_eq_true rfl) dX5_fails_2 (fun H locs hP hD hS => ?_)
  have hP : va_P D vwCl [(m0, .inr (5, [.ref a0, .ref p0, .int (iI ho), .ref q0, .ref v0, .int (iI x), .ref t0, .int (iI tl)]))] H := hP
  have hD : va_D A [(m0, .inr (5, [.ref a0, .ref p0, .int (iI ho), .ref q0, .ref v0, .int (iI x), .ref t0, .int (iI tl)]))] := hD
  refine lv_iconst (v := iI 0) hx hb dX5_fails_5 rfl ?_
  exact z_iret hx hb hr hlocks hS () (show (iI 0) = iI 0 from rfl) hP dX5_fails_6
set_option maxHeartbeats 4000000 in
set_option maxRecDepth 100000 in
theorem c_X5_told (l : Launch) (D : va_G) (cy : Nat → ClassId) (m0 : Nat) (a0 : Nat) (p0 : Nat) (q0 : Nat) (v0 : Nat) (t0 : Nat) (ho : Int) (th : Int) (tl : Int) (x : Int32) : Ci l D cy yX5_told wsX5_told 0 0 [.ref m0, .int x] [(m0, .inr (5, [.ref a0, .ref p0, .int (iI ho), .ref q0, .ref v0, .int (iI th), .ref t0, .int (iI tl)]))] (fun (r : Int32) (u : Unit) => r = x) (fun u : Unit => [(m0, .inr (5, [.ref a0, .ref p0, .int (iI ho), .ref q0, .ref v0, .int (iI 0), .ref t0, .int (iI tl)]))]) := by
  refine Ci_of (cc := cX5_told) (maxL := 2) (ret := (some .int)) (by decide) rfl rfl ?_
  intro p e s m args below meth c A hx hb hr hts hown hlocks hml hP hK hD hT hA ls hl
  have hS : va_S A s.heap s.heap [] := va_S.rf
  have hl : lv_has ls 2 [(0, .ref m0), (1, .int x)] := hl
  have hiX5 : ∀ w ∈ wsX50, w ∈ wsX5_told := by decide +kernel
  refine lv_aload_n hx hb dX5_told_0 rfl (lv_at hl 0 rfl) ?_
  refine lv_iconst (v := iI 0) hx hb dX5_told_1 rfl ?_
  refine va_put (D := D) (ci := 5) (v := .int (iI 0)) (ty := .int) (C := RX5) (T := TX5) (N := 8) hx hb hts hiX5 tyX5 tyX5_ok nmX5 hown hK hP hD hS 0 rfl rfl 5 (by decide) (hts (.fieldLink RX5 25 "BackwardSearchModel" "thrown" "I") (by decide +kernel)) (fun _ h9 => h9) rfl (by decide +kernel) rfl rfl (Nat.le_of_ble_eq_true rfl) dX5_told_2 (fun H locs hP hD hS => ?_)
  have hP : va_P D vwCl [(m0, .inr (5, [.ref a0, .ref p0, .int (iI ho), .ref q0, .ref v0, .int (iI 0), .ref t0, .int (iI tl)]))] H := hP
  have hD : va_D A [(m0, .inr (5, [.ref a0, .ref p0, .int (iI ho), .ref q0, .ref v0, .int (iI 0), .ref t0, .int (iI tl)]))] := hD
  refine lv_iload_n hx hb dX5_told_5 rfl (lv_at hl 1 rfl) ?_
  exact z_iret hx hb hr hlocks hS () (show x = x from rfl) hP dX5_told_6
set_option maxHeartbeats 4000000 in
set_option maxRecDepth 100000 in
theorem c_X5_in (l : Launch) (D : va_G) (cy : Nat → ClassId) (x : Int) (y : Int) (w : Int) (hb3 : -9223372036854775808 ≤ x ∧ x < 9223372036854775808 ∧ -9223372036854775808 ≤ y ∧ y < 9223372036854775808 ∧ -9223372036854775808 ≤ w ∧ w < 9223372036854775808) : Ci l D cy yX5_in wsX5_in 0 0 [.long (lI x), .long (lI y), .long (lI w)] [] (fun (r : Int32) (u : Unit) => ((y ≤ x ∧ x ≤ w) ∧ r = iI 1) ∨ (¬ (y ≤ x ∧ x ≤ w) ∧ r = iI 0)) (fun u : Unit => []) := by
  refine Ci_of (cc := cX5_in) (maxL := 6) (ret := (some .boolean)) (by decide) rfl rfl ?_
  intro p e s m args below meth c A hx hb hr hts hown hlocks hml hP hK hD hT hA ls hl
  have hS : va_S A s.heap s.heap [] := va_S.rf
  have hl : lv_has ls 6 [(0, .long (lI x)), (2, .long (lI y)), (4, .long (lI w))] := hl
  refine lv_lload_n hx hb dX5_in_0 rfl (lv_at hl 0 rfl) ?_
  refine lv_lload_n hx hb dX5_in_1 rfl (lv_at hl 1 rfl) ?_
  refine z_lcmp_lt (tgt := 17) hx hb (lI_t (by omega) (by omega)) (lI_t (by omega) (by omega)) dX5_in_2 dX5_in_3 (by decide) (fun c1 => ?_) (fun c1 => ?_)
  · --
    refine lv_iconst (v := iI 0) hx hb dX5_in_17 rfl ?_
    exact z_zret hx hb hr hlocks (by decide +kernel) hS () (show ((y ≤ x ∧ x ≤ w) ∧ (iI 0) = iI 1) ∨ (¬ (y ≤ x ∧ x ≤ w) ∧ (iI 0) = iI 0) from (by first | exact Or.inl ⟨by omega, rfl⟩ | exact Or.inr ⟨by omega, rfl⟩)) hP dX5_in_18
  · --
    refine lv_lload_n hx hb dX5_in_6 rfl (lv_at hl 0 rfl) ?_
    refine lv_lload hx hb dX5_in_7 (lv_at hl 2 rfl) ?_
    refine z_lcmp_gt (tgt := 17) hx hb (lI_t (by omega) (by omega)) (lI_t (by omega) (by omega)) dX5_in_9 dX5_in_10 (by decide) (fun c2 => ?_) (fun c2 => ?_)
    · --
      refine lv_iconst (v := iI 0) hx hb dX5_in_17 rfl ?_
      exact z_zret hx hb hr hlocks (by decide +kernel) hS () (show ((y ≤ x ∧ x ≤ w) ∧ (iI 0) = iI 1) ∨ (¬ (y ≤ x ∧ x ≤ w) ∧ (iI 0) = iI 0) from (by first | exact Or.inl ⟨by omega, rfl⟩ | exact Or.inr ⟨by omega, rfl⟩)) hP dX5_in_18
    · --
      refine lv_iconst (v := iI 1) hx hb dX5_in_13 rfl ?_
      refine lv_goto (tgt := 18) hx hb dX5_in_14 (by decide) ?_
      exact z_zret hx hb hr hlocks (by decide +kernel) hS () (show ((y ≤ x ∧ x ≤ w) ∧ (iI 1) = iI 1) ∨ (¬ (y ≤ x ∧ x ≤ w) ∧ (iI 1) = iI 0) from (by first | exact Or.inl ⟨by omega, rfl⟩ | exact Or.inr ⟨by omega, rfl⟩)) hP dX5_in_18
set_option maxHeartbeats 4000000 in
set_option maxRecDepth 100000 in
theorem c_X5_isLetter (l : Launch) (D : va_G) (cy : Nat → ClassId) (x : Int) (hx1 : -2147483648 ≤ x ∧ x < 2147483648) : Ci l D cy yX5_isLetter wsX5_isLetter 1 25 [.int (iI x)] [] (fun (r : Int32) (u : Unit) => ((0 ≤ x ∧ x ≤ 25) ∧ r = iI 1) ∨ (¬ (0 ≤ x ∧ x ≤ 25) ∧ r = iI 0)) (fun u : Unit => []) := by
  refine Ci_of (cc := cX5_isLetter) (maxL := 1) (ret := (some .boolean)) (by decide) rfl rfl ?_
  intro p e s m args below meth c A hx hb hr hts hown hlocks hml hP hK hD hT hA ls hl
  have hS : va_S A s.heap s.heap [] := va_S.rf
  have hl : lv_has ls 1 [(0, .int (iI x))] := hl
  refine lv_iload_n hx hb dX5_isLetter_0 rfl (lv_at hl 0 rfl) ?_
  refine z_i2l hx hb (iI_l (by omega) (by omega)) dX5_isLetter_1 ?_
  refine lv_lconst (v := lI 0) hx hb dX5_isLetter_2 rfl ?_
  refine z_ldc2 (z := 25) hx hb (by decide +kernel) hown (hts (.constantLong RX5 32 (25)) (by decide +kernel)) dX5_isLetter_3 ?_
  refine z_cSi (n := 3) (As := [.long (lI x), .long (lI 0), .long (lI 25)]) (rest := []) ⟨hx, hb, hml, hown, hts⟩ (c_X5_in l D cy x 0 25 (by omega)) gX5_isLetter_X5_in rfl (by decide +kernel) ⟨Nat.le_of_ble_eq_true rfl, Nat.le_of_ble_eq_true rfl⟩ hK hT hP hD hS hA [] rfl rfl (fun _ => rfl) rfl hl.1 rfl (Nat.le_of_ble_eq_true rfl) dX5_isLetter_6 ⟨Nat.zero_le _, Nat.zero_le _⟩ (fun r_1 u_1 H locs hw_1 hP hD hS => ?_)
  have hw_1 : ((0 ≤ x ∧ x ≤ 25) ∧ r_1 = iI 1) ∨ (¬ (0 ≤ x ∧ x ≤ 25) ∧ r_1 = iI 0) := hw_1
  have hP : va_P D vwCl [] H := hP
  have hD : va_D A [] := hD
  rcases hw_1 with ⟨h_1, rfl⟩ | ⟨h_1, rfl⟩
  · --
    exact z_zret hx hb hr hlocks (by decide +kernel) hS () (show ((0 ≤ x ∧ x ≤ 25) ∧ (iI 1) = iI 1) ∨ (¬ (0 ≤ x ∧ x ≤ 25) ∧ (iI 1) = iI 0) from (by first | exact Or.inl ⟨by omega, rfl⟩ | exact Or.inr ⟨by omega, rfl⟩)) hP dX5_isLetter_9
  · --
    exact z_zret hx hb hr hlocks (by decide +kernel) hS () (show ((0 ≤ x ∧ x ≤ 25) ∧ (iI 0) = iI 1) ∨ (¬ (0 ≤ x ∧ x ≤ 25) ∧ (iI 0) = iI 0) from (by first | exact Or.inl ⟨by omega, rfl⟩ | exact Or.inr ⟨by omega, rfl⟩)) hP dX5_isLetter_9
set_option maxHeartbeats 4000000 in
set_option maxRecDepth 100000 in
theorem c_X5_isInWord (l : Launch) (D : va_G) (cy : Nat → ClassId) (m0 : Nat) (a0 : Nat) (p0 : Nat) (q0 : Nat) (v0 : Nat) (t0 : Nat) (ho : Int) (th : Int) (tl : Int) (G : Nat → Int32) (nw : Int) (x : Int) (h61 : G 61 = iI nw) (hnw : 0 ≤ nw ∧ nw ≤ 16) (hx1 : -2147483648 ≤ x ∧ x < 2147483648) : Ci l D cy yX5_isInWord wsX5_isInWord 1 25 [.ref m0, .int (iI x)] [(m0, .inr (5, [.ref a0, .ref p0, .int (iI ho), .ref q0, .ref v0, .int (iI th), .ref t0, .int (iI tl)])), (a0, .inl (cy 0, 144, .inl G))] (fun (r : Int32) (u : Unit) => ((0 ≤ x ∧ x < nw) ∧ r = iI 1) ∨ (¬ (0 ≤ x ∧ x < nw) ∧ r = iI 0)) (fun u : Unit => [(m0, .inr (5, [.ref a0, .ref p0, .int (iI ho), .ref q0, .ref v0, .int (iI th), .ref t0, .int (iI tl)])), (a0, .inl (cy 0, 144, .inl G))]) := by
  refine Ci_of (cc := cX5_isInWord) (maxL := 2) (ret := (some .boolean)) (by decide) rfl rfl ?_
  intro p e s m args below meth c A hx hb hr hts hown hlocks hml hP hK hD hT hA ls hl
  have hS : va_S A s.heap s.heap [] := va_S.rf
  have hl : lv_has ls 2 [(0, .ref m0), (1, .int (iI x))] := hl
  have hiX5 : ∀ w ∈ wsX50, w ∈ wsX5_isInWord := by decide +kernel
  refine lv_iload_n hx hb dX5_isInWord_0 rfl (lv_at hl 1 rfl) ?_
  refine z_i2l hx hb (iI_l (by omega) (by omega)) dX5_isInWord_1 ?_
  refine lv_lconst (v := lI 0) hx hb dX5_isInWord_2 rfl ?_
  refine lv_aload_n hx hb dX5_isInWord_3 rfl (lv_at hl 0 rfl) ?_
  refine va_get (D := D) (ci := 5) (v := .ref a0) (C := RX5) (T := TX5) (N := 8) hx hb hts hiX5 hown hK hP 0 rfl rfl 0 (by decide) (hts (.fieldLink RX5 7 "BackwardSearchModel" "all" "[I") (by decide +kernel)) (fun _ h9 => h9) rfl dX5_isInWord_4 ?_
  refine lv_bipush (v := iI 61) hx hb dX5_isInWord_7 (by decide +kernel) ?_
  refine z_iald hx hb hK hP 1 rfl (by omega) (by omega) (by omega) dX5_isInWord_9 ?_
  refine z_top (show G (61 : Int).toNat = iI nw from h61) ?_
  refine z_i2l hx hb (iI_l (by omega) (by omega)) dX5_isInWord_10 ?_
  refine lv_lconst (v := lI 1) hx hb dX5_isInWord_11 rfl ?_
  refine z_lsub hx hb dX5_isInWord_12 ?_
  refine z_cSi (n := 3) (As := [.long (lI x), .long (lI 0), .long (lI (nw - 1))]) (rest := []) ⟨hx, hb, hml, hown, hts⟩ (c_X5_in l D cy x 0 (nw - 1) (by omega)) gX5_isInWord_X5_in rfl (by decide +kernel) ⟨Nat.le_of_ble_eq_true rfl, Nat.le_of_ble_eq_true rfl⟩ hK hT hP hD hS hA [] rfl rfl (fun _ => rfl) rfl hl.1 rfl (Nat.le_of_ble_eq_true rfl) dX5_isInWord_13 ⟨Nat.zero_le _, Nat.zero_le _⟩ (fun r_1 u_1 H locs hw_1 hP hD hS => ?_)
  have hw_1 : ((0 ≤ x ∧ x ≤ (nw - 1)) ∧ r_1 = iI 1) ∨ (¬ (0 ≤ x ∧ x ≤ (nw - 1)) ∧ r_1 = iI 0) := hw_1
  have hP : va_P D vwCl [(m0, .inr (5, [.ref a0, .ref p0, .int (iI ho), .ref q0, .ref v0, .int (iI th), .ref t0, .int (iI tl)])), (a0, .inl (cy 0, 144, .inl G))] H := hP
  have hD : va_D A [(m0, .inr (5, [.ref a0, .ref p0, .int (iI ho), .ref q0, .ref v0, .int (iI th), .ref t0, .int (iI tl)])), (a0, .inl (cy 0, 144, .inl G))] := hD
  rcases hw_1 with ⟨h_1, rfl⟩ | ⟨h_1, rfl⟩
  · --
    exact z_zret hx hb hr hlocks (by decide +kernel) hS () (show ((0 ≤ x ∧ x < nw) ∧ (iI 1) = iI 1) ∨ (¬ (0 ≤ x ∧ x < nw) ∧ (iI 1) = iI 0) from (by first | exact Or.inl ⟨by omega, rfl⟩ | exact Or.inr ⟨by omega, rfl⟩)) hP dX5_isInWord_16
  · --
    exact z_zret hx hb hr hlocks (by decide +kernel) hS () (show ((0 ≤ x ∧ x < nw) ∧ (iI 0) = iI 1) ∨ (¬ (0 ≤ x ∧ x < nw) ∧ (iI 0) = iI 0) from (by first | exact Or.inl ⟨by omega, rfl⟩ | exact Or.inr ⟨by omega, rfl⟩)) hP dX5_isInWord_16
set_option maxHeartbeats 4000000 in
set_option maxRecDepth 100000 in
theorem c_X5_isInLine (l : Launch) (D : va_G) (cy : Nat → ClassId) (m0 : Nat) (a0 : Nat) (p0 : Nat) (q0 : Nat) (v0 : Nat) (t0 : Nat) (ho : Int) (th : Int) (tl : Int) (G : Nat → Int32) (nl : Int) (x : Int) (h0 : G 0 = iI nl) (hnl : 0 ≤ nl ∧ nl ≤ 60) (hx1 : -2147483648 ≤ x ∧ x < 2147483648) : Ci l D cy yX5_isInLine wsX5_isInLine 1 25 [.ref m0, .int (iI x)] [(m0, .inr (5, [.ref a0, .ref p0, .int (iI ho), .ref q0, .ref v0, .int (iI th), .ref t0, .int (iI tl)])), (a0, .inl (cy 0, 144, .inl G))] (fun (r : Int32) (u : Unit) => ((0 ≤ x ∧ x < nl) ∧ r = iI 1) ∨ (¬ (0 ≤ x ∧ x < nl) ∧ r = iI 0)) (fun u : Unit => [(m0, .inr (5, [.ref a0, .ref p0, .int (iI ho), .ref q0, .ref v0, .int (iI th), .ref t0, .int (iI tl)])), (a0, .inl (cy 0, 144, .inl G))]) := by
  refine Ci_of (cc := cX5_isInLine) (maxL := 2) (ret := (some .boolean)) (by decide) rfl rfl ?_
  intro p e s m args below meth c A hx hb hr hts hown hlocks hml hP hK hD hT hA ls hl
  have hS : va_S A s.heap s.heap [] := va_S.rf
  have hl : lv_has ls 2 [(0, .ref m0), (1, .int (iI x))] := hl
  have hiX5 : ∀ w ∈ wsX50, w ∈ wsX5_isInLine := by decide +kernel
  refine lv_iload_n hx hb dX5_isInLine_0 rfl (lv_at hl 1 rfl) ?_
  refine z_i2l hx hb (iI_l (by omega) (by omega)) dX5_isInLine_1 ?_
  refine lv_lconst (v := lI 0) hx hb dX5_isInLine_2 rfl ?_
  refine lv_aload_n hx hb dX5_isInLine_3 rfl (lv_at hl 0 rfl) ?_
  refine va_get (D := D) (ci := 5) (v := .ref a0) (C := RX5) (T := TX5) (N := 8) hx hb hts hiX5 hown hK hP 0 rfl rfl 0 (by decide) (hts (.fieldLink RX5 7 "BackwardSearchModel" "all" "[I") (by decide +kernel)) (fun _ h9 => h9) rfl dX5_isInLine_4 ?_
  refine lv_iconst (v := iI 0) hx hb dX5_isInLine_7 rfl ?_
  refine z_iald hx hb hK hP 1 rfl (by omega) (by omega) (by omega) dX5_isInLine_8 ?_
  refine z_top (show G (0 : Int).toNat = iI nl from h0) ?_
  refine z_i2l hx hb (iI_l (by omega) (by omega)) dX5_isInLine_9 ?_
  refine lv_lconst (v := lI 1) hx hb dX5_isInLine_10 rfl ?_
  refine z_lsub hx hb dX5_isInLine_11 ?_
  refine z_cSi (n := 3) (As := [.long (lI x), .long (lI 0), .long (lI (nl - 1))]) (rest := []) ⟨hx, hb, hml, hown, hts⟩ (c_X5_in l D cy x 0 (nl - 1) (by omega)) gX5_isInLine_X5_in rfl (by decide +kernel) ⟨Nat.le_of_ble_eq_true rfl, Nat.le_of_ble_eq_true rfl⟩ hK hT hP hD hS hA [] rfl rfl (fun _ => rfl) rfl hl.1 rfl (Nat.le_of_ble_eq_true rfl) dX5_isInLine_12 ⟨Nat.zero_le _, Nat.zero_le _⟩ (fun r_1 u_1 H locs hw_1 hP hD hS => ?_)
  have hw_1 : ((0 ≤ x ∧ x ≤ (nl - 1)) ∧ r_1 = iI 1) ∨ (¬ (0 ≤ x ∧ x ≤ (nl - 1)) ∧ r_1 = iI 0) := hw_1
  have hP : va_P D vwCl [(m0, .inr (5, [.ref a0, .ref p0, .int (iI ho), .ref q0, .ref v0, .int (iI th), .ref t0, .int (iI tl)])), (a0, .inl (cy 0, 144, .inl G))] H := hP
  have hD : va_D A [(m0, .inr (5, [.ref a0, .ref p0, .int (iI ho), .ref q0, .ref v0, .int (iI th), .ref t0, .int (iI tl)])), (a0, .inl (cy 0, 144, .inl G))] := hD
  rcases hw_1 with ⟨h_1, rfl⟩ | ⟨h_1, rfl⟩
  · --
    exact z_zret hx hb hr hlocks (by decide +kernel) hS () (show ((0 ≤ x ∧ x < nl) ∧ (iI 1) = iI 1) ∨ (¬ (0 ≤ x ∧ x < nl) ∧ (iI 1) = iI 0) from (by first | exact Or.inl ⟨by omega, rfl⟩ | exact Or.inr ⟨by omega, rfl⟩)) hP dX5_isInLine_15
  · --
    exact z_zret hx hb hr hlocks (by decide +kernel) hS () (show ((0 ≤ x ∧ x < nl) ∧ (iI 0) = iI 1) ∨ (¬ (0 ≤ x ∧ x < nl) ∧ (iI 0) = iI 0) from (by first | exact Or.inl ⟨by omega, rfl⟩ | exact Or.inr ⟨by omega, rfl⟩)) hP dX5_isInLine_15
set_option maxHeartbeats 4000000 in
set_option maxRecDepth 100000 in
theorem c_X5_lastOf (l : Launch) (D : va_G) (cy : Nat → ClassId) (m0 : Nat) (a0 : Nat) (p0 : Nat) (q0 : Nat) (v0 : Nat) (t0 : Nat) (ho : Int) (th : Int) (tl : Int) (G : Nat → Int32) (nw : Int) (x : Int32) (h61 : G 61 = iI nw) (hnw : 0 ≤ nw ∧ nw ≤ 16) : Ci l D cy yX5_lastOf wsX5_lastOf 0 0 [.ref m0, .int x] [(m0, .inr (5, [.ref a0, .ref p0, .int (iI ho), .ref q0, .ref v0, .int (iI th), .ref t0, .int (iI tl)])), (a0, .inl (cy 0, 144, .inl G))] (fun (r : Int32) (u : Unit) => r = iI (lastF nw.toNat (gW G) x)) (fun u : Unit => [(m0, .inr (5, [.ref a0, .ref p0, .int (iI ho), .ref q0, .ref v0, .int (iI th), .ref t0, .int (iI tl)])), (a0, .inl (cy 0, 144, .inl G))]) := by
  refine Ci_of (cc := cX5_lastOf) (maxL := 4) (ret := (some .int)) (by decide) rfl rfl ?_
  intro p e s m args below meth c A hx hb hr hts hown hlocks hml hP hK hD hT hA ls hl
  have hS : va_S A s.heap s.heap [] := va_S.rf
  have hl : lv_has ls 4 [(0, .ref m0), (1, .int x)] := hl
  have hiX5 : ∀ w ∈ wsX50, w ∈ wsX5_lastOf := by decide +kernel
  refine lv_iconst (v := iI (-1)) hx hb dX5_lastOf_0 rfl ?_
  refine lv_istore_n (lv' := [(2, .int (iI (-1))), (0, .ref m0), (1, .int x)]) hx hb dX5_lastOf_1 rfl hl (by decide) rfl (fun ls hl => ?_)
  refine lv_iconst (v := iI 0) hx hb dX5_lastOf_2 rfl ?_
  refine lv_istore_n (lv' := [(3, .int (iI 0)), (2, .int (iI (-1))), (0, .ref m0), (1, .int x)]) hx hb dX5_lastOf_3 rfl hl (by decide) rfl (fun ls hl => ?_)
  have hloop1 : ∀ (n1 : Nat) (k : Int) (i : Int) (hi : 0 ≤ i ∧ i ≤ nw) (hk : k = lastF i.toNat (gW G) x) (hm : nw - i < (n1 : Int)) (H : Heap) (locs : List Loc) (ls : Array Slot) (hP : va_P D vwCl [(m0, .inr (5, [.ref a0, .ref p0, .int (iI ho), .ref q0, .ref v0, .int (iI th), .ref t0, .int (iI tl)])), (a0, .inl (cy 0, 144, .inl G))] H) (hD : va_D A [(m0, .inr (5, [.ref a0, .ref p0, .int (iI ho), .ref q0, .ref v0, .int (iI th), .ref t0, .int (iI tl)])), (a0, .inl (cy 0, 144, .inl G))]) (hS : va_S A s.heap H locs) (hl : lv_has ls 4 [(3, .int (iI i)), (2, .int (iI k)), (0, .ref m0), (1, .int x)]), W p l e ({ frames := 0, cells := 0, slots := 0, locals := 0 } : Room) s m args below meth c H locs 0 0 (MQ below (va_Qi (fun (r : Int32) (u : Unit) => r = iI (lastF nw.toNat (gW G) x)) (fun u t => va_P D vwCl ((fun u : Unit => [(m0, .inr (5, [.ref a0, .ref p0, .int (iI ho), .ref q0, .ref v0, .int (iI th), .ref t0, .int (iI tl)])), (a0, .inl (cy 0, 144, .inl G))]) u) t.heap) A) args s 0 0 A) (F0 m 4 ls []) := by
    intro n1
    induction n1 with
    | zero =>
      intro k i hi hk hm; exact absurd hm (by omega)
    | succ n1 ih1 =>
      intro k i hi hk hm H locs ls hP hD hS hl
      refine lv_iload_n hx hb dX5_lastOf_4 rfl (lv_at hl 0 rfl) ?_
      refine lv_aload_n hx hb dX5_lastOf_5 rfl (lv_at hl 2 rfl) ?_
      refine va_get (D := D) (ci := 5) (v := .ref a0) (C := RX5) (T := TX5) (N := 8) hx hb hts hiX5 hown hK hP 0 rfl rfl 0 (by decide) (hts (.fieldLink RX5 7 "BackwardSearchModel" "all" "[I") (by decide +kernel)) (fun _ h9 => h9) rfl dX5_lastOf_6 ?_
      refine lv_bipush (v := iI 61) hx hb dX5_lastOf_9 (by decide +kernel) ?_
      refine z_iald hx hb hK hP 1 rfl (by omega) (by omega) (by omega) dX5_lastOf_11 ?_
      refine z_top (show G (61 : Int).toNat = iI nw from h61) ?_
      refine z_icmp_ge (tgt := 40) hx hb (iI_t (by omega) (by omega)) (iI_t (by omega) (by omega)) dX5_lastOf_12 (by decide) (fun c2 => ?_) (fun c2 => ?_)
      · --
        refine lv_iload_n hx hb dX5_lastOf_40 rfl (lv_at hl 1 rfl) ?_
        exact z_iret hx hb hr hlocks hS () (show (iI k) = iI (lastF nw.toNat (gW G) x) from (by rw [hk, show i = nw by omega])) hP dX5_lastOf_41
      · --
        refine lv_aload_n hx hb dX5_lastOf_15 rfl (lv_at hl 2 rfl) ?_
        refine va_get (D := D) (ci := 5) (v := .ref a0) (C := RX5) (T := TX5) (N := 8) hx hb hts hiX5 hown hK hP 0 rfl rfl 0 (by decide) (hts (.fieldLink RX5 7 "BackwardSearchModel" "all" "[I") (by decide +kernel)) (fun _ h9 => h9) rfl dX5_lastOf_16 ?_
        refine lv_bipush (v := iI 62) hx hb dX5_lastOf_19 (by decide +kernel) ?_
        refine lv_iload_n hx hb dX5_lastOf_21 rfl (lv_at hl 0 rfl) ?_
        refine z_add hx hb dX5_lastOf_22 ?_
        refine z_iald hx hb hK hP 1 rfl (by omega) (by omega) (by omega) dX5_lastOf_23 ?_
        refine z_top (show G (62 + i).toNat = gW G i.toNat from congrArg G (by omega)) ?_
        refine lv_iload_n hx hb dX5_lastOf_24 rfl (lv_at hl 3 rfl) ?_
        refine lv_icmp_ne (tgt := 32) hx hb dX5_lastOf_25 (by decide) (fun c3 => ?_) (fun c3 => ?_)
        · --
          refine lv_iload_n hx hb dX5_lastOf_32 rfl (lv_at hl 1 rfl) ?_
          refine lv_istore_n (lv' := [(2, .int (iI k)), (3, .int (iI i)), (0, .ref m0), (1, .int x)]) hx hb dX5_lastOf_33 rfl hl (by decide) rfl (fun ls hl => ?_)
          refine z_iinc (lv' := [(3, .int (iI (i + 1))), (2, .int (iI k)), (0, .ref m0), (1, .int x)]) hx hb dX5_lastOf_34 hl (k := 1) rfl (by decide) rfl (fun ls hl => ?_)
          refine lv_goto (tgt := 4) hx hb dX5_lastOf_37 (by decide) ?_
          exact ih1 k (i + 1) (by omega) (by first | exact (last_up hi.1 hk).1 (by assumption) | exact (last_up hi.1 hk).2 (by assumption)) (by omega) _ _ _ hP hD hS (lv_sub hl [0, 1, 2, 3] rfl)
        · --
          refine lv_iload_n hx hb dX5_lastOf_28 rfl (lv_at hl 0 rfl) ?_
          refine lv_goto (tgt := 33) hx hb dX5_lastOf_29 (by decide) ?_
          refine lv_istore_n (lv' := [(2, .int (iI i)), (3, .int (iI i)), (0, .ref m0), (1, .int x)]) hx hb dX5_lastOf_33 rfl hl (by decide) rfl (fun ls hl => ?_)
          refine z_iinc (lv' := [(3, .int (iI (i + 1))), (2, .int (iI i)), (0, .ref m0), (1, .int x)]) hx hb dX5_lastOf_34 hl (k := 1) rfl (by decide) rfl (fun ls hl => ?_)
          refine lv_goto (tgt := 4) hx hb dX5_lastOf_37 (by decide) ?_
          exact ih1 i (i + 1) (by omega) (by first | exact (last_up hi.1 hk).1 (by assumption) | exact (last_up hi.1 hk).2 (by assumption)) (by omega) _ _ _ hP hD hS (lv_sub hl [0, 1, 2, 3] rfl)
  exact hloop1 (Int.toNat (nw - 0) + 1) (-1) 0 (by omega) (rfl) (by omega) _ _ _ hP hD hS (lv_sub hl [0, 1, 2, 3] rfl)
set_option maxHeartbeats 4000000 in
set_option maxRecDepth 100000 in
theorem c_X5_fits (l : Launch) (D : va_G) (cy : Nat → ClassId) (m0 : Nat) (a0 : Nat) (p0 : Nat) (q0 : Nat) (v0 : Nat) (t0 : Nat) (ho : Int) (th : Int) (tl : Int) (G : Nat → Int32) (nw : Int) (pp : Int) (q : Int) (h61 : G 61 = iI nw) (hnw : 0 ≤ nw ∧ nw ≤ 16) (hp1 : 0 ≤ pp ∧ pp < nw ∧ 1 ≤ q ∧ q ≤ 100) : Ci l D cy yX5_fits wsX5_fits 0 0 [.ref m0, .int (iI pp), .int (iI q)] [(m0, .inr (5, [.ref a0, .ref p0, .int (iI ho), .ref q0, .ref v0, .int (iI th), .ref t0, .int (iI tl)])), (a0, .inl (cy 0, 144, .inl G))] (fun (r : Int32) (u : Unit) => ((endP nw.toNat (gW G) pp.toNat q.toNat) ∧ r = iI 1) ∨ (¬ (endP nw.toNat (gW G) pp.toNat q.toNat) ∧ r = iI 0)) (fun u : Unit => [(m0, .inr (5, [.ref a0, .ref p0, .int (iI ho), .ref q0, .ref v0, .int (iI th), .ref t0, .int (iI tl)])), (a0, .inl (cy 0, 144, .inl G))]) := by
  refine Ci_of (cc := cX5_fits) (maxL := 5) (ret := (some .boolean)) (by decide) rfl rfl ?_
  intro p e s m args below meth c A hx hb hr hts hown hlocks hml hP hK hD hT hA ls hl
  have hS : va_S A s.heap s.heap [] := va_S.rf
  have hl : lv_has ls 5 [(0, .ref m0), (1, .int (iI pp)), (2, .int (iI q))] := hl
  have hiX5 : ∀ w ∈ wsX50, w ∈ wsX5_fits := by decide +kernel
  refine lv_iload_n hx hb dX5_fits_0 rfl (lv_at hl 1 rfl) ?_
  refine lv_iload_n hx hb dX5_fits_1 rfl (lv_at hl 2 rfl) ?_
  refine z_icmp_lt (tgt := 28) hx hb (iI_t (by omega) (by omega)) (iI_t (by omega) (by omega)) dX5_fits_2 (by decide) (fun c1 => ?_) (fun c1 => ?_)
  · --
    refine lv_iconst (v := iI 1) hx hb dX5_fits_28 rfl ?_
    refine lv_goto (tgt := 33) hx hb dX5_fits_29 (by decide) ?_
    refine lv_istore_n (lv' := [(3, .int (iI 1)), (0, .ref m0), (1, .int (iI pp)), (2, .int (iI q))]) hx hb dX5_fits_33 rfl hl (by decide) rfl (fun ls hl => ?_)
    refine lv_iload_n hx hb dX5_fits_34 rfl (lv_at hl 2 rfl) ?_
    refine lv_iconst (v := iI 1) hx hb dX5_fits_35 rfl ?_
    refine z_add hx hb dX5_fits_36 ?_
    refine lv_istore (lv' := [(4, .int (iI (pp + 1))), (3, .int (iI 1)), (0, .ref m0), (1, .int (iI pp)), (2, .int (iI q))]) hx hb dX5_fits_37 hl (by decide) rfl (fun ls hl => ?_)
    have hloop2 : ∀ (n2 : Nat) (k : Int) (i : Int) (hi : pp < i ∧ i ≤ nw) (hk : (k = 1 ∧ FitP (gW G) pp q i) ∨ (k = 0 ∧ ¬ FitP (gW G) pp q i)) (hm : nw - i < (n2 : Int)) (H : Heap) (locs : List Loc) (ls : Array Slot) (hP : va_P D vwCl [(m0, .inr (5, [.ref a0, .ref p0, .int (iI ho), .ref q0, .ref v0, .int (iI th), .ref t0, .int (iI tl)])), (a0, .inl (cy 0, 144, .inl G))] H) (hD : va_D A [(m0, .inr (5, [.ref a0, .ref p0, .int (iI ho), .ref q0, .ref v0, .int (iI th), .ref t0, .int (iI tl)])), (a0, .inl (cy 0, 144, .inl G))]) (hS : va_S A s.heap H locs) (hl : lv_has ls 5 [(4, .int (iI i)), (3, .int (iI k)), (0, .ref m0), (1, .int (iI pp)), (2, .int (iI q))]), W p l e ({ frames := 0, cells := 0, slots := 0, locals := 0 } : Room) s m args below meth c H locs 0 0 (MQ below (va_Qi (fun (r : Int32) (u : Unit) => ((endP nw.toNat (gW G) pp.toNat q.toNat) ∧ r = iI 1) ∨ (¬ (endP nw.toNat (gW G) pp.toNat q.toNat) ∧ r = iI 0)) (fun u t => va_P D vwCl ((fun u : Unit => [(m0, .inr (5, [.ref a0, .ref p0, .int (iI ho), .ref q0, .ref v0, .int (iI th), .ref t0, .int (iI tl)])), (a0, .inl (cy 0, 144, .inl G))]) u) t.heap) A) args s 0 0 A) (F0 m 39 ls []) := by
      intro n2
      induction n2 with
      | zero =>
        intro k i hi hk hm; exact absurd hm (by omega)
      | succ n2 ih2 =>
        intro k i hi hk hm H locs ls hP hD hS hl
        refine lv_iload hx hb dX5_fits_39 (lv_at hl 0 rfl) ?_
        refine lv_aload_n hx hb dX5_fits_41 rfl (lv_at hl 2 rfl) ?_
        refine va_get (D := D) (ci := 5) (v := .ref a0) (C := RX5) (T := TX5) (N := 8) hx hb hts hiX5 hown hK hP 0 rfl rfl 0 (by decide) (hts (.fieldLink RX5 7 "BackwardSearchModel" "all" "[I") (by decide +kernel)) (fun _ h9 => h9) rfl dX5_fits_42 ?_
        refine lv_bipush (v := iI 61) hx hb dX5_fits_45 (by decide +kernel) ?_
        refine z_iald hx hb hK hP 1 rfl (by omega) (by omega) (by omega) dX5_fits_47 ?_
        refine z_top (show G (61 : Int).toNat = iI nw from h61) ?_
        refine z_icmp_ge (tgt := 98) hx hb (iI_t (by omega) (by omega)) (iI_t (by omega) (by omega)) dX5_fits_48 (by decide) (fun c3 => ?_) (fun c3 => ?_)
        · --
          refine lv_iload_n hx hb dX5_fits_98 rfl (lv_at hl 1 rfl) ?_
          exact z_zret hx hb hr hlocks (z_nb (by omega) (by omega)) hS () (show ((endP nw.toNat (gW G) pp.toNat q.toNat) ∧ (iI k) = iI 1) ∨ (¬ (endP nw.toNat (gW G) pp.toNat q.toNat) ∧ (iI k) = iI 0) from (by
                have hz : i = nw := by omega
                rw [hz, FitP_all (by omega)] at hk
                rcases hk with ⟨k1, k2⟩ | ⟨k1, k2⟩
                · exact Or.inl ⟨k2, congrArg iI k1⟩
                · exact Or.inr ⟨k2, congrArg iI k1⟩)) hP dX5_fits_99
        · --
          refine lv_iload_n hx hb dX5_fits_51 rfl (lv_at hl 1 rfl) ?_
          refine z_if_eq (tgt := 90) hx hb (iI_t (by omega) (by omega)) dX5_fits_52 (by decide) (fun c4 => ?_) (fun c4 => ?_)
          · --
            refine lv_iconst (v := iI 0) hx hb dX5_fits_90 rfl ?_
            refine lv_istore_n (lv' := [(3, .int (iI 0)), (4, .int (iI i)), (0, .ref m0), (1, .int (iI pp)), (2, .int (iI q))]) hx hb dX5_fits_91 rfl hl (by decide) rfl (fun ls hl => ?_)
            refine z_iinc (lv' := [(4, .int (iI (i + 1))), (3, .int (iI 0)), (0, .ref m0), (1, .int (iI pp)), (2, .int (iI q))]) hx hb dX5_fits_92 hl (k := 1) rfl (by decide) rfl (fun ls hl => ?_)
            refine lv_goto (tgt := 39) hx hb dX5_fits_95 (by decide) ?_
            exact ih2 0 (i + 1) (by omega) (by
                    rcases hk with ⟨k1, k2⟩ | ⟨k1, k2⟩
                    · first
                        | exact absurd k1 (by omega)
                        | exact Or.inl ⟨rfl, (FitP_s (by omega)).mpr ⟨k2, fun h => absurd h (by omega)⟩⟩
                        | exact Or.inl ⟨rfl, (FitP_s (by omega)).mpr ⟨k2, fun _ => by assumption⟩⟩
                        | exact Or.inr ⟨rfl, fun h => absurd (((FitP_s (by omega)).mp h).2 (by omega)) (by assumption)⟩
                    · first
                        | exact absurd k1 (by omega)
                        | exact Or.inr ⟨rfl, fun h => k2 ((FitP_s (by omega)).mp h).1⟩) (by omega) _ _ _ hP hD hS (lv_sub hl [0, 1, 2, 3, 4] rfl)
          · --
            refine lv_iload hx hb dX5_fits_55 (lv_at hl 0 rfl) ?_
            refine lv_iload_n hx hb dX5_fits_57 rfl (lv_at hl 4 rfl) ?_
            refine z_icmp_lt (tgt := 86) hx hb (iI_t (by omega) (by omega)) (iI_t (by omega) (by omega)) dX5_fits_58 (by decide) (fun c5 => ?_) (fun c5 => ?_)
            · --
              refine lv_iconst (v := iI 1) hx hb dX5_fits_86 rfl ?_
              refine lv_goto (tgt := 91) hx hb dX5_fits_87 (by decide) ?_
              refine lv_istore_n (lv' := [(3, .int (iI 1)), (4, .int (iI i)), (0, .ref m0), (1, .int (iI pp)), (2, .int (iI q))]) hx hb dX5_fits_91 rfl hl (by decide) rfl (fun ls hl => ?_)
              refine z_iinc (lv' := [(4, .int (iI (i + 1))), (3, .int (iI 1)), (0, .ref m0), (1, .int (iI pp)), (2, .int (iI q))]) hx hb dX5_fits_92 hl (k := 1) rfl (by decide) rfl (fun ls hl => ?_)
              refine lv_goto (tgt := 39) hx hb dX5_fits_95 (by decide) ?_
              exact ih2 1 (i + 1) (by omega) (by
                      rcases hk with ⟨k1, k2⟩ | ⟨k1, k2⟩
                      · first
                          | exact absurd k1 (by omega)
                          | exact Or.inl ⟨rfl, (FitP_s (by omega)).mpr ⟨k2, fun h => absurd h (by omega)⟩⟩
                          | exact Or.inl ⟨rfl, (FitP_s (by omega)).mpr ⟨k2, fun _ => by assumption⟩⟩
                          | exact Or.inr ⟨rfl, fun h => absurd (((FitP_s (by omega)).mp h).2 (by omega)) (by assumption)⟩
                      · first
                          | exact absurd k1 (by omega)
                          | exact Or.inr ⟨rfl, fun h => k2 ((FitP_s (by omega)).mp h).1⟩) (by omega) _ _ _ hP hD hS (lv_sub hl [0, 1, 2, 3, 4] rfl)
            · --
              refine lv_aload_n hx hb dX5_fits_61 rfl (lv_at hl 2 rfl) ?_
              refine va_get (D := D) (ci := 5) (v := .ref a0) (C := RX5) (T := TX5) (N := 8) hx hb hts hiX5 hown hK hP 0 rfl rfl 0 (by decide) (hts (.fieldLink RX5 7 "BackwardSearchModel" "all" "[I") (by decide +kernel)) (fun _ h9 => h9) rfl dX5_fits_62 ?_
              refine lv_bipush (v := iI 62) hx hb dX5_fits_65 (by decide +kernel) ?_
              refine lv_iload hx hb dX5_fits_67 (lv_at hl 0 rfl) ?_
              refine z_add hx hb dX5_fits_69 ?_
              refine z_iald hx hb hK hP 1 rfl (by omega) (by omega) (by omega) dX5_fits_70 ?_
              refine z_top (show G (62 + i).toNat = gW G i.toNat from congrArg G (by omega)) ?_
              refine lv_aload_n hx hb dX5_fits_71 rfl (lv_at hl 2 rfl) ?_
              refine va_get (D := D) (ci := 5) (v := .ref a0) (C := RX5) (T := TX5) (N := 8) hx hb hts hiX5 hown hK hP 0 rfl rfl 0 (by decide) (hts (.fieldLink RX5 7 "BackwardSearchModel" "all" "[I") (by decide +kernel)) (fun _ h9 => h9) rfl dX5_fits_72 ?_
              refine lv_bipush (v := iI 62) hx hb dX5_fits_75 (by decide +kernel) ?_
              refine lv_iload hx hb dX5_fits_77 (lv_at hl 0 rfl) ?_
              refine z_add hx hb dX5_fits_79 ?_
              refine lv_iload_n hx hb dX5_fits_80 rfl (lv_at hl 4 rfl) ?_
              refine z_sub hx hb dX5_fits_81 ?_
              refine z_iald hx hb hK hP 1 rfl (by omega) (by omega) (by omega) dX5_fits_82 ?_
              refine z_top (show G ((62 + i) - q).toNat = gW G (i.toNat - q.toNat) from congrArg G (by omega)) ?_
              refine lv_icmp_ne (tgt := 90) hx hb dX5_fits_83 (by decide) (fun c6 => ?_) (fun c6 => ?_)
              · --
                refine lv_iconst (v := iI 0) hx hb dX5_fits_90 rfl ?_
                refine lv_istore_n (lv' := [(3, .int (iI 0)), (4, .int (iI i)), (0, .ref m0), (1, .int (iI pp)), (2, .int (iI q))]) hx hb dX5_fits_91 rfl hl (by decide) rfl (fun ls hl => ?_)
                refine z_iinc (lv' := [(4, .int (iI (i + 1))), (3, .int (iI 0)), (0, .ref m0), (1, .int (iI pp)), (2, .int (iI q))]) hx hb dX5_fits_92 hl (k := 1) rfl (by decide) rfl (fun ls hl => ?_)
                refine lv_goto (tgt := 39) hx hb dX5_fits_95 (by decide) ?_
                exact ih2 0 (i + 1) (by omega) (by
                        rcases hk with ⟨k1, k2⟩ | ⟨k1, k2⟩
                        · first
                            | exact absurd k1 (by omega)
                            | exact Or.inl ⟨rfl, (FitP_s (by omega)).mpr ⟨k2, fun h => absurd h (by omega)⟩⟩
                            | exact Or.inl ⟨rfl, (FitP_s (by omega)).mpr ⟨k2, fun _ => by assumption⟩⟩
                            | exact Or.inr ⟨rfl, fun h => absurd (((FitP_s (by omega)).mp h).2 (by omega)) (by assumption)⟩
                        · first
                            | exact absurd k1 (by omega)
                            | exact Or.inr ⟨rfl, fun h => k2 ((FitP_s (by omega)).mp h).1⟩) (by omega) _ _ _ hP hD hS (lv_sub hl [0, 1, 2, 3, 4] rfl)
              · --
                refine lv_iconst (v := iI 1) hx hb dX5_fits_86 rfl ?_
                refine lv_goto (tgt := 91) hx hb dX5_fits_87 (by decide) ?_
                refine lv_istore_n (lv' := [(3, .int (iI 1)), (4, .int (iI i)), (0, .ref m0), (1, .int (iI pp)), (2, .int (iI q))]) hx hb dX5_fits_91 rfl hl (by decide) rfl (fun ls hl => ?_)
                refine z_iinc (lv' := [(4, .int (iI (i + 1))), (3, .int (iI 1)), (0, .ref m0), (1, .int (iI pp)), (2, .int (iI q))]) hx hb dX5_fits_92 hl (k := 1) rfl (by decide) rfl (fun ls hl => ?_)
                refine lv_goto (tgt := 39) hx hb dX5_fits_95 (by decide) ?_
                exact ih2 1 (i + 1) (by omega) (by
                        rcases hk with ⟨k1, k2⟩ | ⟨k1, k2⟩
                        · first
                            | exact absurd k1 (by omega)
                            | exact Or.inl ⟨rfl, (FitP_s (by omega)).mpr ⟨k2, fun h => absurd h (by omega)⟩⟩
                            | exact Or.inl ⟨rfl, (FitP_s (by omega)).mpr ⟨k2, fun _ => by assumption⟩⟩
                            | exact Or.inr ⟨rfl, fun h => absurd (((FitP_s (by omega)).mp h).2 (by omega)) (by assumption)⟩
                        · first
                            | exact absurd k1 (by omega)
                            | exact Or.inr ⟨rfl, fun h => k2 ((FitP_s (by omega)).mp h).1⟩) (by omega) _ _ _ hP hD hS (lv_sub hl [0, 1, 2, 3, 4] rfl)
    exact hloop2 (Int.toNat (nw - (pp + 1)) + 1) 1 (pp + 1) (by omega) (by first | exact Or.inl ⟨rfl, FitP_0.mpr (fun h => absurd h (by omega))⟩ | exact Or.inl ⟨rfl, FitP_0.mpr (fun _ => by assumption)⟩ | exact Or.inr ⟨rfl, fun h => FitP_0.mp h (by omega) (by assumption)⟩) (by omega) _ _ _ hP hD hS (lv_sub hl [0, 1, 2, 3, 4] rfl)
  · --
    refine lv_aload_n hx hb dX5_fits_5 rfl (lv_at hl 0 rfl) ?_
    refine va_get (D := D) (ci := 5) (v := .ref a0) (C := RX5) (T := TX5) (N := 8) hx hb hts hiX5 hown hK hP 0 rfl rfl 0 (by decide) (hts (.fieldLink RX5 7 "BackwardSearchModel" "all" "[I") (by decide +kernel)) (fun _ h9 => h9) rfl dX5_fits_6 ?_
    refine lv_bipush (v := iI 62) hx hb dX5_fits_9 (by decide +kernel) ?_
    refine lv_iload_n hx hb dX5_fits_11 rfl (lv_at hl 1 rfl) ?_
    refine z_add hx hb dX5_fits_12 ?_
    refine z_iald hx hb hK hP 1 rfl (by omega) (by omega) (by omega) dX5_fits_13 ?_
    refine z_top (show G (62 + pp).toNat = gW G pp.toNat from congrArg G (by omega)) ?_
    refine lv_aload_n hx hb dX5_fits_14 rfl (lv_at hl 0 rfl) ?_
    refine va_get (D := D) (ci := 5) (v := .ref a0) (C := RX5) (T := TX5) (N := 8) hx hb hts hiX5 hown hK hP 0 rfl rfl 0 (by decide) (hts (.fieldLink RX5 7 "BackwardSearchModel" "all" "[I") (by decide +kernel)) (fun _ h9 => h9) rfl dX5_fits_15 ?_
    refine lv_bipush (v := iI 62) hx hb dX5_fits_18 (by decide +kernel) ?_
    refine lv_iload_n hx hb dX5_fits_20 rfl (lv_at hl 1 rfl) ?_
    refine z_add hx hb dX5_fits_21 ?_
    refine lv_iload_n hx hb dX5_fits_22 rfl (lv_at hl 2 rfl) ?_
    refine z_sub hx hb dX5_fits_23 ?_
    refine z_iald hx hb hK hP 1 rfl (by omega) (by omega) (by omega) dX5_fits_24 ?_
    refine z_top (show G ((62 + pp) - q).toNat = gW G (pp.toNat - q.toNat) from congrArg G (by omega)) ?_
    refine lv_icmp_eq (tgt := 32) hx hb dX5_fits_25 (by decide) (fun c7 => ?_) (fun c7 => ?_)
    · --
      refine lv_iconst (v := iI 0) hx hb dX5_fits_32 rfl ?_
      refine lv_istore_n (lv' := [(3, .int (iI 0)), (0, .ref m0), (1, .int (iI pp)), (2, .int (iI q))]) hx hb dX5_fits_33 rfl hl (by decide) rfl (fun ls hl => ?_)
      refine lv_iload_n hx hb dX5_fits_34 rfl (lv_at hl 2 rfl) ?_
      refine lv_iconst (v := iI 1) hx hb dX5_fits_35 rfl ?_
      refine z_add hx hb dX5_fits_36 ?_
      refine lv_istore (lv' := [(4, .int (iI (pp + 1))), (3, .int (iI 0)), (0, .ref m0), (1, .int (iI pp)), (2, .int (iI q))]) hx hb dX5_fits_37 hl (by decide) rfl (fun ls hl => ?_)
      have hloop8 : ∀ (n8 : Nat) (k : Int) (i : Int) (hi : pp < i ∧ i ≤ nw) (hk : (k = 1 ∧ FitP (gW G) pp q i) ∨ (k = 0 ∧ ¬ FitP (gW G) pp q i)) (hm : nw - i < (n8 : Int)) (H : Heap) (locs : List Loc) (ls : Array Slot) (hP : va_P D vwCl [(m0, .inr (5, [.ref a0, .ref p0, .int (iI ho), .ref q0, .ref v0, .int (iI th), .ref t0, .int (iI tl)])), (a0, .inl (cy 0, 144, .inl G))] H) (hD : va_D A [(m0, .inr (5, [.ref a0, .ref p0, .int (iI ho), .ref q0, .ref v0, .int (iI th), .ref t0, .int (iI tl)])), (a0, .inl (cy 0, 144, .inl G))]) (hS : va_S A s.heap H locs) (hl : lv_has ls 5 [(4, .int (iI i)), (3, .int (iI k)), (0, .ref m0), (1, .int (iI pp)), (2, .int (iI q))]), W p l e ({ frames := 0, cells := 0, slots := 0, locals := 0 } : Room) s m args below meth c H locs 0 0 (MQ below (va_Qi (fun (r : Int32) (u : Unit) => ((endP nw.toNat (gW G) pp.toNat q.toNat) ∧ r = iI 1) ∨ (¬ (endP nw.toNat (gW G) pp.toNat q.toNat) ∧ r = iI 0)) (fun u t => va_P D vwCl ((fun u : Unit => [(m0, .inr (5, [.ref a0, .ref p0, .int (iI ho), .ref q0, .ref v0, .int (iI th), .ref t0, .int (iI tl)])), (a0, .inl (cy 0, 144, .inl G))]) u) t.heap) A) args s 0 0 A) (F0 m 39 ls []) := by
        intro n8
        induction n8 with
        | zero =>
          intro k i hi hk hm; exact absurd hm (by omega)
        | succ n8 ih8 =>
          intro k i hi hk hm H locs ls hP hD hS hl
          refine lv_iload hx hb dX5_fits_39 (lv_at hl 0 rfl) ?_
          refine lv_aload_n hx hb dX5_fits_41 rfl (lv_at hl 2 rfl) ?_
          refine va_get (D := D) (ci := 5) (v := .ref a0) (C := RX5) (T := TX5) (N := 8) hx hb hts hiX5 hown hK hP 0 rfl rfl 0 (by decide) (hts (.fieldLink RX5 7 "BackwardSearchModel" "all" "[I") (by decide +kernel)) (fun _ h9 => h9) rfl dX5_fits_42 ?_
          refine lv_bipush (v := iI 61) hx hb dX5_fits_45 (by decide +kernel) ?_
          refine z_iald hx hb hK hP 1 rfl (by omega) (by omega) (by omega) dX5_fits_47 ?_
          refine z_top (show G (61 : Int).toNat = iI nw from h61) ?_
          refine z_icmp_ge (tgt := 98) hx hb (iI_t (by omega) (by omega)) (iI_t (by omega) (by omega)) dX5_fits_48 (by decide) (fun c9 => ?_) (fun c9 => ?_)
          · --
            refine lv_iload_n hx hb dX5_fits_98 rfl (lv_at hl 1 rfl) ?_
            exact z_zret hx hb hr hlocks (z_nb (by omega) (by omega)) hS () (show ((endP nw.toNat (gW G) pp.toNat q.toNat) ∧ (iI k) = iI 1) ∨ (¬ (endP nw.toNat (gW G) pp.toNat q.toNat) ∧ (iI k) = iI 0) from (by
                  have hz : i = nw := by omega
                  rw [hz, FitP_all (by omega)] at hk
                  rcases hk with ⟨k1, k2⟩ | ⟨k1, k2⟩
                  · exact Or.inl ⟨k2, congrArg iI k1⟩
                  · exact Or.inr ⟨k2, congrArg iI k1⟩)) hP dX5_fits_99
          · --
            refine lv_iload_n hx hb dX5_fits_51 rfl (lv_at hl 1 rfl) ?_
            refine z_if_eq (tgt := 90) hx hb (iI_t (by omega) (by omega)) dX5_fits_52 (by decide) (fun c10 => ?_) (fun c10 => ?_)
            · --
              refine lv_iconst (v := iI 0) hx hb dX5_fits_90 rfl ?_
              refine lv_istore_n (lv' := [(3, .int (iI 0)), (4, .int (iI i)), (0, .ref m0), (1, .int (iI pp)), (2, .int (iI q))]) hx hb dX5_fits_91 rfl hl (by decide) rfl (fun ls hl => ?_)
              refine z_iinc (lv' := [(4, .int (iI (i + 1))), (3, .int (iI 0)), (0, .ref m0), (1, .int (iI pp)), (2, .int (iI q))]) hx hb dX5_fits_92 hl (k := 1) rfl (by decide) rfl (fun ls hl => ?_)
              refine lv_goto (tgt := 39) hx hb dX5_fits_95 (by decide) ?_
              exact ih8 0 (i + 1) (by omega) (by
                      rcases hk with ⟨k1, k2⟩ | ⟨k1, k2⟩
                      · first
                          | exact absurd k1 (by omega)
                          | exact Or.inl ⟨rfl, (FitP_s (by omega)).mpr ⟨k2, fun h => absurd h (by omega)⟩⟩
                          | exact Or.inl ⟨rfl, (FitP_s (by omega)).mpr ⟨k2, fun _ => by assumption⟩⟩
                          | exact Or.inr ⟨rfl, fun h => absurd (((FitP_s (by omega)).mp h).2 (by omega)) (by assumption)⟩
                      · first
                          | exact absurd k1 (by omega)
                          | exact Or.inr ⟨rfl, fun h => k2 ((FitP_s (by omega)).mp h).1⟩) (by omega) _ _ _ hP hD hS (lv_sub hl [0, 1, 2, 3, 4] rfl)
            · --
              refine lv_iload hx hb dX5_fits_55 (lv_at hl 0 rfl) ?_
              refine lv_iload_n hx hb dX5_fits_57 rfl (lv_at hl 4 rfl) ?_
              refine z_icmp_lt (tgt := 86) hx hb (iI_t (by omega) (by omega)) (iI_t (by omega) (by omega)) dX5_fits_58 (by decide) (fun c11 => ?_) (fun c11 => ?_)
              · --
                refine lv_iconst (v := iI 1) hx hb dX5_fits_86 rfl ?_
                refine lv_goto (tgt := 91) hx hb dX5_fits_87 (by decide) ?_
                refine lv_istore_n (lv' := [(3, .int (iI 1)), (4, .int (iI i)), (0, .ref m0), (1, .int (iI pp)), (2, .int (iI q))]) hx hb dX5_fits_91 rfl hl (by decide) rfl (fun ls hl => ?_)
                refine z_iinc (lv' := [(4, .int (iI (i + 1))), (3, .int (iI 1)), (0, .ref m0), (1, .int (iI pp)), (2, .int (iI q))]) hx hb dX5_fits_92 hl (k := 1) rfl (by decide) rfl (fun ls hl => ?_)
                refine lv_goto (tgt := 39) hx hb dX5_fits_95 (by decide) ?_
                exact ih8 1 (i + 1) (by omega) (by
                        rcases hk with ⟨k1, k2⟩ | ⟨k1, k2⟩
                        · first
                            | exact absurd k1 (by omega)
                            | exact Or.inl ⟨rfl, (FitP_s (by omega)).mpr ⟨k2, fun h => absurd h (by omega)⟩⟩
                            | exact Or.inl ⟨rfl, (FitP_s (by omega)).mpr ⟨k2, fun _ => by assumption⟩⟩
                            | exact Or.inr ⟨rfl, fun h => absurd (((FitP_s (by omega)).mp h).2 (by omega)) (by assumption)⟩
                        · first
                            | exact absurd k1 (by omega)
                            | exact Or.inr ⟨rfl, fun h => k2 ((FitP_s (by omega)).mp h).1⟩) (by omega) _ _ _ hP hD hS (lv_sub hl [0, 1, 2, 3, 4] rfl)
              · --
                refine lv_aload_n hx hb dX5_fits_61 rfl (lv_at hl 2 rfl) ?_
                refine va_get (D := D) (ci := 5) (v := .ref a0) (C := RX5) (T := TX5) (N := 8) hx hb hts hiX5 hown hK hP 0 rfl rfl 0 (by decide) (hts (.fieldLink RX5 7 "BackwardSearchModel" "all" "[I") (by decide +kernel)) (fun _ h9 => h9) rfl dX5_fits_62 ?_
                refine lv_bipush (v := iI 62) hx hb dX5_fits_65 (by decide +kernel) ?_
                refine lv_iload hx hb dX5_fits_67 (lv_at hl 0 rfl) ?_
                refine z_add hx hb dX5_fits_69 ?_
                refine z_iald hx hb hK hP 1 rfl (by omega) (by omega) (by omega) dX5_fits_70 ?_
                refine z_top (show G (62 + i).toNat = gW G i.toNat from congrArg G (by omega)) ?_
                refine lv_aload_n hx hb dX5_fits_71 rfl (lv_at hl 2 rfl) ?_
                refine va_get (D := D) (ci := 5) (v := .ref a0) (C := RX5) (T := TX5) (N := 8) hx hb hts hiX5 hown hK hP 0 rfl rfl 0 (by decide) (hts (.fieldLink RX5 7 "BackwardSearchModel" "all" "[I") (by decide +kernel)) (fun _ h9 => h9) rfl dX5_fits_72 ?_
                refine lv_bipush (v := iI 62) hx hb dX5_fits_75 (by decide +kernel) ?_
                refine lv_iload hx hb dX5_fits_77 (lv_at hl 0 rfl) ?_
                refine z_add hx hb dX5_fits_79 ?_
                refine lv_iload_n hx hb dX5_fits_80 rfl (lv_at hl 4 rfl) ?_
                refine z_sub hx hb dX5_fits_81 ?_
                refine z_iald hx hb hK hP 1 rfl (by omega) (by omega) (by omega) dX5_fits_82 ?_
                refine z_top (show G ((62 + i) - q).toNat = gW G (i.toNat - q.toNat) from congrArg G (by omega)) ?_
                refine lv_icmp_ne (tgt := 90) hx hb dX5_fits_83 (by decide) (fun c12 => ?_) (fun c12 => ?_)
                · --
                  refine lv_iconst (v := iI 0) hx hb dX5_fits_90 rfl ?_
                  refine lv_istore_n (lv' := [(3, .int (iI 0)), (4, .int (iI i)), (0, .ref m0), (1, .int (iI pp)), (2, .int (iI q))]) hx hb dX5_fits_91 rfl hl (by decide) rfl (fun ls hl => ?_)
                  refine z_iinc (lv' := [(4, .int (iI (i + 1))), (3, .int (iI 0)), (0, .ref m0), (1, .int (iI pp)), (2, .int (iI q))]) hx hb dX5_fits_92 hl (k := 1) rfl (by decide) rfl (fun ls hl => ?_)
                  refine lv_goto (tgt := 39) hx hb dX5_fits_95 (by decide) ?_
                  exact ih8 0 (i + 1) (by omega) (by
                          rcases hk with ⟨k1, k2⟩ | ⟨k1, k2⟩
                          · first
                              | exact absurd k1 (by omega)
                              | exact Or.inl ⟨rfl, (FitP_s (by omega)).mpr ⟨k2, fun h => absurd h (by omega)⟩⟩
                              | exact Or.inl ⟨rfl, (FitP_s (by omega)).mpr ⟨k2, fun _ => by assumption⟩⟩
                              | exact Or.inr ⟨rfl, fun h => absurd (((FitP_s (by omega)).mp h).2 (by omega)) (by assumption)⟩
                          · first
                              | exact absurd k1 (by omega)
                              | exact Or.inr ⟨rfl, fun h => k2 ((FitP_s (by omega)).mp h).1⟩) (by omega) _ _ _ hP hD hS (lv_sub hl [0, 1, 2, 3, 4] rfl)
                · --
                  refine lv_iconst (v := iI 1) hx hb dX5_fits_86 rfl ?_
                  refine lv_goto (tgt := 91) hx hb dX5_fits_87 (by decide) ?_
                  refine lv_istore_n (lv' := [(3, .int (iI 1)), (4, .int (iI i)), (0, .ref m0), (1, .int (iI pp)), (2, .int (iI q))]) hx hb dX5_fits_91 rfl hl (by decide) rfl (fun ls hl => ?_)
                  refine z_iinc (lv' := [(4, .int (iI (i + 1))), (3, .int (iI 1)), (0, .ref m0), (1, .int (iI pp)), (2, .int (iI q))]) hx hb dX5_fits_92 hl (k := 1) rfl (by decide) rfl (fun ls hl => ?_)
                  refine lv_goto (tgt := 39) hx hb dX5_fits_95 (by decide) ?_
                  exact ih8 1 (i + 1) (by omega) (by
                          rcases hk with ⟨k1, k2⟩ | ⟨k1, k2⟩
                          · first
                              | exact absurd k1 (by omega)
                              | exact Or.inl ⟨rfl, (FitP_s (by omega)).mpr ⟨k2, fun h => absurd h (by omega)⟩⟩
                              | exact Or.inl ⟨rfl, (FitP_s (by omega)).mpr ⟨k2, fun _ => by assumption⟩⟩
                              | exact Or.inr ⟨rfl, fun h => absurd (((FitP_s (by omega)).mp h).2 (by omega)) (by assumption)⟩
                          · first
                              | exact absurd k1 (by omega)
                              | exact Or.inr ⟨rfl, fun h => k2 ((FitP_s (by omega)).mp h).1⟩) (by omega) _ _ _ hP hD hS (lv_sub hl [0, 1, 2, 3, 4] rfl)
      exact hloop8 (Int.toNat (nw - (pp + 1)) + 1) 0 (pp + 1) (by omega) (by first | exact Or.inl ⟨rfl, FitP_0.mpr (fun h => absurd h (by omega))⟩ | exact Or.inl ⟨rfl, FitP_0.mpr (fun _ => by assumption)⟩ | exact Or.inr ⟨rfl, fun h => FitP_0.mp h (by omega) (by assumption)⟩) (by omega) _ _ _ hP hD hS (lv_sub hl [0, 1, 2, 3, 4] rfl)
    · --
      refine lv_iconst (v := iI 1) hx hb dX5_fits_28 rfl ?_
      refine lv_goto (tgt := 33) hx hb dX5_fits_29 (by decide) ?_
      refine lv_istore_n (lv' := [(3, .int (iI 1)), (0, .ref m0), (1, .int (iI pp)), (2, .int (iI q))]) hx hb dX5_fits_33 rfl hl (by decide) rfl (fun ls hl => ?_)
      refine lv_iload_n hx hb dX5_fits_34 rfl (lv_at hl 2 rfl) ?_
      refine lv_iconst (v := iI 1) hx hb dX5_fits_35 rfl ?_
      refine z_add hx hb dX5_fits_36 ?_
      refine lv_istore (lv' := [(4, .int (iI (pp + 1))), (3, .int (iI 1)), (0, .ref m0), (1, .int (iI pp)), (2, .int (iI q))]) hx hb dX5_fits_37 hl (by decide) rfl (fun ls hl => ?_)
      have hloop13 : ∀ (n13 : Nat) (k : Int) (i : Int) (hi : pp < i ∧ i ≤ nw) (hk : (k = 1 ∧ FitP (gW G) pp q i) ∨ (k = 0 ∧ ¬ FitP (gW G) pp q i)) (hm : nw - i < (n13 : Int)) (H : Heap) (locs : List Loc) (ls : Array Slot) (hP : va_P D vwCl [(m0, .inr (5, [.ref a0, .ref p0, .int (iI ho), .ref q0, .ref v0, .int (iI th), .ref t0, .int (iI tl)])), (a0, .inl (cy 0, 144, .inl G))] H) (hD : va_D A [(m0, .inr (5, [.ref a0, .ref p0, .int (iI ho), .ref q0, .ref v0, .int (iI th), .ref t0, .int (iI tl)])), (a0, .inl (cy 0, 144, .inl G))]) (hS : va_S A s.heap H locs) (hl : lv_has ls 5 [(4, .int (iI i)), (3, .int (iI k)), (0, .ref m0), (1, .int (iI pp)), (2, .int (iI q))]), W p l e ({ frames := 0, cells := 0, slots := 0, locals := 0 } : Room) s m args below meth c H locs 0 0 (MQ below (va_Qi (fun (r : Int32) (u : Unit) => ((endP nw.toNat (gW G) pp.toNat q.toNat) ∧ r = iI 1) ∨ (¬ (endP nw.toNat (gW G) pp.toNat q.toNat) ∧ r = iI 0)) (fun u t => va_P D vwCl ((fun u : Unit => [(m0, .inr (5, [.ref a0, .ref p0, .int (iI ho), .ref q0, .ref v0, .int (iI th), .ref t0, .int (iI tl)])), (a0, .inl (cy 0, 144, .inl G))]) u) t.heap) A) args s 0 0 A) (F0 m 39 ls []) := by
        intro n13
        induction n13 with
        | zero =>
          intro k i hi hk hm; exact absurd hm (by omega)
        | succ n13 ih13 =>
          intro k i hi hk hm H locs ls hP hD hS hl
          refine lv_iload hx hb dX5_fits_39 (lv_at hl 0 rfl) ?_
          refine lv_aload_n hx hb dX5_fits_41 rfl (lv_at hl 2 rfl) ?_
          refine va_get (D := D) (ci := 5) (v := .ref a0) (C := RX5) (T := TX5) (N := 8) hx hb hts hiX5 hown hK hP 0 rfl rfl 0 (by decide) (hts (.fieldLink RX5 7 "BackwardSearchModel" "all" "[I") (by decide +kernel)) (fun _ h9 => h9) rfl dX5_fits_42 ?_
          refine lv_bipush (v := iI 61) hx hb dX5_fits_45 (by decide +kernel) ?_
          refine z_iald hx hb hK hP 1 rfl (by omega) (by omega) (by omega) dX5_fits_47 ?_
          refine z_top (show G (61 : Int).toNat = iI nw from h61) ?_
          refine z_icmp_ge (tgt := 98) hx hb (iI_t (by omega) (by omega)) (iI_t (by omega) (by omega)) dX5_fits_48 (by decide) (fun c14 => ?_) (fun c14 => ?_)
          · --
            refine lv_iload_n hx hb dX5_fits_98 rfl (lv_at hl 1 rfl) ?_
            exact z_zret hx hb hr hlocks (z_nb (by omega) (by omega)) hS () (show ((endP nw.toNat (gW G) pp.toNat q.toNat) ∧ (iI k) = iI 1) ∨ (¬ (endP nw.toNat (gW G) pp.toNat q.toNat) ∧ (iI k) = iI 0) from (by
                  have hz : i = nw := by omega
                  rw [hz, FitP_all (by omega)] at hk
                  rcases hk with ⟨k1, k2⟩ | ⟨k1, k2⟩
                  · exact Or.inl ⟨k2, congrArg iI k1⟩
                  · exact Or.inr ⟨k2, congrArg iI k1⟩)) hP dX5_fits_99
          · --
            refine lv_iload_n hx hb dX5_fits_51 rfl (lv_at hl 1 rfl) ?_
            refine z_if_eq (tgt := 90) hx hb (iI_t (by omega) (by omega)) dX5_fits_52 (by decide) (fun c15 => ?_) (fun c15 => ?_)
            · --
              refine lv_iconst (v := iI 0) hx hb dX5_fits_90 rfl ?_
              refine lv_istore_n (lv' := [(3, .int (iI 0)), (4, .int (iI i)), (0, .ref m0), (1, .int (iI pp)), (2, .int (iI q))]) hx hb dX5_fits_91 rfl hl (by decide) rfl (fun ls hl => ?_)
              refine z_iinc (lv' := [(4, .int (iI (i + 1))), (3, .int (iI 0)), (0, .ref m0), (1, .int (iI pp)), (2, .int (iI q))]) hx hb dX5_fits_92 hl (k := 1) rfl (by decide) rfl (fun ls hl => ?_)
              refine lv_goto (tgt := 39) hx hb dX5_fits_95 (by decide) ?_
              exact ih13 0 (i + 1) (by omega) (by
                      rcases hk with ⟨k1, k2⟩ | ⟨k1, k2⟩
                      · first
                          | exact absurd k1 (by omega)
                          | exact Or.inl ⟨rfl, (FitP_s (by omega)).mpr ⟨k2, fun h => absurd h (by omega)⟩⟩
                          | exact Or.inl ⟨rfl, (FitP_s (by omega)).mpr ⟨k2, fun _ => by assumption⟩⟩
                          | exact Or.inr ⟨rfl, fun h => absurd (((FitP_s (by omega)).mp h).2 (by omega)) (by assumption)⟩
                      · first
                          | exact absurd k1 (by omega)
                          | exact Or.inr ⟨rfl, fun h => k2 ((FitP_s (by omega)).mp h).1⟩) (by omega) _ _ _ hP hD hS (lv_sub hl [0, 1, 2, 3, 4] rfl)
            · --
              refine lv_iload hx hb dX5_fits_55 (lv_at hl 0 rfl) ?_
              refine lv_iload_n hx hb dX5_fits_57 rfl (lv_at hl 4 rfl) ?_
              refine z_icmp_lt (tgt := 86) hx hb (iI_t (by omega) (by omega)) (iI_t (by omega) (by omega)) dX5_fits_58 (by decide) (fun c16 => ?_) (fun c16 => ?_)
              · --
                refine lv_iconst (v := iI 1) hx hb dX5_fits_86 rfl ?_
                refine lv_goto (tgt := 91) hx hb dX5_fits_87 (by decide) ?_
                refine lv_istore_n (lv' := [(3, .int (iI 1)), (4, .int (iI i)), (0, .ref m0), (1, .int (iI pp)), (2, .int (iI q))]) hx hb dX5_fits_91 rfl hl (by decide) rfl (fun ls hl => ?_)
                refine z_iinc (lv' := [(4, .int (iI (i + 1))), (3, .int (iI 1)), (0, .ref m0), (1, .int (iI pp)), (2, .int (iI q))]) hx hb dX5_fits_92 hl (k := 1) rfl (by decide) rfl (fun ls hl => ?_)
                refine lv_goto (tgt := 39) hx hb dX5_fits_95 (by decide) ?_
                exact ih13 1 (i + 1) (by omega) (by
                        rcases hk with ⟨k1, k2⟩ | ⟨k1, k2⟩
                        · first
                            | exact absurd k1 (by omega)
                            | exact Or.inl ⟨rfl, (FitP_s (by omega)).mpr ⟨k2, fun h => absurd h (by omega)⟩⟩
                            | exact Or.inl ⟨rfl, (FitP_s (by omega)).mpr ⟨k2, fun _ => by assumption⟩⟩
                            | exact Or.inr ⟨rfl, fun h => absurd (((FitP_s (by omega)).mp h).2 (by omega)) (by assumption)⟩
                        · first
                            | exact absurd k1 (by omega)
                            | exact Or.inr ⟨rfl, fun h => k2 ((FitP_s (by omega)).mp h).1⟩) (by omega) _ _ _ hP hD hS (lv_sub hl [0, 1, 2, 3, 4] rfl)
              · --
                refine lv_aload_n hx hb dX5_fits_61 rfl (lv_at hl 2 rfl) ?_
                refine va_get (D := D) (ci := 5) (v := .ref a0) (C := RX5) (T := TX5) (N := 8) hx hb hts hiX5 hown hK hP 0 rfl rfl 0 (by decide) (hts (.fieldLink RX5 7 "BackwardSearchModel" "all" "[I") (by decide +kernel)) (fun _ h9 => h9) rfl dX5_fits_62 ?_
                refine lv_bipush (v := iI 62) hx hb dX5_fits_65 (by decide +kernel) ?_
                refine lv_iload hx hb dX5_fits_67 (lv_at hl 0 rfl) ?_
                refine z_add hx hb dX5_fits_69 ?_
                refine z_iald hx hb hK hP 1 rfl (by omega) (by omega) (by omega) dX5_fits_70 ?_
                refine z_top (show G (62 + i).toNat = gW G i.toNat from congrArg G (by omega)) ?_
                refine lv_aload_n hx hb dX5_fits_71 rfl (lv_at hl 2 rfl) ?_
                refine va_get (D := D) (ci := 5) (v := .ref a0) (C := RX5) (T := TX5) (N := 8) hx hb hts hiX5 hown hK hP 0 rfl rfl 0 (by decide) (hts (.fieldLink RX5 7 "BackwardSearchModel" "all" "[I") (by decide +kernel)) (fun _ h9 => h9) rfl dX5_fits_72 ?_
                refine lv_bipush (v := iI 62) hx hb dX5_fits_75 (by decide +kernel) ?_
                refine lv_iload hx hb dX5_fits_77 (lv_at hl 0 rfl) ?_
                refine z_add hx hb dX5_fits_79 ?_
                refine lv_iload_n hx hb dX5_fits_80 rfl (lv_at hl 4 rfl) ?_
                refine z_sub hx hb dX5_fits_81 ?_
                refine z_iald hx hb hK hP 1 rfl (by omega) (by omega) (by omega) dX5_fits_82 ?_
                refine z_top (show G ((62 + i) - q).toNat = gW G (i.toNat - q.toNat) from congrArg G (by omega)) ?_
                refine lv_icmp_ne (tgt := 90) hx hb dX5_fits_83 (by decide) (fun c17 => ?_) (fun c17 => ?_)
                · --
                  refine lv_iconst (v := iI 0) hx hb dX5_fits_90 rfl ?_
                  refine lv_istore_n (lv' := [(3, .int (iI 0)), (4, .int (iI i)), (0, .ref m0), (1, .int (iI pp)), (2, .int (iI q))]) hx hb dX5_fits_91 rfl hl (by decide) rfl (fun ls hl => ?_)
                  refine z_iinc (lv' := [(4, .int (iI (i + 1))), (3, .int (iI 0)), (0, .ref m0), (1, .int (iI pp)), (2, .int (iI q))]) hx hb dX5_fits_92 hl (k := 1) rfl (by decide) rfl (fun ls hl => ?_)
                  refine lv_goto (tgt := 39) hx hb dX5_fits_95 (by decide) ?_
                  exact ih13 0 (i + 1) (by omega) (by
                          rcases hk with ⟨k1, k2⟩ | ⟨k1, k2⟩
                          · first
                              | exact absurd k1 (by omega)
                              | exact Or.inl ⟨rfl, (FitP_s (by omega)).mpr ⟨k2, fun h => absurd h (by omega)⟩⟩
                              | exact Or.inl ⟨rfl, (FitP_s (by omega)).mpr ⟨k2, fun _ => by assumption⟩⟩
                              | exact Or.inr ⟨rfl, fun h => absurd (((FitP_s (by omega)).mp h).2 (by omega)) (by assumption)⟩
                          · first
                              | exact absurd k1 (by omega)
                              | exact Or.inr ⟨rfl, fun h => k2 ((FitP_s (by omega)).mp h).1⟩) (by omega) _ _ _ hP hD hS (lv_sub hl [0, 1, 2, 3, 4] rfl)
                · --
                  refine lv_iconst (v := iI 1) hx hb dX5_fits_86 rfl ?_
                  refine lv_goto (tgt := 91) hx hb dX5_fits_87 (by decide) ?_
                  refine lv_istore_n (lv' := [(3, .int (iI 1)), (4, .int (iI i)), (0, .ref m0), (1, .int (iI pp)), (2, .int (iI q))]) hx hb dX5_fits_91 rfl hl (by decide) rfl (fun ls hl => ?_)
                  refine z_iinc (lv' := [(4, .int (iI (i + 1))), (3, .int (iI 1)), (0, .ref m0), (1, .int (iI pp)), (2, .int (iI q))]) hx hb dX5_fits_92 hl (k := 1) rfl (by decide) rfl (fun ls hl => ?_)
                  refine lv_goto (tgt := 39) hx hb dX5_fits_95 (by decide) ?_
                  exact ih13 1 (i + 1) (by omega) (by
                          rcases hk with ⟨k1, k2⟩ | ⟨k1, k2⟩
                          · first
                              | exact absurd k1 (by omega)
                              | exact Or.inl ⟨rfl, (FitP_s (by omega)).mpr ⟨k2, fun h => absurd h (by omega)⟩⟩
                              | exact Or.inl ⟨rfl, (FitP_s (by omega)).mpr ⟨k2, fun _ => by assumption⟩⟩
                              | exact Or.inr ⟨rfl, fun h => absurd (((FitP_s (by omega)).mp h).2 (by omega)) (by assumption)⟩
                          · first
                              | exact absurd k1 (by omega)
                              | exact Or.inr ⟨rfl, fun h => k2 ((FitP_s (by omega)).mp h).1⟩) (by omega) _ _ _ hP hD hS (lv_sub hl [0, 1, 2, 3, 4] rfl)
      exact hloop13 (Int.toNat (nw - (pp + 1)) + 1) 1 (pp + 1) (by omega) (by first | exact Or.inl ⟨rfl, FitP_0.mpr (fun h => absurd h (by omega))⟩ | exact Or.inl ⟨rfl, FitP_0.mpr (fun _ => by assumption)⟩ | exact Or.inr ⟨rfl, fun h => FitP_0.mp h (by omega) (by assumption)⟩) (by omega) _ _ _ hP hD hS (lv_sub hl [0, 1, 2, 3, 4] rfl)
set_option maxHeartbeats 4000000 in
set_option maxRecDepth 100000 in
theorem c_X5_endSkipOf (l : Launch) (D : va_G) (cy : Nat → ClassId) (m0 : Nat) (a0 : Nat) (p0 : Nat) (q0 : Nat) (v0 : Nat) (t0 : Nat) (ho : Int) (th : Int) (tl : Int) (G : Nat → Int32) (nw : Int) (pp : Int) (h61 : G 61 = iI nw) (hnw : 0 ≤ nw ∧ nw ≤ 16) (hp1 : 0 ≤ pp ∧ pp < nw) : Ci l D cy yX5_endSkipOf wsX5_endSkipOf 1 24 [.ref m0, .int (iI pp)] [(m0, .inr (5, [.ref a0, .ref p0, .int (iI ho), .ref q0, .ref v0, .int (iI th), .ref t0, .int (iI tl)])), (a0, .inl (cy 0, 144, .inl G))] (fun (r : Int32) (u : Unit) => r = iI (endF nw.toNat (gW G) pp.toNat : Int)) (fun u : Unit => [(m0, .inr (5, [.ref a0, .ref p0, .int (iI ho), .ref q0, .ref v0, .int (iI th), .ref t0, .int (iI tl)])), (a0, .inl (cy 0, 144, .inl G))]) := by
  refine Ci_of (cc := cX5_endSkipOf) (maxL := 3) (ret := (some .int)) (by decide) rfl rfl ?_
  intro p e s m args below meth c A hx hb hr hts hown hlocks hml hP hK hD hT hA ls hl
  have hS : va_S A s.heap s.heap [] := va_S.rf
  have hl : lv_has ls 3 [(0, .ref m0), (1, .int (iI pp))] := hl
  refine lv_iconst (v := iI 1) hx hb dX5_endSkipOf_0 rfl ?_
  refine lv_istore_n (lv' := [(2, .int (iI 1)), (0, .ref m0), (1, .int (iI pp))]) hx hb dX5_endSkipOf_1 rfl hl (by decide) rfl (fun ls hl => ?_)
  have hloop1 : ∀ (n1 : Nat) (q : Int) (hq : 1 ≤ q ∧ q ≤ nw) (hmin : ∀ k : Nat, 1 ≤ k → (k : Int) < q → ¬ endP nw.toNat (gW G) pp.toNat k) (hm : nw - q < (n1 : Int)) (H : Heap) (locs : List Loc) (ls : Array Slot) (hP : va_P D vwCl [(m0, .inr (5, [.ref a0, .ref p0, .int (iI ho), .ref q0, .ref v0, .int (iI th), .ref t0, .int (iI tl)])), (a0, .inl (cy 0, 144, .inl G))] H) (hD : va_D A [(m0, .inr (5, [.ref a0, .ref p0, .int (iI ho), .ref q0, .ref v0, .int (iI th), .ref t0, .int (iI tl)])), (a0, .inl (cy 0, 144, .inl G))]) (hS : va_S A s.heap H locs) (hl : lv_has ls 3 [(2, .int (iI q)), (0, .ref m0), (1, .int (iI pp))]), W p l e ({ frames := 1, cells := 0, slots := 0, locals := 24 } : Room) s m args below meth c H locs 0 0 (MQ below (va_Qi (fun (r : Int32) (u : Unit) => r = iI (endF nw.toNat (gW G) pp.toNat : Int)) (fun u t => va_P D vwCl ((fun u : Unit => [(m0, .inr (5, [.ref a0, .ref p0, .int (iI ho), .ref q0, .ref v0, .int (iI th), .ref t0, .int (iI tl)])), (a0, .inl (cy 0, 144, .inl G))]) u) t.heap) A) args s 0 0 A) (F0 m 2 ls []) := by
    intro n1
    induction n1 with
    | zero =>
      intro q hq hmin hm; exact absurd hm (by omega)
    | succ n1 ih1 =>
      intro q hq hmin hm H locs ls hP hD hS hl
      refine lv_aload_n hx hb dX5_endSkipOf_2 rfl (lv_at hl 1 rfl) ?_
      refine lv_iload_n hx hb dX5_endSkipOf_3 rfl (lv_at hl 2 rfl) ?_
      refine lv_iload_n hx hb dX5_endSkipOf_4 rfl (lv_at hl 0 rfl) ?_
      refine z_cVi (n := 2) (b := m0) (As := [.int (iI pp), .int (iI q)]) (rest := []) ⟨hx, hb, hml, hown, hts⟩ (c_X5_fits l D cy m0 a0 p0 q0 v0 t0 ho th tl G nw pp q (by omega) (by omega) (by omega)) gX5_endSkipOf_X5_fits rfl (by decide +kernel) ⟨Nat.le_of_ble_eq_true rfl, Nat.le_of_ble_eq_true rfl⟩ hK hT hP hD hS hA [0, 1] rfl rfl 0 5 rfl rfl rfl (fun _ => rfl) rfl hl.1 rfl (Nat.le_of_ble_eq_true rfl) dX5_endSkipOf_5 ⟨Nat.zero_le _, Nat.zero_le _⟩ (fun r_2 u_2 H locs hw_2 hP hD hS => ?_)
      have hw_2 : ((endP nw.toNat (gW G) pp.toNat q.toNat) ∧ r_2 = iI 1) ∨ (¬ (endP nw.toNat (gW G) pp.toNat q.toNat) ∧ r_2 = iI 0) := hw_2
      have hP : va_P D vwCl [(m0, .inr (5, [.ref a0, .ref p0, .int (iI ho), .ref q0, .ref v0, .int (iI th), .ref t0, .int (iI tl)])), (a0, .inl (cy 0, 144, .inl G))] H := hP
      have hD : va_D A [(m0, .inr (5, [.ref a0, .ref p0, .int (iI ho), .ref q0, .ref v0, .int (iI th), .ref t0, .int (iI tl)])), (a0, .inl (cy 0, 144, .inl G))] := hD
      rcases hw_2 with ⟨h_2, rfl⟩ | ⟨h_2, rfl⟩
      · --
        refine z_if_ne (tgt := 17) hx hb (iI_t (by omega) (by omega)) dX5_endSkipOf_8 (by decide) (fun _ => ?_) (fun c3 => absurd c3 (by omega))
        refine lv_iload_n hx hb dX5_endSkipOf_17 rfl (lv_at hl 0 rfl) ?_
        exact z_iret hx hb hr hlocks hS () (show (iI q) = iI (endF nw.toNat (gW G) pp.toNat : Int) from (congrArg iI (end_at (by omega) hq.1 (by assumption) hmin))) hP dX5_endSkipOf_18
      · --
        refine z_if_ne (tgt := 17) hx hb (iI_t (by omega) (by omega)) dX5_endSkipOf_8 (by decide) (fun c4 => absurd c4 (by omega)) (fun _ => ?_)
        refine z_iinc (lv' := [(2, .int (iI (q + 1))), (0, .ref m0), (1, .int (iI pp))]) hx hb dX5_endSkipOf_11 hl (k := 0) rfl (by decide) rfl (fun ls hl => ?_)
        refine lv_goto (tgt := 2) hx hb dX5_endSkipOf_14 (by decide) ?_
        have hqn : ¬ q = nw := fun e => by
                have hh : ¬ endP nw.toNat (gW G) pp.toNat q.toNat := by assumption
                exact hh ⟨fun a => absurd a (by omega), fun i a b c => absurd c (by omega)⟩
        exact ih1 (q + 1) (by omega) (fun k a b => by
                by_cases e : (k : Int) = q
                · rw [show k = q.toNat by omega]; assumption
                · exact hmin k a (by omega)) (by omega) _ _ _ hP hD hS (lv_sub hl [0, 1, 2] rfl)
  exact hloop1 (Int.toNat (nw - 1) + 1) 1 (by omega) (fun k a b => by omega) (by omega) _ _ _ hP hD hS (lv_sub hl [0, 1, 2] rfl)
set_option maxHeartbeats 4000000 in
set_option maxRecDepth 100000 in
theorem c_X5_periodNow (l : Launch) (D : va_G) (cy : Nat → ClassId) (m0 : Nat) (a0 : Nat) (p0 : Nat) (q0 : Nat) (v0 : Nat) (t0 : Nat) (ho : Int) (th : Int) (tl : Int) (G : Nat → Int32) (nw : Int) (h61 : G 61 = iI nw) (hnw : 0 ≤ nw ∧ nw ≤ 16) : Ci l D cy yX5_periodNow wsX5_periodNow 0 0 [.ref m0] [(m0, .inr (5, [.ref a0, .ref p0, .int (iI ho), .ref q0, .ref v0, .int (iI th), .ref t0, .int (iI tl)])), (a0, .inl (cy 0, 144, .inl G))] (fun (r : Int32) (u : Unit) => r = iI (perF nw.toNat (gW G) : Int)) (fun u : Unit => [(m0, .inr (5, [.ref a0, .ref p0, .int (iI ho), .ref q0, .ref v0, .int (iI th), .ref t0, .int (iI tl)])), (a0, .inl (cy 0, 144, .inl G))]) := by
  refine Ci_of (cc := cX5_periodNow) (maxL := 5) (ret := (some .int)) (by decide) rfl rfl ?_
  intro p e s m args below meth c A hx hb hr hts hown hlocks hml hP hK hD hT hA ls hl
  have hS : va_S A s.heap s.heap [] := va_S.rf
  have hl : lv_has ls 5 [(0, .ref m0)] := hl
  have hiX5 : ∀ w ∈ wsX50, w ∈ wsX5_periodNow := by decide +kernel
  refine lv_aload_n hx hb dX5_periodNow_0 rfl (lv_at hl 0 rfl) ?_
  refine va_get (D := D) (ci := 5) (v := .ref a0) (C := RX5) (T := TX5) (N := 8) hx hb hts hiX5 hown hK hP 0 rfl rfl 0 (by decide) (hts (.fieldLink RX5 7 "BackwardSearchModel" "all" "[I") (by decide +kernel)) (fun _ h9 => h9) rfl dX5_periodNow_1 ?_
  refine lv_bipush (v := iI 61) hx hb dX5_periodNow_4 (by decide +kernel) ?_
  refine z_iald hx hb hK hP 1 rfl (by omega) (by omega) (by omega) dX5_periodNow_6 ?_
  refine z_top (show G (61 : Int).toNat = iI nw from h61) ?_
  refine lv_istore_n (lv' := [(1, .int (iI nw)), (0, .ref m0)]) hx hb dX5_periodNow_7 rfl hl (by decide) rfl (fun ls hl => ?_)
  refine lv_iload_n hx hb dX5_periodNow_8 rfl (lv_at hl 0 rfl) ?_
  refine z_if_ne (tgt := 16) hx hb (iI_t (by omega) (by omega)) dX5_periodNow_9 (by decide) (fun c1 => ?_) (fun c1 => ?_)
  · --
    refine lv_iconst (v := iI 1) hx hb dX5_periodNow_16 rfl ?_
    refine lv_istore_n (lv' := [(2, .int (iI 1)), (1, .int (iI nw)), (0, .ref m0)]) hx hb dX5_periodNow_17 rfl hl (by decide) rfl (fun ls hl => ?_)
    refine lv_iload_n hx hb dX5_periodNow_18 rfl (lv_at hl 1 rfl) ?_
    refine z_if_ne (tgt := 26) hx hb (iI_t (by omega) (by omega)) dX5_periodNow_19 (by decide) (fun c2 => ?_) (fun c2 => absurd c2 (by omega))
    refine lv_iconst (v := iI 0) hx hb dX5_periodNow_26 rfl ?_
    refine lv_istore_n (lv' := [(3, .int (iI 0)), (2, .int (iI 1)), (1, .int (iI nw)), (0, .ref m0)]) hx hb dX5_periodNow_27 rfl hl (by decide) rfl (fun ls hl => ?_)
    have hloop3 : ∀ (n3 : Nat) (pp : Int) (b : Int) (hb1 : 0 ≤ b ∧ b ≤ 1 ∧ 0 ≤ pp ∧ pp ≤ nw) (h00 : b = 0 → 1 ≤ pp ∧ ∀ k : Nat, 1 ≤ k → (k : Int) < pp → ¬ perP nw.toNat (gW G) k) (h11 : b = 1 → pp = (perF nw.toNat (gW G) : Int)) (hm : 2 * (nw - pp) + (1 - b) < (n3 : Int)) (H : Heap) (locs : List Loc) (ls : Array Slot) (hP : va_P D vwCl [(m0, .inr (5, [.ref a0, .ref p0, .int (iI ho), .ref q0, .ref v0, .int (iI th), .ref t0, .int (iI tl)])), (a0, .inl (cy 0, 144, .inl G))] H) (hD : va_D A [(m0, .inr (5, [.ref a0, .ref p0, .int (iI ho), .ref q0, .ref v0, .int (iI th), .ref t0, .int (iI tl)])), (a0, .inl (cy 0, 144, .inl G))]) (hS : va_S A s.heap H locs) (hl : lv_has ls 5 [(3, .int (iI b)), (2, .int (iI pp)), (1, .int (iI nw)), (0, .ref m0)]), W p l e ({ frames := 0, cells := 0, slots := 0, locals := 0 } : Room) s m args below meth c H locs 0 0 (MQ below (va_Qi (fun (r : Int32) (u : Unit) => r = iI (perF nw.toNat (gW G) : Int)) (fun u t => va_P D vwCl ((fun u : Unit => [(m0, .inr (5, [.ref a0, .ref p0, .int (iI ho), .ref q0, .ref v0, .int (iI th), .ref t0, .int (iI tl)])), (a0, .inl (cy 0, 144, .inl G))]) u) t.heap) A) args s 0 0 A) (F0 m 28 ls []) := by
      intro n3
      induction n3 with
      | zero =>
        intro pp b hb1 h00 h11 hm; exact absurd hm (by omega)
      | succ n3 ih3 =>
        intro pp b hb1 h00 h11 hm H locs ls hP hD hS hl
        refine lv_iload_n hx hb dX5_periodNow_28 rfl (lv_at hl 0 rfl) ?_
        refine z_if_ne (tgt := 99) hx hb (iI_t (by omega) (by omega)) dX5_periodNow_29 (by decide) (fun c4 => ?_) (fun c4 => ?_)
        · --
          refine lv_iload_n hx hb dX5_periodNow_99 rfl (lv_at hl 1 rfl) ?_
          exact z_iret hx hb hr hlocks hS () (show (iI pp) = iI (perF nw.toNat (gW G) : Int) from (congrArg iI (h11 (by omega)))) hP dX5_periodNow_100
        · --
          refine lv_iconst (v := iI 1) hx hb dX5_periodNow_32 rfl ?_
          refine lv_istore_n (lv' := [(3, .int (iI 1)), (2, .int (iI pp)), (1, .int (iI nw)), (0, .ref m0)]) hx hb dX5_periodNow_33 rfl hl (by decide) rfl (fun ls hl => ?_)
          refine lv_iload_n hx hb dX5_periodNow_34 rfl (lv_at hl 1 rfl) ?_
          refine lv_istore (lv' := [(4, .int (iI pp)), (3, .int (iI 1)), (2, .int (iI pp)), (1, .int (iI nw)), (0, .ref m0)]) hx hb dX5_periodNow_35 hl (by decide) rfl (fun ls hl => ?_)
          have hloop5 : ∀ (n5 : Nat) (k : Int) (i : Int) (hi : pp ≤ i ∧ i ≤ nw) (hk : (k = 1 ∧ PerQ (gW G) pp i) ∨ (k = 0 ∧ ¬ PerQ (gW G) pp i)) (hm : nw - i < (n5 : Int)) (H : Heap) (locs : List Loc) (ls : Array Slot) (hP : va_P D vwCl [(m0, .inr (5, [.ref a0, .ref p0, .int (iI ho), .ref q0, .ref v0, .int (iI th), .ref t0, .int (iI tl)])), (a0, .inl (cy 0, 144, .inl G))] H) (hD : va_D A [(m0, .inr (5, [.ref a0, .ref p0, .int (iI ho), .ref q0, .ref v0, .int (iI th), .ref t0, .int (iI tl)])), (a0, .inl (cy 0, 144, .inl G))]) (hS : va_S A s.heap H locs) (hl : lv_has ls 5 [(4, .int (iI i)), (3, .int (iI k)), (2, .int (iI pp)), (1, .int (iI nw)), (0, .ref m0)]), W p l e ({ frames := 0, cells := 0, slots := 0, locals := 0 } : Room) s m args below meth c H locs 0 0 (MQ below (va_Qi (fun (r : Int32) (u : Unit) => r = iI (perF nw.toNat (gW G) : Int)) (fun u t => va_P D vwCl ((fun u : Unit => [(m0, .inr (5, [.ref a0, .ref p0, .int (iI ho), .ref q0, .ref v0, .int (iI th), .ref t0, .int (iI tl)])), (a0, .inl (cy 0, 144, .inl G))]) u) t.heap) A) args s 0 0 A) (F0 m 37 ls []) := by
            intro n5
            induction n5 with
            | zero =>
              intro k i hi hk hm; exact absurd hm (by omega)
            | succ n5 ih5 =>
              intro k i hi hk hm H locs ls hP hD hS hl
              have hp1 := (h00 (by omega)).1
              refine lv_iload hx hb dX5_periodNow_37 (lv_at hl 0 rfl) ?_
              refine lv_iload_n hx hb dX5_periodNow_39 rfl (lv_at hl 3 rfl) ?_
              refine z_icmp_ge (tgt := 84) hx hb (iI_t (by omega) (by omega)) (iI_t (by omega) (by omega)) dX5_periodNow_40 (by decide) (fun c6 => ?_) (fun c6 => ?_)
              · --
                refine lv_iload_n hx hb dX5_periodNow_84 rfl (lv_at hl 2 rfl) ?_
                refine lv_iload_n hx hb dX5_periodNow_85 rfl (lv_at hl 1 rfl) ?_
                refine z_if_eq (tgt := 93) hx hb (iI_t (by omega) (by omega)) dX5_periodNow_86 (by decide) (fun c7 => ?_) (fun c7 => ?_)
                · --
                  refine lv_iconst (v := iI 1) hx hb dX5_periodNow_93 rfl ?_
                  refine z_add hx hb dX5_periodNow_94 ?_
                  refine lv_istore_n (lv' := [(2, .int (iI (pp + 1))), (4, .int (iI i)), (3, .int (iI k)), (1, .int (iI nw)), (0, .ref m0)]) hx hb dX5_periodNow_95 rfl hl (by decide) rfl (fun ls hl => ?_)
                  refine lv_goto (tgt := 28) hx hb dX5_periodNow_96 (by decide) ?_
                  have hz : i = nw := by omega
                  have hpp := h00 (by omega)
                  rw [hz, PerQ_all (by omega)] at hk
                  exact ih3 (pp + 1) k (by
                          rcases hk with ⟨k1, k2⟩ | ⟨k1, k2⟩
                          · omega
                          · have hnp : ¬ pp = nw := fun e => by
                              rw [e] at k2
                              exact k2 (fun i a b => absurd b (by omega))
                            omega) (fun hb0 => by
                          rcases hk with ⟨k1, k2⟩ | ⟨k1, k2⟩
                          · omega
                          · refine ⟨by omega, fun k a b => ?_⟩
                            by_cases e : (k : Int) = pp
                            · rw [show k = pp.toNat by omega]; exact k2
                            · exact hpp.2 k a (by omega)) (fun hb1 => by
                          rcases hk with ⟨k1, k2⟩ | ⟨k1, k2⟩
                          · have := per_at (by omega) k2 hpp.2
                            omega
                          · omega) (by
                          rcases hk with ⟨k1, k2⟩ | ⟨k1, k2⟩
                          · omega
                          · omega) _ _ _ hP hD hS (lv_sub hl [2, 0, 3, 4] rfl)
                · --
                  refine lv_iconst (v := iI 0) hx hb dX5_periodNow_89 rfl ?_
                  refine lv_goto (tgt := 94) hx hb dX5_periodNow_90 (by decide) ?_
                  refine z_add hx hb dX5_periodNow_94 ?_
                  refine lv_istore_n (lv' := [(2, .int (iI (pp + 0))), (4, .int (iI i)), (3, .int (iI k)), (1, .int (iI nw)), (0, .ref m0)]) hx hb dX5_periodNow_95 rfl hl (by decide) rfl (fun ls hl => ?_)
                  refine lv_goto (tgt := 28) hx hb dX5_periodNow_96 (by decide) ?_
                  have hz : i = nw := by omega
                  have hpp := h00 (by omega)
                  rw [hz, PerQ_all (by omega)] at hk
                  exact ih3 (pp + 0) k (by
                          rcases hk with ⟨k1, k2⟩ | ⟨k1, k2⟩
                          · omega
                          · have hnp : ¬ pp = nw := fun e => by
                              rw [e] at k2
                              exact k2 (fun i a b => absurd b (by omega))
                            omega) (fun hb0 => by
                          rcases hk with ⟨k1, k2⟩ | ⟨k1, k2⟩
                          · omega
                          · refine ⟨by omega, fun k a b => ?_⟩
                            by_cases e : (k : Int) = pp
                            · rw [show k = pp.toNat by omega]; exact k2
                            · exact hpp.2 k a (by omega)) (fun hb1 => by
                          rcases hk with ⟨k1, k2⟩ | ⟨k1, k2⟩
                          · have := per_at (by omega) k2 hpp.2
                            omega
                          · omega) (by
                          rcases hk with ⟨k1, k2⟩ | ⟨k1, k2⟩
                          · omega
                          · omega) _ _ _ hP hD hS (lv_sub hl [2, 0, 3, 4] rfl)
              · --
                refine lv_iload_n hx hb dX5_periodNow_43 rfl (lv_at hl 1 rfl) ?_
                refine z_if_eq (tgt := 76) hx hb (iI_t (by omega) (by omega)) dX5_periodNow_44 (by decide) (fun c8 => ?_) (fun c8 => ?_)
                · --
                  refine lv_iconst (v := iI 0) hx hb dX5_periodNow_76 rfl ?_
                  refine lv_istore_n (lv' := [(3, .int (iI 0)), (4, .int (iI i)), (2, .int (iI pp)), (1, .int (iI nw)), (0, .ref m0)]) hx hb dX5_periodNow_77 rfl hl (by decide) rfl (fun ls hl => ?_)
                  refine z_iinc (lv' := [(4, .int (iI (i + 1))), (3, .int (iI 0)), (2, .int (iI pp)), (1, .int (iI nw)), (0, .ref m0)]) hx hb dX5_periodNow_78 hl (k := 1) rfl (by decide) rfl (fun ls hl => ?_)
                  refine lv_goto (tgt := 37) hx hb dX5_periodNow_81 (by decide) ?_
                  exact ih5 0 (i + 1) (by omega) (by
                          rcases hk with ⟨k1, k2⟩ | ⟨k1, k2⟩
                          · first
                              | exact absurd k1 (by omega)
                              | exact Or.inl ⟨rfl, (PerQ_s (by omega)).mpr ⟨k2, by assumption⟩⟩
                              | exact Or.inr ⟨rfl, fun h => absurd ((PerQ_s (by omega)).mp h).2 (by assumption)⟩
                          · first
                              | exact absurd k1 (by omega)
                              | exact Or.inr ⟨rfl, fun h => k2 ((PerQ_s (by omega)).mp h).1⟩) (by omega) _ _ _ hP hD hS (lv_sub hl [0, 1, 2, 3, 4] rfl)
                · --
                  refine lv_aload_n hx hb dX5_periodNow_47 rfl (lv_at hl 4 rfl) ?_
                  refine va_get (D := D) (ci := 5) (v := .ref a0) (C := RX5) (T := TX5) (N := 8) hx hb hts hiX5 hown hK hP 0 rfl rfl 0 (by decide) (hts (.fieldLink RX5 7 "BackwardSearchModel" "all" "[I") (by decide +kernel)) (fun _ h9 => h9) rfl dX5_periodNow_48 ?_
                  refine lv_bipush (v := iI 62) hx hb dX5_periodNow_51 (by decide +kernel) ?_
                  refine lv_iload hx hb dX5_periodNow_53 (lv_at hl 0 rfl) ?_
                  refine z_add hx hb dX5_periodNow_55 ?_
                  refine z_iald hx hb hK hP 1 rfl (by omega) (by omega) (by omega) dX5_periodNow_56 ?_
                  refine z_top (show G (62 + i).toNat = gW G i.toNat from congrArg G (by omega)) ?_
                  refine lv_aload_n hx hb dX5_periodNow_57 rfl (lv_at hl 4 rfl) ?_
                  refine va_get (D := D) (ci := 5) (v := .ref a0) (C := RX5) (T := TX5) (N := 8) hx hb hts hiX5 hown hK hP 0 rfl rfl 0 (by decide) (hts (.fieldLink RX5 7 "BackwardSearchModel" "all" "[I") (by decide +kernel)) (fun _ h9 => h9) rfl dX5_periodNow_58 ?_
                  refine lv_bipush (v := iI 62) hx hb dX5_periodNow_61 (by decide +kernel) ?_
                  refine lv_iload hx hb dX5_periodNow_63 (lv_at hl 0 rfl) ?_
                  refine z_add hx hb dX5_periodNow_65 ?_
                  refine lv_iload_n hx hb dX5_periodNow_66 rfl (lv_at hl 2 rfl) ?_
                  refine z_sub hx hb dX5_periodNow_67 ?_
                  refine z_iald hx hb hK hP 1 rfl (by omega) (by omega) (by omega) dX5_periodNow_68 ?_
                  refine z_top (show G ((62 + i) - pp).toNat = gW G (i.toNat - pp.toNat) from congrArg G (by omega)) ?_
                  refine lv_icmp_ne (tgt := 76) hx hb dX5_periodNow_69 (by decide) (fun c9 => ?_) (fun c9 => ?_)
                  · --
                    refine lv_iconst (v := iI 0) hx hb dX5_periodNow_76 rfl ?_
                    refine lv_istore_n (lv' := [(3, .int (iI 0)), (4, .int (iI i)), (2, .int (iI pp)), (1, .int (iI nw)), (0, .ref m0)]) hx hb dX5_periodNow_77 rfl hl (by decide) rfl (fun ls hl => ?_)
                    refine z_iinc (lv' := [(4, .int (iI (i + 1))), (3, .int (iI 0)), (2, .int (iI pp)), (1, .int (iI nw)), (0, .ref m0)]) hx hb dX5_periodNow_78 hl (k := 1) rfl (by decide) rfl (fun ls hl => ?_)
                    refine lv_goto (tgt := 37) hx hb dX5_periodNow_81 (by decide) ?_
                    exact ih5 0 (i + 1) (by omega) (by
                            rcases hk with ⟨k1, k2⟩ | ⟨k1, k2⟩
                            · first
                                | exact absurd k1 (by omega)
                                | exact Or.inl ⟨rfl, (PerQ_s (by omega)).mpr ⟨k2, by assumption⟩⟩
                                | exact Or.inr ⟨rfl, fun h => absurd ((PerQ_s (by omega)).mp h).2 (by assumption)⟩
                            · first
                                | exact absurd k1 (by omega)
                                | exact Or.inr ⟨rfl, fun h => k2 ((PerQ_s (by omega)).mp h).1⟩) (by omega) _ _ _ hP hD hS (lv_sub hl [0, 1, 2, 3, 4] rfl)
                  · --
                    refine lv_iconst (v := iI 1) hx hb dX5_periodNow_72 rfl ?_
                    refine lv_goto (tgt := 77) hx hb dX5_periodNow_73 (by decide) ?_
                    refine lv_istore_n (lv' := [(3, .int (iI 1)), (4, .int (iI i)), (2, .int (iI pp)), (1, .int (iI nw)), (0, .ref m0)]) hx hb dX5_periodNow_77 rfl hl (by decide) rfl (fun ls hl => ?_)
                    refine z_iinc (lv' := [(4, .int (iI (i + 1))), (3, .int (iI 1)), (2, .int (iI pp)), (1, .int (iI nw)), (0, .ref m0)]) hx hb dX5_periodNow_78 hl (k := 1) rfl (by decide) rfl (fun ls hl => ?_)
                    refine lv_goto (tgt := 37) hx hb dX5_periodNow_81 (by decide) ?_
                    exact ih5 1 (i + 1) (by omega) (by
                            rcases hk with ⟨k1, k2⟩ | ⟨k1, k2⟩
                            · first
                                | exact absurd k1 (by omega)
                                | exact Or.inl ⟨rfl, (PerQ_s (by omega)).mpr ⟨k2, by assumption⟩⟩
                                | exact Or.inr ⟨rfl, fun h => absurd ((PerQ_s (by omega)).mp h).2 (by assumption)⟩
                            · first
                                | exact absurd k1 (by omega)
                                | exact Or.inr ⟨rfl, fun h => k2 ((PerQ_s (by omega)).mp h).1⟩) (by omega) _ _ _ hP hD hS (lv_sub hl [0, 1, 2, 3, 4] rfl)
          have hp1 := (h00 (by omega)).1
          exact hloop5 (Int.toNat (nw - pp) + 1) 1 pp (by omega) (Or.inl ⟨rfl, PerQ_0⟩) (by omega) _ _ _ hP hD hS (lv_sub hl [0, 1, 2, 3, 4] rfl)
    exact hloop3 (Int.toNat (2 * (nw - 1) + (1 - 0)) + 1) 1 0 (by omega) (fun h => by first | exact absurd h (by decide) | exact ⟨by omega, fun k a b => by omega⟩) (fun h => by first | exact absurd h (by decide) | (rw [show nw = 0 by omega]; rfl)) (by omega) _ _ _ hP hD hS (lv_sub hl [0, 1, 2, 3] rfl)
  · --
    refine lv_iconst (v := iI 0) hx hb dX5_periodNow_12 rfl ?_
    refine lv_goto (tgt := 17) hx hb dX5_periodNow_13 (by decide) ?_
    refine lv_istore_n (lv' := [(2, .int (iI 0)), (1, .int (iI nw)), (0, .ref m0)]) hx hb dX5_periodNow_17 rfl hl (by decide) rfl (fun ls hl => ?_)
    refine lv_iload_n hx hb dX5_periodNow_18 rfl (lv_at hl 1 rfl) ?_
    refine z_if_ne (tgt := 26) hx hb (iI_t (by omega) (by omega)) dX5_periodNow_19 (by decide) (fun c10 => absurd c10 (by omega)) (fun c10 => ?_)
    refine lv_iconst (v := iI 1) hx hb dX5_periodNow_22 rfl ?_
    refine lv_goto (tgt := 27) hx hb dX5_periodNow_23 (by decide) ?_
    refine lv_istore_n (lv' := [(3, .int (iI 1)), (2, .int (iI 0)), (1, .int (iI nw)), (0, .ref m0)]) hx hb dX5_periodNow_27 rfl hl (by decide) rfl (fun ls hl => ?_)
    have hloop11 : ∀ (n11 : Nat) (pp : Int) (b : Int) (hb1 : 0 ≤ b ∧ b ≤ 1 ∧ 0 ≤ pp ∧ pp ≤ nw) (h00 : b = 0 → 1 ≤ pp ∧ ∀ k : Nat, 1 ≤ k → (k : Int) < pp → ¬ perP nw.toNat (gW G) k) (h11 : b = 1 → pp = (perF nw.toNat (gW G) : Int)) (hm : 2 * (nw - pp) + (1 - b) < (n11 : Int)) (H : Heap) (locs : List Loc) (ls : Array Slot) (hP : va_P D vwCl [(m0, .inr (5, [.ref a0, .ref p0, .int (iI ho), .ref q0, .ref v0, .int (iI th), .ref t0, .int (iI tl)])), (a0, .inl (cy 0, 144, .inl G))] H) (hD : va_D A [(m0, .inr (5, [.ref a0, .ref p0, .int (iI ho), .ref q0, .ref v0, .int (iI th), .ref t0, .int (iI tl)])), (a0, .inl (cy 0, 144, .inl G))]) (hS : va_S A s.heap H locs) (hl : lv_has ls 5 [(3, .int (iI b)), (2, .int (iI pp)), (1, .int (iI nw)), (0, .ref m0)]), W p l e ({ frames := 0, cells := 0, slots := 0, locals := 0 } : Room) s m args below meth c H locs 0 0 (MQ below (va_Qi (fun (r : Int32) (u : Unit) => r = iI (perF nw.toNat (gW G) : Int)) (fun u t => va_P D vwCl ((fun u : Unit => [(m0, .inr (5, [.ref a0, .ref p0, .int (iI ho), .ref q0, .ref v0, .int (iI th), .ref t0, .int (iI tl)])), (a0, .inl (cy 0, 144, .inl G))]) u) t.heap) A) args s 0 0 A) (F0 m 28 ls []) := by
      intro n11
      induction n11 with
      | zero =>
        intro pp b hb1 h00 h11 hm; exact absurd hm (by omega)
      | succ n11 ih11 =>
        intro pp b hb1 h00 h11 hm H locs ls hP hD hS hl
        refine lv_iload_n hx hb dX5_periodNow_28 rfl (lv_at hl 0 rfl) ?_
        refine z_if_ne (tgt := 99) hx hb (iI_t (by omega) (by omega)) dX5_periodNow_29 (by decide) (fun c12 => ?_) (fun c12 => ?_)
        · --
          refine lv_iload_n hx hb dX5_periodNow_99 rfl (lv_at hl 1 rfl) ?_
          exact z_iret hx hb hr hlocks hS () (show (iI pp) = iI (perF nw.toNat (gW G) : Int) from (congrArg iI (h11 (by omega)))) hP dX5_periodNow_100
        · --
          refine lv_iconst (v := iI 1) hx hb dX5_periodNow_32 rfl ?_
          refine lv_istore_n (lv' := [(3, .int (iI 1)), (2, .int (iI pp)), (1, .int (iI nw)), (0, .ref m0)]) hx hb dX5_periodNow_33 rfl hl (by decide) rfl (fun ls hl => ?_)
          refine lv_iload_n hx hb dX5_periodNow_34 rfl (lv_at hl 1 rfl) ?_
          refine lv_istore (lv' := [(4, .int (iI pp)), (3, .int (iI 1)), (2, .int (iI pp)), (1, .int (iI nw)), (0, .ref m0)]) hx hb dX5_periodNow_35 hl (by decide) rfl (fun ls hl => ?_)
          have hloop13 : ∀ (n13 : Nat) (k : Int) (i : Int) (hi : pp ≤ i ∧ i ≤ nw) (hk : (k = 1 ∧ PerQ (gW G) pp i) ∨ (k = 0 ∧ ¬ PerQ (gW G) pp i)) (hm : nw - i < (n13 : Int)) (H : Heap) (locs : List Loc) (ls : Array Slot) (hP : va_P D vwCl [(m0, .inr (5, [.ref a0, .ref p0, .int (iI ho), .ref q0, .ref v0, .int (iI th), .ref t0, .int (iI tl)])), (a0, .inl (cy 0, 144, .inl G))] H) (hD : va_D A [(m0, .inr (5, [.ref a0, .ref p0, .int (iI ho), .ref q0, .ref v0, .int (iI th), .ref t0, .int (iI tl)])), (a0, .inl (cy 0, 144, .inl G))]) (hS : va_S A s.heap H locs) (hl : lv_has ls 5 [(4, .int (iI i)), (3, .int (iI k)), (2, .int (iI pp)), (1, .int (iI nw)), (0, .ref m0)]), W p l e ({ frames := 0, cells := 0, slots := 0, locals := 0 } : Room) s m args below meth c H locs 0 0 (MQ below (va_Qi (fun (r : Int32) (u : Unit) => r = iI (perF nw.toNat (gW G) : Int)) (fun u t => va_P D vwCl ((fun u : Unit => [(m0, .inr (5, [.ref a0, .ref p0, .int (iI ho), .ref q0, .ref v0, .int (iI th), .ref t0, .int (iI tl)])), (a0, .inl (cy 0, 144, .inl G))]) u) t.heap) A) args s 0 0 A) (F0 m 37 ls []) := by
            intro n13
            induction n13 with
            | zero =>
              intro k i hi hk hm; exact absurd hm (by omega)
            | succ n13 ih13 =>
              intro k i hi hk hm H locs ls hP hD hS hl
              have hp1 := (h00 (by omega)).1
              refine lv_iload hx hb dX5_periodNow_37 (lv_at hl 0 rfl) ?_
              refine lv_iload_n hx hb dX5_periodNow_39 rfl (lv_at hl 3 rfl) ?_
              refine z_icmp_ge (tgt := 84) hx hb (iI_t (by omega) (by omega)) (iI_t (by omega) (by omega)) dX5_periodNow_40 (by decide) (fun c14 => ?_) (fun c14 => ?_)
              · --
                refine lv_iload_n hx hb dX5_periodNow_84 rfl (lv_at hl 2 rfl) ?_
                refine lv_iload_n hx hb dX5_periodNow_85 rfl (lv_at hl 1 rfl) ?_
                refine z_if_eq (tgt := 93) hx hb (iI_t (by omega) (by omega)) dX5_periodNow_86 (by decide) (fun c15 => ?_) (fun c15 => ?_)
                · --
                  refine lv_iconst (v := iI 1) hx hb dX5_periodNow_93 rfl ?_
                  refine z_add hx hb dX5_periodNow_94 ?_
                  refine lv_istore_n (lv' := [(2, .int (iI (pp + 1))), (4, .int (iI i)), (3, .int (iI k)), (1, .int (iI nw)), (0, .ref m0)]) hx hb dX5_periodNow_95 rfl hl (by decide) rfl (fun ls hl => ?_)
                  refine lv_goto (tgt := 28) hx hb dX5_periodNow_96 (by decide) ?_
                  have hz : i = nw := by omega
                  have hpp := h00 (by omega)
                  rw [hz, PerQ_all (by omega)] at hk
                  exact ih11 (pp + 1) k (by
                          rcases hk with ⟨k1, k2⟩ | ⟨k1, k2⟩
                          · omega
                          · have hnp : ¬ pp = nw := fun e => by
                              rw [e] at k2
                              exact k2 (fun i a b => absurd b (by omega))
                            omega) (fun hb0 => by
                          rcases hk with ⟨k1, k2⟩ | ⟨k1, k2⟩
                          · omega
                          · refine ⟨by omega, fun k a b => ?_⟩
                            by_cases e : (k : Int) = pp
                            · rw [show k = pp.toNat by omega]; exact k2
                            · exact hpp.2 k a (by omega)) (fun hb1 => by
                          rcases hk with ⟨k1, k2⟩ | ⟨k1, k2⟩
                          · have := per_at (by omega) k2 hpp.2
                            omega
                          · omega) (by
                          rcases hk with ⟨k1, k2⟩ | ⟨k1, k2⟩
                          · omega
                          · omega) _ _ _ hP hD hS (lv_sub hl [2, 0, 3, 4] rfl)
                · --
                  refine lv_iconst (v := iI 0) hx hb dX5_periodNow_89 rfl ?_
                  refine lv_goto (tgt := 94) hx hb dX5_periodNow_90 (by decide) ?_
                  refine z_add hx hb dX5_periodNow_94 ?_
                  refine lv_istore_n (lv' := [(2, .int (iI (pp + 0))), (4, .int (iI i)), (3, .int (iI k)), (1, .int (iI nw)), (0, .ref m0)]) hx hb dX5_periodNow_95 rfl hl (by decide) rfl (fun ls hl => ?_)
                  refine lv_goto (tgt := 28) hx hb dX5_periodNow_96 (by decide) ?_
                  have hz : i = nw := by omega
                  have hpp := h00 (by omega)
                  rw [hz, PerQ_all (by omega)] at hk
                  exact ih11 (pp + 0) k (by
                          rcases hk with ⟨k1, k2⟩ | ⟨k1, k2⟩
                          · omega
                          · have hnp : ¬ pp = nw := fun e => by
                              rw [e] at k2
                              exact k2 (fun i a b => absurd b (by omega))
                            omega) (fun hb0 => by
                          rcases hk with ⟨k1, k2⟩ | ⟨k1, k2⟩
                          · omega
                          · refine ⟨by omega, fun k a b => ?_⟩
                            by_cases e : (k : Int) = pp
                            · rw [show k = pp.toNat by omega]; exact k2
                            · exact hpp.2 k a (by omega)) (fun hb1 => by
                          rcases hk with ⟨k1, k2⟩ | ⟨k1, k2⟩
                          · have := per_at (by omega) k2 hpp.2
                            omega
                          · omega) (by
                          rcases hk with ⟨k1, k2⟩ | ⟨k1, k2⟩
                          · omega
                          · omega) _ _ _ hP hD hS (lv_sub hl [2, 0, 3, 4] rfl)
              · --
                refine lv_iload_n hx hb dX5_periodNow_43 rfl (lv_at hl 1 rfl) ?_
                refine z_if_eq (tgt := 76) hx hb (iI_t (by omega) (by omega)) dX5_periodNow_44 (by decide) (fun c16 => ?_) (fun c16 => ?_)
                · --
                  refine lv_iconst (v := iI 0) hx hb dX5_periodNow_76 rfl ?_
                  refine lv_istore_n (lv' := [(3, .int (iI 0)), (4, .int (iI i)), (2, .int (iI pp)), (1, .int (iI nw)), (0, .ref m0)]) hx hb dX5_periodNow_77 rfl hl (by decide) rfl (fun ls hl => ?_)
                  refine z_iinc (lv' := [(4, .int (iI (i + 1))), (3, .int (iI 0)), (2, .int (iI pp)), (1, .int (iI nw)), (0, .ref m0)]) hx hb dX5_periodNow_78 hl (k := 1) rfl (by decide) rfl (fun ls hl => ?_)
                  refine lv_goto (tgt := 37) hx hb dX5_periodNow_81 (by decide) ?_
                  exact ih13 0 (i + 1) (by omega) (by
                          rcases hk with ⟨k1, k2⟩ | ⟨k1, k2⟩
                          · first
                              | exact absurd k1 (by omega)
                              | exact Or.inl ⟨rfl, (PerQ_s (by omega)).mpr ⟨k2, by assumption⟩⟩
                              | exact Or.inr ⟨rfl, fun h => absurd ((PerQ_s (by omega)).mp h).2 (by assumption)⟩
                          · first
                              | exact absurd k1 (by omega)
                              | exact Or.inr ⟨rfl, fun h => k2 ((PerQ_s (by omega)).mp h).1⟩) (by omega) _ _ _ hP hD hS (lv_sub hl [0, 1, 2, 3, 4] rfl)
                · --
                  refine lv_aload_n hx hb dX5_periodNow_47 rfl (lv_at hl 4 rfl) ?_
                  refine va_get (D := D) (ci := 5) (v := .ref a0) (C := RX5) (T := TX5) (N := 8) hx hb hts hiX5 hown hK hP 0 rfl rfl 0 (by decide) (hts (.fieldLink RX5 7 "BackwardSearchModel" "all" "[I") (by decide +kernel)) (fun _ h9 => h9) rfl dX5_periodNow_48 ?_
                  refine lv_bipush (v := iI 62) hx hb dX5_periodNow_51 (by decide +kernel) ?_
                  refine lv_iload hx hb dX5_periodNow_53 (lv_at hl 0 rfl) ?_
                  refine z_add hx hb dX5_periodNow_55 ?_
                  refine z_iald hx hb hK hP 1 rfl (by omega) (by omega) (by omega) dX5_periodNow_56 ?_
                  refine z_top (show G (62 + i).toNat = gW G i.toNat from congrArg G (by omega)) ?_
                  refine lv_aload_n hx hb dX5_periodNow_57 rfl (lv_at hl 4 rfl) ?_
                  refine va_get (D := D) (ci := 5) (v := .ref a0) (C := RX5) (T := TX5) (N := 8) hx hb hts hiX5 hown hK hP 0 rfl rfl 0 (by decide) (hts (.fieldLink RX5 7 "BackwardSearchModel" "all" "[I") (by decide +kernel)) (fun _ h9 => h9) rfl dX5_periodNow_58 ?_
                  refine lv_bipush (v := iI 62) hx hb dX5_periodNow_61 (by decide +kernel) ?_
                  refine lv_iload hx hb dX5_periodNow_63 (lv_at hl 0 rfl) ?_
                  refine z_add hx hb dX5_periodNow_65 ?_
                  refine lv_iload_n hx hb dX5_periodNow_66 rfl (lv_at hl 2 rfl) ?_
                  refine z_sub hx hb dX5_periodNow_67 ?_
                  refine z_iald hx hb hK hP 1 rfl (by omega) (by omega) (by omega) dX5_periodNow_68 ?_
                  refine z_top (show G ((62 + i) - pp).toNat = gW G (i.toNat - pp.toNat) from congrArg G (by omega)) ?_
                  refine lv_icmp_ne (tgt := 76) hx hb dX5_periodNow_69 (by decide) (fun c17 => ?_) (fun c17 => ?_)
                  · --
                    refine lv_iconst (v := iI 0) hx hb dX5_periodNow_76 rfl ?_
                    refine lv_istore_n (lv' := [(3, .int (iI 0)), (4, .int (iI i)), (2, .int (iI pp)), (1, .int (iI nw)), (0, .ref m0)]) hx hb dX5_periodNow_77 rfl hl (by decide) rfl (fun ls hl => ?_)
                    refine z_iinc (lv' := [(4, .int (iI (i + 1))), (3, .int (iI 0)), (2, .int (iI pp)), (1, .int (iI nw)), (0, .ref m0)]) hx hb dX5_periodNow_78 hl (k := 1) rfl (by decide) rfl (fun ls hl => ?_)
                    refine lv_goto (tgt := 37) hx hb dX5_periodNow_81 (by decide) ?_
                    exact ih13 0 (i + 1) (by omega) (by
                            rcases hk with ⟨k1, k2⟩ | ⟨k1, k2⟩
                            · first
                                | exact absurd k1 (by omega)
                                | exact Or.inl ⟨rfl, (PerQ_s (by omega)).mpr ⟨k2, by assumption⟩⟩
                                | exact Or.inr ⟨rfl, fun h => absurd ((PerQ_s (by omega)).mp h).2 (by assumption)⟩
                            · first
                                | exact absurd k1 (by omega)
                                | exact Or.inr ⟨rfl, fun h => k2 ((PerQ_s (by omega)).mp h).1⟩) (by omega) _ _ _ hP hD hS (lv_sub hl [0, 1, 2, 3, 4] rfl)
                  · --
                    refine lv_iconst (v := iI 1) hx hb dX5_periodNow_72 rfl ?_
                    refine lv_goto (tgt := 77) hx hb dX5_periodNow_73 (by decide) ?_
                    refine lv_istore_n (lv' := [(3, .int (iI 1)), (4, .int (iI i)), (2, .int (iI pp)), (1, .int (iI nw)), (0, .ref m0)]) hx hb dX5_periodNow_77 rfl hl (by decide) rfl (fun ls hl => ?_)
                    refine z_iinc (lv' := [(4, .int (iI (i + 1))), (3, .int (iI 1)), (2, .int (iI pp)), (1, .int (iI nw)), (0, .ref m0)]) hx hb dX5_periodNow_78 hl (k := 1) rfl (by decide) rfl (fun ls hl => ?_)
                    refine lv_goto (tgt := 37) hx hb dX5_periodNow_81 (by decide) ?_
                    exact ih13 1 (i + 1) (by omega) (by
                            rcases hk with ⟨k1, k2⟩ | ⟨k1, k2⟩
                            · first
                                | exact absurd k1 (by omega)
                                | exact Or.inl ⟨rfl, (PerQ_s (by omega)).mpr ⟨k2, by assumption⟩⟩
                                | exact Or.inr ⟨rfl, fun h => absurd ((PerQ_s (by omega)).mp h).2 (by assumption)⟩
                            · first
                                | exact absurd k1 (by omega)
                                | exact Or.inr ⟨rfl, fun h => k2 ((PerQ_s (by omega)).mp h).1⟩) (by omega) _ _ _ hP hD hS (lv_sub hl [0, 1, 2, 3, 4] rfl)
          have hp1 := (h00 (by omega)).1
          exact hloop13 (Int.toNat (nw - pp) + 1) 1 pp (by omega) (Or.inl ⟨rfl, PerQ_0⟩) (by omega) _ _ _ hP hD hS (lv_sub hl [0, 1, 2, 3, 4] rfl)
    exact hloop11 (Int.toNat (2 * (nw - 0) + (1 - 1)) + 1) 0 1 (by omega) (fun h => by first | exact absurd h (by decide) | exact ⟨by omega, fun k a b => by omega⟩) (fun h => by first | exact absurd h (by decide) | (rw [show nw = 0 by omega]; rfl)) (by omega) _ _ _ hP hD hS (lv_sub hl [0, 1, 2, 3] rfl)
set_option maxHeartbeats 4000000 in
set_option maxRecDepth 100000 in
theorem c_X5_difference (l : Launch) (D : va_G) (cy : Nat → ClassId) (m0 : Nat) (a0 : Nat) (p0 : Nat) (q0 : Nat) (v0 : Nat) (t0 : Nat) (ho : Int) (th : Int) (tl : Int) (G : Nat → Int32) (nw : Int) (x : Int) (h61 : G 61 = iI nw) (hnw : 0 ≤ nw ∧ nw ≤ 16) (hx1 : 0 ≤ x ∧ x + nw ≤ 60) : Ci l D cy yX5_difference wsX5_difference 0 0 [.ref m0, .int (iI x)] [(m0, .inr (5, [.ref a0, .ref p0, .int (iI ho), .ref q0, .ref v0, .int (iI th), .ref t0, .int (iI tl)])), (a0, .inl (cy 0, 144, .inl G))] (fun (r : Int32) (u : Unit) => r = iI (diffF nw.toNat (gW G) (gL G) x)) (fun u : Unit => [(m0, .inr (5, [.ref a0, .ref p0, .int (iI ho), .ref q0, .ref v0, .int (iI th), .ref t0, .int (iI tl)])), (a0, .inl (cy 0, 144, .inl G))]) := by
  refine Ci_of (cc := cX5_difference) (maxL := 3) (ret := (some .int)) (by decide) rfl rfl ?_
  intro p e s m args below meth c A hx hb hr hts hown hlocks hml hP hK hD hT hA ls hl
  have hS : va_S A s.heap s.heap [] := va_S.rf
  have hl : lv_has ls 3 [(0, .ref m0), (1, .int (iI x))] := hl
  have hiX5 : ∀ w ∈ wsX50, w ∈ wsX5_difference := by decide +kernel
  refine lv_aload_n hx hb dX5_difference_0 rfl (lv_at hl 0 rfl) ?_
  refine va_get (D := D) (ci := 5) (v := .ref a0) (C := RX5) (T := TX5) (N := 8) hx hb hts hiX5 hown hK hP 0 rfl rfl 0 (by decide) (hts (.fieldLink RX5 7 "BackwardSearchModel" "all" "[I") (by decide +kernel)) (fun _ h9 => h9) rfl dX5_difference_1 ?_
  refine lv_bipush (v := iI 61) hx hb dX5_difference_4 (by decide +kernel) ?_
  refine z_iald hx hb hK hP 1 rfl (by omega) (by omega) (by omega) dX5_difference_6 ?_
  refine z_top (show G (61 : Int).toNat = iI nw from h61) ?_
  refine lv_iconst (v := iI 1) hx hb dX5_difference_7 rfl ?_
  refine z_sub hx hb dX5_difference_8 ?_
  refine lv_istore_n (lv' := [(2, .int (iI (nw - 1))), (0, .ref m0), (1, .int (iI x))]) hx hb dX5_difference_9 rfl hl (by decide) rfl (fun ls hl => ?_)
  have hloop1 : ∀ (n1 : Nat) (i : Int) (hi : -1 ≤ i ∧ i < nw) (hg : ∀ j : Nat, i < j → j < nw.toNat → gW G j = gL G (x + (j : Int)).toNat) (hm : i + 1 < (n1 : Int)) (H : Heap) (locs : List Loc) (ls : Array Slot) (hP : va_P D vwCl [(m0, .inr (5, [.ref a0, .ref p0, .int (iI ho), .ref q0, .ref v0, .int (iI th), .ref t0, .int (iI tl)])), (a0, .inl (cy 0, 144, .inl G))] H) (hD : va_D A [(m0, .inr (5, [.ref a0, .ref p0, .int (iI ho), .ref q0, .ref v0, .int (iI th), .ref t0, .int (iI tl)])), (a0, .inl (cy 0, 144, .inl G))]) (hS : va_S A s.heap H locs) (hl : lv_has ls 3 [(2, .int (iI i)), (0, .ref m0), (1, .int (iI x))]), W p l e ({ frames := 0, cells := 0, slots := 0, locals := 0 } : Room) s m args below meth c H locs 0 0 (MQ below (va_Qi (fun (r : Int32) (u : Unit) => r = iI (diffF nw.toNat (gW G) (gL G) x)) (fun u t => va_P D vwCl ((fun u : Unit => [(m0, .inr (5, [.ref a0, .ref p0, .int (iI ho), .ref q0, .ref v0, .int (iI th), .ref t0, .int (iI tl)])), (a0, .inl (cy 0, 144, .inl G))]) u) t.heap) A) args s 0 0 A) (F0 m 10 ls []) := by
    intro n1
    induction n1 with
    | zero =>
      intro i hi hg hm; exact absurd hm (by omega)
    | succ n1 ih1 =>
      intro i hi hg hm H locs ls hP hD hS hl
      refine lv_iload_n hx hb dX5_difference_10 rfl (lv_at hl 0 rfl) ?_
      refine z_if_lt (tgt := 42) hx hb (iI_t (by omega) (by omega)) dX5_difference_11 (by decide) (fun c2 => ?_) (fun c2 => ?_)
      · --
        refine lv_iload_n hx hb dX5_difference_42 rfl (lv_at hl 0 rfl) ?_
        exact z_iret hx hb hr hlocks hS () (show (iI i) = iI (diffF nw.toNat (gW G) (gL G) x) from (congrArg iI (diffF_eq ⟨by omega, by omega, fun h => by first | assumption | omega, hg⟩))) hP dX5_difference_43
      · --
        refine lv_aload_n hx hb dX5_difference_14 rfl (lv_at hl 1 rfl) ?_
        refine va_get (D := D) (ci := 5) (v := .ref a0) (C := RX5) (T := TX5) (N := 8) hx hb hts hiX5 hown hK hP 0 rfl rfl 0 (by decide) (hts (.fieldLink RX5 7 "BackwardSearchModel" "all" "[I") (by decide +kernel)) (fun _ h9 => h9) rfl dX5_difference_15 ?_
        refine lv_bipush (v := iI 62) hx hb dX5_difference_18 (by decide +kernel) ?_
        refine lv_iload_n hx hb dX5_difference_20 rfl (lv_at hl 0 rfl) ?_
        refine z_add hx hb dX5_difference_21 ?_
        refine z_iald hx hb hK hP 1 rfl (by omega) (by omega) (by omega) dX5_difference_22 ?_
        refine z_top (show G (62 + i).toNat = gW G i.toNat from congrArg G (by omega)) ?_
        refine lv_aload_n hx hb dX5_difference_23 rfl (lv_at hl 1 rfl) ?_
        refine va_get (D := D) (ci := 5) (v := .ref a0) (C := RX5) (T := TX5) (N := 8) hx hb hts hiX5 hown hK hP 0 rfl rfl 0 (by decide) (hts (.fieldLink RX5 7 "BackwardSearchModel" "all" "[I") (by decide +kernel)) (fun _ h9 => h9) rfl dX5_difference_24 ?_
        refine lv_iconst (v := iI 1) hx hb dX5_difference_27 rfl ?_
        refine lv_iload_n hx hb dX5_difference_28 rfl (lv_at hl 2 rfl) ?_
        refine z_add hx hb dX5_difference_29 ?_
        refine lv_iload_n hx hb dX5_difference_30 rfl (lv_at hl 0 rfl) ?_
        refine z_add hx hb dX5_difference_31 ?_
        refine z_iald hx hb hK hP 1 rfl (by omega) (by omega) (by omega) dX5_difference_32 ?_
        refine z_top (show G ((1 + x) + i).toNat = gL G (x + i).toNat from congrArg G (by omega)) ?_
        refine lv_icmp_ne (tgt := 42) hx hb dX5_difference_33 (by decide) (fun c3 => ?_) (fun c3 => ?_)
        · --
          refine lv_iload_n hx hb dX5_difference_42 rfl (lv_at hl 0 rfl) ?_
          exact z_iret hx hb hr hlocks hS () (show (iI i) = iI (diffF nw.toNat (gW G) (gL G) x) from (congrArg iI (diffF_eq ⟨by omega, by omega, fun h => by first | assumption | omega, hg⟩))) hP dX5_difference_43
        · --
          refine z_iinc (lv' := [(2, .int (iI (i + (-1)))), (0, .ref m0), (1, .int (iI x))]) hx hb dX5_difference_36 hl (k := 0) rfl (by decide) rfl (fun ls hl => ?_)
          refine lv_goto (tgt := 10) hx hb dX5_difference_39 (by decide) ?_
          exact ih1 (i + (-1)) (by omega) (diff_step (by omega) hg (by assumption)) (by omega) _ _ _ hP hD hS (lv_sub hl [0, 1, 2] rfl)
  exact hloop1 (Int.toNat ((nw - 1) + 1) + 1) (nw - 1) (by omega) (fun j h1 h2 => absurd h2 (by omega)) (by omega) _ _ _ hP hD hS (lv_sub hl [0, 1, 2] rfl)
set_option maxHeartbeats 4000000 in
set_option maxRecDepth 100000 in
theorem c_X5_skipBy (l : Launch) (D : va_G) (cy : Nat → ClassId) (m0 : Nat) (a0 : Nat) (p0 : Nat) (q0 : Nat) (v0 : Nat) (t0 : Nat) (ho : Int) (th : Int) (tl : Int) (G : Nat → Int32) (nw : Int) (x : Int) (d : Int) (lr : Int) (er : Int) (h61 : G 61 = iI nw) (hnw : 0 ≤ nw ∧ nw ≤ 16) (hx1 : 0 ≤ x ∧ x + nw ≤ 60 ∧ -1 ≤ d ∧ d < nw) (hr1 : 0 ≤ lr ∧ lr ≤ 1 ∧ 0 ≤ er ∧ er ≤ 1) : Ci l D cy yX5_skipBy wsX5_skipBy 2 46 [.ref m0, .int (iI x), .int (iI d), .int (iI lr), .int (iI er)] [(m0, .inr (5, [.ref a0, .ref p0, .int (iI ho), .ref q0, .ref v0, .int (iI th), .ref t0, .int (iI tl)])), (a0, .inl (cy 0, 144, .inl G))] (fun (r : Int32) (u : Unit) => r = iI (skS lr er nw.toNat (gW G) (gL G) x d)) (fun u : Unit => [(m0, .inr (5, [.ref a0, .ref p0, .int (iI ho), .ref q0, .ref v0, .int (iI th), .ref t0, .int (iI tl)])), (a0, .inl (cy 0, 144, .inl G))]) := by
  refine Ci_of (cc := cX5_skipBy) (maxL := 8) (ret := (some .int)) (by decide) rfl rfl ?_
  intro p e s m args below meth c A hx hb hr hts hown hlocks hml hP hK hD hT hA ls hl
  have hS : va_S A s.heap s.heap [] := va_S.rf
  have hl : lv_has ls 8 [(0, .ref m0), (1, .int (iI x)), (2, .int (iI d)), (3, .int (iI lr)), (4, .int (iI er))] := hl
  have hiX5 : ∀ w ∈ wsX50, w ∈ wsX5_skipBy := by decide +kernel
  refine lv_iload_n hx hb dX5_skipBy_0 rfl (lv_at hl 2 rfl) ?_
  refine z_if_ge (tgt := 9) hx hb (iI_t (by omega) (by omega)) dX5_skipBy_1 (by decide) (fun c1 => ?_) (fun c1 => ?_)
  · --
    refine lv_iconst (v := iI 1) hx hb dX5_skipBy_9 rfl ?_
    refine lv_istore (lv' := [(5, .int (iI 1)), (0, .ref m0), (1, .int (iI x)), (2, .int (iI d)), (3, .int (iI lr)), (4, .int (iI er))]) hx hb dX5_skipBy_10 hl (by decide) rfl (fun ls hl => ?_)
    refine lv_iload_n hx hb dX5_skipBy_12 rfl (lv_at hl 4 rfl) ?_
    refine z_if_eq (tgt := 35) hx hb (iI_t (by omega) (by omega)) dX5_skipBy_13 (by decide) (fun c2 => ?_) (fun c2 => ?_)
    · --
      refine lv_iconst (v := iI 1) hx hb dX5_skipBy_35 rfl ?_
      refine lv_istore (lv' := [(6, .int (iI 1)), (5, .int (iI 1)), (0, .ref m0), (1, .int (iI x)), (2, .int (iI d)), (3, .int (iI lr)), (4, .int (iI er))]) hx hb dX5_skipBy_36 hl (by decide) rfl (fun ls hl => ?_)
      refine lv_iload hx hb dX5_skipBy_38 (lv_at hl 6 rfl) ?_
      refine z_if_eq (tgt := 51) hx hb (iI_t (by omega) (by omega)) dX5_skipBy_40 (by decide) (fun c3 => ?_) (fun c3 => ?_)
      · --
        refine lv_iconst (v := iI 1) hx hb dX5_skipBy_51 rfl ?_
        refine lv_istore (lv' := [(7, .int (iI 1)), (6, .int (iI 1)), (5, .int (iI 1)), (0, .ref m0), (1, .int (iI x)), (2, .int (iI d)), (3, .int (iI lr)), (4, .int (iI er))]) hx hb dX5_skipBy_52 hl (by decide) rfl (fun ls hl => ?_)
        refine lv_iload hx hb dX5_skipBy_54 (lv_at hl 1 rfl) ?_
        refine lv_iload hx hb dX5_skipBy_56 (lv_at hl 2 rfl) ?_
        refine z_icmp_le (tgt := 66) hx hb (iI_t (by omega) (by omega)) (iI_t (by omega) (by omega)) dX5_skipBy_58 (by decide) (fun _ => ?_) (fun c4 => absurd c4 (by omega))
        refine lv_iload hx hb dX5_skipBy_66 (lv_at hl 2 rfl) ?_
        refine lv_istore (lv' := [(5, .int (iI 1)), (7, .int (iI 1)), (6, .int (iI 1)), (0, .ref m0), (1, .int (iI x)), (2, .int (iI d)), (3, .int (iI lr)), (4, .int (iI er))]) hx hb dX5_skipBy_68 hl (by decide) rfl (fun ls hl => ?_)
        refine lv_iload hx hb dX5_skipBy_70 (lv_at hl 1 rfl) ?_
        refine lv_iload hx hb dX5_skipBy_72 (lv_at hl 0 rfl) ?_
        refine z_icmp_le (tgt := 82) hx hb (iI_t (by omega) (by omega)) (iI_t (by omega) (by omega)) dX5_skipBy_74 (by decide) (fun _ => ?_) (fun c5 => absurd c5 (by omega))
        refine lv_iload hx hb dX5_skipBy_82 (lv_at hl 0 rfl) ?_
        exact z_iret hx hb hr hlocks hS () (show (iI 1) = iI (skS lr er nw.toNat (gW G) (gL G) x d) from (congrArg iI (by simp only [skS]; omega))) hP dX5_skipBy_84
      · --
        refine lv_aload_n hx hb dX5_skipBy_43 rfl (lv_at hl 2 rfl) ?_
        refine lv_iload_n hx hb dX5_skipBy_44 rfl (lv_at hl 4 rfl) ?_
        refine z_cVi (n := 1) (b := m0) (As := [.int (iI d)]) (rest := []) ⟨hx, hb, hml, hown, hts⟩ (c_X5_endSkipOf l D cy m0 a0 p0 q0 v0 t0 ho th tl G nw d (by omega) (by omega) (by omega)) gX5_skipBy_X5_endSkipOf rfl (by decide +kernel) ⟨Nat.le_of_ble_eq_true rfl, Nat.le_of_ble_eq_true rfl⟩ hK hT hP hD hS hA [0, 1] rfl rfl 0 5 rfl rfl rfl (fun _ => rfl) rfl hl.1 rfl (Nat.le_of_ble_eq_true rfl) dX5_skipBy_45 ⟨Nat.zero_le _, Nat.zero_le _⟩ (fun r_6 u_6 H locs hw_6 hP hD hS => ?_)
        have hw_6 : r_6 = iI (endF nw.toNat (gW G) d.toNat : Int) := hw_6
        have hP : va_P D vwCl [(m0, .inr (5, [.ref a0, .ref p0, .int (iI ho), .ref q0, .ref v0, .int (iI th), .ref t0, .int (iI tl)])), (a0, .inl (cy 0, 144, .inl G))] H := hP
        have hD : va_D A [(m0, .inr (5, [.ref a0, .ref p0, .int (iI ho), .ref q0, .ref v0, .int (iI th), .ref t0, .int (iI tl)])), (a0, .inl (cy 0, 144, .inl G))] := hD
        obtain rfl := hw_6
        have hes := endF_spec (m := nw.toNat) (W := gW G) (j := d.toNat) (by omega)
        have hes2 := hes.2.1
        have hes3 := hes.2.2.1
        refine lv_goto (tgt := 52) hx hb dX5_skipBy_48 (by decide) ?_
        refine lv_istore (lv' := [(7, .int (iI (endF nw.toNat (gW G) d.toNat : Int))), (6, .int (iI 1)), (5, .int (iI 1)), (0, .ref m0), (1, .int (iI x)), (2, .int (iI d)), (3, .int (iI lr)), (4, .int (iI er))]) hx hb dX5_skipBy_52 hl (by decide) rfl (fun ls hl => ?_)
        refine lv_iload hx hb dX5_skipBy_54 (lv_at hl 1 rfl) ?_
        refine lv_iload hx hb dX5_skipBy_56 (lv_at hl 2 rfl) ?_
        refine z_icmp_le (tgt := 66) hx hb (iI_t (by omega) (by omega)) (iI_t (by omega) (by omega)) dX5_skipBy_58 (by decide) (fun _ => ?_) (fun c7 => absurd c7 (by omega))
        refine lv_iload hx hb dX5_skipBy_66 (lv_at hl 2 rfl) ?_
        refine lv_istore (lv' := [(5, .int (iI 1)), (7, .int (iI (endF nw.toNat (gW G) d.toNat : Int))), (6, .int (iI 1)), (0, .ref m0), (1, .int (iI x)), (2, .int (iI d)), (3, .int (iI lr)), (4, .int (iI er))]) hx hb dX5_skipBy_68 hl (by decide) rfl (fun ls hl => ?_)
        refine lv_iload hx hb dX5_skipBy_70 (lv_at hl 1 rfl) ?_
        refine lv_iload hx hb dX5_skipBy_72 (lv_at hl 0 rfl) ?_
        refine z_icmp_le (tgt := 82) hx hb (iI_t (by omega) (by omega)) (iI_t (by omega) (by omega)) dX5_skipBy_74 (by decide) (fun c8 => ?_) (fun c8 => ?_)
        · --
          refine lv_iload hx hb dX5_skipBy_82 (lv_at hl 0 rfl) ?_
          exact z_iret hx hb hr hlocks hS () (show (iI 1) = iI (skS lr er nw.toNat (gW G) (gL G) x d) from (congrArg iI (by simp only [skS]; omega))) hP dX5_skipBy_84
        · --
          refine lv_iload hx hb dX5_skipBy_77 (lv_at hl 1 rfl) ?_
          refine lv_goto (tgt := 84) hx hb dX5_skipBy_79 (by decide) ?_
          exact z_iret hx hb hr hlocks hS () (show (iI (endF nw.toNat (gW G) d.toNat : Int)) = iI (skS lr er nw.toNat (gW G) (gL G) x d) from (congrArg iI (by simp only [skS]; omega))) hP dX5_skipBy_84
    · --
      refine lv_iload_n hx hb dX5_skipBy_16 rfl (lv_at hl 3 rfl) ?_
      refine lv_aload_n hx hb dX5_skipBy_17 rfl (lv_at hl 1 rfl) ?_
      refine lv_aload_n hx hb dX5_skipBy_18 rfl (lv_at hl 1 rfl) ?_
      refine va_get (D := D) (ci := 5) (v := .ref a0) (C := RX5) (T := TX5) (N := 8) hx hb hts hiX5 hown hK hP 0 rfl rfl 0 (by decide) (hts (.fieldLink RX5 7 "BackwardSearchModel" "all" "[I") (by decide +kernel)) (fun _ h9 => h9) rfl dX5_skipBy_19 ?_
      refine lv_iconst (v := iI 1) hx hb dX5_skipBy_22 rfl ?_
      refine lv_iload_n hx hb dX5_skipBy_23 rfl (lv_at hl 2 rfl) ?_
      refine z_add hx hb dX5_skipBy_24 ?_
      refine lv_iload_n hx hb dX5_skipBy_25 rfl (lv_at hl 3 rfl) ?_
      refine z_add hx hb dX5_skipBy_26 ?_
      refine z_iald hx hb hK hP 1 rfl (by omega) (by omega) (by omega) dX5_skipBy_27 ?_
      refine z_top (show G ((1 + x) + d).toNat = gL G (x + d).toNat from congrArg G (by omega)) ?_
      refine z_cVi (n := 1) (b := m0) (As := [.int (gL G (x + d).toNat)]) (rest := [.int (iI d)]) ⟨hx, hb, hml, hown, hts⟩ (c_X5_lastOf l D cy m0 a0 p0 q0 v0 t0 ho th tl G nw (gL G (x + d).toNat) (by omega) (by omega)) gX5_skipBy_X5_lastOf rfl (by decide +kernel) ⟨Nat.le_of_ble_eq_true rfl, Nat.le_of_ble_eq_true rfl⟩ hK hT hP hD hS hA [0, 1] rfl rfl 0 5 rfl rfl rfl (fun _ => rfl) rfl hl.1 rfl (Nat.le_of_ble_eq_true rfl) dX5_skipBy_28 ⟨Nat.zero_le _, Nat.zero_le _⟩ (fun r_9 u_9 H locs hw_9 hP hD hS => ?_)
      have hw_9 : r_9 = iI (lastF nw.toNat (gW G) (gL G (x + d).toNat)) := hw_9
      have hP : va_P D vwCl [(m0, .inr (5, [.ref a0, .ref p0, .int (iI ho), .ref q0, .ref v0, .int (iI th), .ref t0, .int (iI tl)])), (a0, .inl (cy 0, 144, .inl G))] H := hP
      have hD : va_D A [(m0, .inr (5, [.ref a0, .ref p0, .int (iI ho), .ref q0, .ref v0, .int (iI th), .ref t0, .int (iI tl)])), (a0, .inl (cy 0, 144, .inl G))] := hD
      obtain rfl := hw_9
      have hlr := lastF_rng nw.toNat (gW G) (gL G (x + d).toNat)
      refine z_sub hx hb dX5_skipBy_31 ?_
      refine lv_goto (tgt := 36) hx hb dX5_skipBy_32 (by decide) ?_
      refine lv_istore (lv' := [(6, .int (iI (d - (lastF nw.toNat (gW G) (gL G (x + d).toNat))))), (5, .int (iI 1)), (0, .ref m0), (1, .int (iI x)), (2, .int (iI d)), (3, .int (iI lr)), (4, .int (iI er))]) hx hb dX5_skipBy_36 hl (by decide) rfl (fun ls hl => ?_)
      refine lv_iload hx hb dX5_skipBy_38 (lv_at hl 6 rfl) ?_
      refine z_if_eq (tgt := 51) hx hb (iI_t (by omega) (by omega)) dX5_skipBy_40 (by decide) (fun c10 => ?_) (fun c10 => ?_)
      · --
        refine lv_iconst (v := iI 1) hx hb dX5_skipBy_51 rfl ?_
        refine lv_istore (lv' := [(7, .int (iI 1)), (6, .int (iI (d - (lastF nw.toNat (gW G) (gL G (x + d).toNat))))), (5, .int (iI 1)), (0, .ref m0), (1, .int (iI x)), (2, .int (iI d)), (3, .int (iI lr)), (4, .int (iI er))]) hx hb dX5_skipBy_52 hl (by decide) rfl (fun ls hl => ?_)
        refine lv_iload hx hb dX5_skipBy_54 (lv_at hl 1 rfl) ?_
        refine lv_iload hx hb dX5_skipBy_56 (lv_at hl 2 rfl) ?_
        refine z_icmp_le (tgt := 66) hx hb (iI_t (by omega) (by omega)) (iI_t (by omega) (by omega)) dX5_skipBy_58 (by decide) (fun c11 => ?_) (fun c11 => ?_)
        · --
          refine lv_iload hx hb dX5_skipBy_66 (lv_at hl 2 rfl) ?_
          refine lv_istore (lv' := [(5, .int (iI 1)), (7, .int (iI 1)), (6, .int (iI (d - (lastF nw.toNat (gW G) (gL G (x + d).toNat))))), (0, .ref m0), (1, .int (iI x)), (2, .int (iI d)), (3, .int (iI lr)), (4, .int (iI er))]) hx hb dX5_skipBy_68 hl (by decide) rfl (fun ls hl => ?_)
          refine lv_iload hx hb dX5_skipBy_70 (lv_at hl 1 rfl) ?_
          refine lv_iload hx hb dX5_skipBy_72 (lv_at hl 0 rfl) ?_
          refine z_icmp_le (tgt := 82) hx hb (iI_t (by omega) (by omega)) (iI_t (by omega) (by omega)) dX5_skipBy_74 (by decide) (fun _ => ?_) (fun c12 => absurd c12 (by omega))
          refine lv_iload hx hb dX5_skipBy_82 (lv_at hl 0 rfl) ?_
          exact z_iret hx hb hr hlocks hS () (show (iI 1) = iI (skS lr er nw.toNat (gW G) (gL G) x d) from (congrArg iI (by simp only [skS]; omega))) hP dX5_skipBy_84
        · --
          refine lv_iload hx hb dX5_skipBy_61 (lv_at hl 1 rfl) ?_
          refine lv_goto (tgt := 68) hx hb dX5_skipBy_63 (by decide) ?_
          refine lv_istore (lv' := [(5, .int (iI (d - (lastF nw.toNat (gW G) (gL G (x + d).toNat))))), (7, .int (iI 1)), (6, .int (iI (d - (lastF nw.toNat (gW G) (gL G (x + d).toNat))))), (0, .ref m0), (1, .int (iI x)), (2, .int (iI d)), (3, .int (iI lr)), (4, .int (iI er))]) hx hb dX5_skipBy_68 hl (by decide) rfl (fun ls hl => ?_)
          refine lv_iload hx hb dX5_skipBy_70 (lv_at hl 1 rfl) ?_
          refine lv_iload hx hb dX5_skipBy_72 (lv_at hl 0 rfl) ?_
          refine z_icmp_le (tgt := 82) hx hb (iI_t (by omega) (by omega)) (iI_t (by omega) (by omega)) dX5_skipBy_74 (by decide) (fun c13 => ?_) (fun c13 => ?_)
          · --
            refine lv_iload hx hb dX5_skipBy_82 (lv_at hl 0 rfl) ?_
            exact z_iret hx hb hr hlocks hS () (show (iI (d - (lastF nw.toNat (gW G) (gL G (x + d).toNat)))) = iI (skS lr er nw.toNat (gW G) (gL G) x d) from (congrArg iI (by simp only [skS]; omega))) hP dX5_skipBy_84
          · --
            refine lv_iload hx hb dX5_skipBy_77 (lv_at hl 1 rfl) ?_
            refine lv_goto (tgt := 84) hx hb dX5_skipBy_79 (by decide) ?_
            exact z_iret hx hb hr hlocks hS () (show (iI 1) = iI (skS lr er nw.toNat (gW G) (gL G) x d) from (congrArg iI (by simp only [skS]; omega))) hP dX5_skipBy_84
      · --
        refine lv_aload_n hx hb dX5_skipBy_43 rfl (lv_at hl 2 rfl) ?_
        refine lv_iload_n hx hb dX5_skipBy_44 rfl (lv_at hl 4 rfl) ?_
        refine z_cVi (n := 1) (b := m0) (As := [.int (iI d)]) (rest := []) ⟨hx, hb, hml, hown, hts⟩ (c_X5_endSkipOf l D cy m0 a0 p0 q0 v0 t0 ho th tl G nw d (by omega) (by omega) (by omega)) gX5_skipBy_X5_endSkipOf rfl (by decide +kernel) ⟨Nat.le_of_ble_eq_true rfl, Nat.le_of_ble_eq_true rfl⟩ hK hT hP hD hS hA [0, 1] rfl rfl 0 5 rfl rfl rfl (fun _ => rfl) rfl hl.1 rfl (Nat.le_of_ble_eq_true rfl) dX5_skipBy_45 ⟨Nat.zero_le _, Nat.zero_le _⟩ (fun r_14 u_14 H locs hw_14 hP hD hS => ?_)
        have hw_14 : r_14 = iI (endF nw.toNat (gW G) d.toNat : Int) := hw_14
        have hP : va_P D vwCl [(m0, .inr (5, [.ref a0, .ref p0, .int (iI ho), .ref q0, .ref v0, .int (iI th), .ref t0, .int (iI tl)])), (a0, .inl (cy 0, 144, .inl G))] H := hP
        have hD : va_D A [(m0, .inr (5, [.ref a0, .ref p0, .int (iI ho), .ref q0, .ref v0, .int (iI th), .ref t0, .int (iI tl)])), (a0, .inl (cy 0, 144, .inl G))] := hD
        obtain rfl := hw_14
        have hes := endF_spec (m := nw.toNat) (W := gW G) (j := d.toNat) (by omega)
        have hes2 := hes.2.1
        have hes3 := hes.2.2.1
        refine lv_goto (tgt := 52) hx hb dX5_skipBy_48 (by decide) ?_
        refine lv_istore (lv' := [(7, .int (iI (endF nw.toNat (gW G) d.toNat : Int))), (6, .int (iI (d - (lastF nw.toNat (gW G) (gL G (x + d).toNat))))), (5, .int (iI 1)), (0, .ref m0), (1, .int (iI x)), (2, .int (iI d)), (3, .int (iI lr)), (4, .int (iI er))]) hx hb dX5_skipBy_52 hl (by decide) rfl (fun ls hl => ?_)
        refine lv_iload hx hb dX5_skipBy_54 (lv_at hl 1 rfl) ?_
        refine lv_iload hx hb dX5_skipBy_56 (lv_at hl 2 rfl) ?_
        refine z_icmp_le (tgt := 66) hx hb (iI_t (by omega) (by omega)) (iI_t (by omega) (by omega)) dX5_skipBy_58 (by decide) (fun c15 => ?_) (fun c15 => ?_)
        · --
          refine lv_iload hx hb dX5_skipBy_66 (lv_at hl 2 rfl) ?_
          refine lv_istore (lv' := [(5, .int (iI 1)), (7, .int (iI (endF nw.toNat (gW G) d.toNat : Int))), (6, .int (iI (d - (lastF nw.toNat (gW G) (gL G (x + d).toNat))))), (0, .ref m0), (1, .int (iI x)), (2, .int (iI d)), (3, .int (iI lr)), (4, .int (iI er))]) hx hb dX5_skipBy_68 hl (by decide) rfl (fun ls hl => ?_)
          refine lv_iload hx hb dX5_skipBy_70 (lv_at hl 1 rfl) ?_
          refine lv_iload hx hb dX5_skipBy_72 (lv_at hl 0 rfl) ?_
          refine z_icmp_le (tgt := 82) hx hb (iI_t (by omega) (by omega)) (iI_t (by omega) (by omega)) dX5_skipBy_74 (by decide) (fun c16 => ?_) (fun c16 => ?_)
          · --
            refine lv_iload hx hb dX5_skipBy_82 (lv_at hl 0 rfl) ?_
            exact z_iret hx hb hr hlocks hS () (show (iI 1) = iI (skS lr er nw.toNat (gW G) (gL G) x d) from (congrArg iI (by simp only [skS]; omega))) hP dX5_skipBy_84
          · --
            refine lv_iload hx hb dX5_skipBy_77 (lv_at hl 1 rfl) ?_
            refine lv_goto (tgt := 84) hx hb dX5_skipBy_79 (by decide) ?_
            exact z_iret hx hb hr hlocks hS () (show (iI (endF nw.toNat (gW G) d.toNat : Int)) = iI (skS lr er nw.toNat (gW G) (gL G) x d) from (congrArg iI (by simp only [skS]; omega))) hP dX5_skipBy_84
        · --
          refine lv_iload hx hb dX5_skipBy_61 (lv_at hl 1 rfl) ?_
          refine lv_goto (tgt := 68) hx hb dX5_skipBy_63 (by decide) ?_
          refine lv_istore (lv' := [(5, .int (iI (d - (lastF nw.toNat (gW G) (gL G (x + d).toNat))))), (7, .int (iI (endF nw.toNat (gW G) d.toNat : Int))), (6, .int (iI (d - (lastF nw.toNat (gW G) (gL G (x + d).toNat))))), (0, .ref m0), (1, .int (iI x)), (2, .int (iI d)), (3, .int (iI lr)), (4, .int (iI er))]) hx hb dX5_skipBy_68 hl (by decide) rfl (fun ls hl => ?_)
          refine lv_iload hx hb dX5_skipBy_70 (lv_at hl 1 rfl) ?_
          refine lv_iload hx hb dX5_skipBy_72 (lv_at hl 0 rfl) ?_
          refine z_icmp_le (tgt := 82) hx hb (iI_t (by omega) (by omega)) (iI_t (by omega) (by omega)) dX5_skipBy_74 (by decide) (fun c17 => ?_) (fun c17 => ?_)
          · --
            refine lv_iload hx hb dX5_skipBy_82 (lv_at hl 0 rfl) ?_
            exact z_iret hx hb hr hlocks hS () (show (iI (d - (lastF nw.toNat (gW G) (gL G (x + d).toNat)))) = iI (skS lr er nw.toNat (gW G) (gL G) x d) from (congrArg iI (by simp only [skS]; omega))) hP dX5_skipBy_84
          · --
            refine lv_iload hx hb dX5_skipBy_77 (lv_at hl 1 rfl) ?_
            refine lv_goto (tgt := 84) hx hb dX5_skipBy_79 (by decide) ?_
            exact z_iret hx hb hr hlocks hS () (show (iI (endF nw.toNat (gW G) d.toNat : Int)) = iI (skS lr er nw.toNat (gW G) (gL G) x d) from (congrArg iI (by simp only [skS]; omega))) hP dX5_skipBy_84
  · --
    refine lv_aload_n hx hb dX5_skipBy_4 rfl (lv_at hl 0 rfl) ?_
    refine z_cVi (n := 0) (b := m0) (As := []) (rest := []) ⟨hx, hb, hml, hown, hts⟩ (c_X5_periodNow l D cy m0 a0 p0 q0 v0 t0 ho th tl G nw (by omega) (by omega)) gX5_skipBy_X5_periodNow rfl (by decide +kernel) ⟨Nat.le_of_ble_eq_true rfl, Nat.le_of_ble_eq_true rfl⟩ hK hT hP hD hS hA [0, 1] rfl rfl 0 5 rfl rfl rfl (fun _ => rfl) rfl hl.1 rfl (Nat.le_of_ble_eq_true rfl) dX5_skipBy_5 ⟨Nat.zero_le _, Nat.zero_le _⟩ (fun r_18 u_18 H locs hw_18 hP hD hS => ?_)
    have hw_18 : r_18 = iI (perF nw.toNat (gW G) : Int) := hw_18
    have hP : va_P D vwCl [(m0, .inr (5, [.ref a0, .ref p0, .int (iI ho), .ref q0, .ref v0, .int (iI th), .ref t0, .int (iI tl)])), (a0, .inl (cy 0, 144, .inl G))] H := hP
    have hD : va_D A [(m0, .inr (5, [.ref a0, .ref p0, .int (iI ho), .ref q0, .ref v0, .int (iI th), .ref t0, .int (iI tl)])), (a0, .inl (cy 0, 144, .inl G))] := hD
    obtain rfl := hw_18
    exact z_iret hx hb hr hlocks hS () (show (iI (perF nw.toNat (gW G) : Int)) = iI (skS lr er nw.toNat (gW G) (gL G) x d) from (congrArg iI (by simp only [skS]; omega))) hP dX5_skipBy_8
set_option maxHeartbeats 4000000 in
set_option maxRecDepth 100000 in
theorem c_X5_isOverAt (l : Launch) (D : va_G) (cy : Nat → ClassId) (m0 : Nat) (a0 : Nat) (p0 : Nat) (q0 : Nat) (v0 : Nat) (t0 : Nat) (ho : Int) (th : Int) (tl : Int) (G : Nat → Int32) (nw : Int) (nl : Int) (x : Int) (h61 : G 61 = iI nw) (hnw : 0 ≤ nw ∧ nw ≤ 16) (h0 : G 0 = iI nl) (hnl : 0 ≤ nl ∧ nl ≤ 60) (hx1 : 0 ≤ x ∧ x ≤ 1000000) : Ci l D cy yX5_isOverAt wsX5_isOverAt 0 0 [.ref m0, .int (iI x)] [(m0, .inr (5, [.ref a0, .ref p0, .int (iI ho), .ref q0, .ref v0, .int (iI th), .ref t0, .int (iI tl)])), (a0, .inl (cy 0, 144, .inl G))] (fun (r : Int32) (u : Unit) => ((nw = 0 ∨ nl - nw + 1 ≤ x) ∧ r = iI 1) ∨ (¬ (nw = 0 ∨ nl - nw + 1 ≤ x) ∧ r = iI 0)) (fun u : Unit => [(m0, .inr (5, [.ref a0, .ref p0, .int (iI ho), .ref q0, .ref v0, .int (iI th), .ref t0, .int (iI tl)])), (a0, .inl (cy 0, 144, .inl G))]) := by
  refine Ci_of (cc := cX5_isOverAt) (maxL := 2) (ret := (some .boolean)) (by decide) rfl rfl ?_
  intro p e s m args below meth c A hx hb hr hts hown hlocks hml hP hK hD hT hA ls hl
  have hS : va_S A s.heap s.heap [] := va_S.rf
  have hl : lv_has ls 2 [(0, .ref m0), (1, .int (iI x))] := hl
  have hiX5 : ∀ w ∈ wsX50, w ∈ wsX5_isOverAt := by decide +kernel
  refine lv_aload_n hx hb dX5_isOverAt_0 rfl (lv_at hl 0 rfl) ?_
  refine va_get (D := D) (ci := 5) (v := .ref a0) (C := RX5) (T := TX5) (N := 8) hx hb hts hiX5 hown hK hP 0 rfl rfl 0 (by decide) (hts (.fieldLink RX5 7 "BackwardSearchModel" "all" "[I") (by decide +kernel)) (fun _ h9 => h9) rfl dX5_isOverAt_1 ?_
  refine lv_bipush (v := iI 61) hx hb dX5_isOverAt_4 (by decide +kernel) ?_
  refine z_iald hx hb hK hP 1 rfl (by omega) (by omega) (by omega) dX5_isOverAt_6 ?_
  refine z_top (show G (61 : Int).toNat = iI nw from h61) ?_
  refine z_if_eq (tgt := 28) hx hb (iI_t (by omega) (by omega)) dX5_isOverAt_7 (by decide) (fun c1 => ?_) (fun c1 => ?_)
  · --
    refine lv_iconst (v := iI 1) hx hb dX5_isOverAt_28 rfl ?_
    refine lv_goto (tgt := 33) hx hb dX5_isOverAt_29 (by decide) ?_
    exact z_zret hx hb hr hlocks (by decide +kernel) hS () (show ((nw = 0 ∨ nl - nw + 1 ≤ x) ∧ (iI 1) = iI 1) ∨ (¬ (nw = 0 ∨ nl - nw + 1 ≤ x) ∧ (iI 1) = iI 0) from (by first | exact Or.inl ⟨by omega, rfl⟩ | exact Or.inr ⟨by omega, rfl⟩)) hP dX5_isOverAt_33
  · --
    refine lv_iload_n hx hb dX5_isOverAt_10 rfl (lv_at hl 1 rfl) ?_
    refine lv_aload_n hx hb dX5_isOverAt_11 rfl (lv_at hl 0 rfl) ?_
    refine va_get (D := D) (ci := 5) (v := .ref a0) (C := RX5) (T := TX5) (N := 8) hx hb hts hiX5 hown hK hP 0 rfl rfl 0 (by decide) (hts (.fieldLink RX5 7 "BackwardSearchModel" "all" "[I") (by decide +kernel)) (fun _ h9 => h9) rfl dX5_isOverAt_12 ?_
    refine lv_bipush (v := iI 61) hx hb dX5_isOverAt_15 (by decide +kernel) ?_
    refine z_iald hx hb hK hP 1 rfl (by omega) (by omega) (by omega) dX5_isOverAt_17 ?_
    refine z_top (show G (61 : Int).toNat = iI nw from h61) ?_
    refine z_add hx hb dX5_isOverAt_18 ?_
    refine lv_aload_n hx hb dX5_isOverAt_19 rfl (lv_at hl 0 rfl) ?_
    refine va_get (D := D) (ci := 5) (v := .ref a0) (C := RX5) (T := TX5) (N := 8) hx hb hts hiX5 hown hK hP 0 rfl rfl 0 (by decide) (hts (.fieldLink RX5 7 "BackwardSearchModel" "all" "[I") (by decide +kernel)) (fun _ h9 => h9) rfl dX5_isOverAt_20 ?_
    refine lv_iconst (v := iI 0) hx hb dX5_isOverAt_23 rfl ?_
    refine z_iald hx hb hK hP 1 rfl (by omega) (by omega) (by omega) dX5_isOverAt_24 ?_
    refine z_top (show G (0 : Int).toNat = iI nl from h0) ?_
    refine z_icmp_le (tgt := 32) hx hb (iI_t (by omega) (by omega)) (iI_t (by omega) (by omega)) dX5_isOverAt_25 (by decide) (fun c2 => ?_) (fun c2 => ?_)
    · --
      refine lv_iconst (v := iI 0) hx hb dX5_isOverAt_32 rfl ?_
      exact z_zret hx hb hr hlocks (by decide +kernel) hS () (show ((nw = 0 ∨ nl - nw + 1 ≤ x) ∧ (iI 0) = iI 1) ∨ (¬ (nw = 0 ∨ nl - nw + 1 ≤ x) ∧ (iI 0) = iI 0) from (by first | exact Or.inl ⟨by omega, rfl⟩ | exact Or.inr ⟨by omega, rfl⟩)) hP dX5_isOverAt_33
    · --
      refine lv_iconst (v := iI 1) hx hb dX5_isOverAt_28 rfl ?_
      refine lv_goto (tgt := 33) hx hb dX5_isOverAt_29 (by decide) ?_
      exact z_zret hx hb hr hlocks (by decide +kernel) hS () (show ((nw = 0 ∨ nl - nw + 1 ≤ x) ∧ (iI 1) = iI 1) ∨ (¬ (nw = 0 ∨ nl - nw + 1 ≤ x) ∧ (iI 1) = iI 0) from (by first | exact Or.inl ⟨by omega, rfl⟩ | exact Or.inr ⟨by omega, rfl⟩)) hP dX5_isOverAt_33
end
section
/-! the state of a search, as plain values: line, word, places found, rules, place, looks, letters compared -/
abbrev MS : Type := List Int32 × List Int32 × List Int32 × Int × Int × Int × Int × Int
/-- state, recorded states (the oldest first), slots, text -/
abbrev SS : Type := MS × List MS × (Nat → Option MS) × List Int32
def gl (l : List Int32) : Nat → Int32 := fun j => l.getD j 0
def mSk (M : MS) : Int → Int → Int := skS M.2.2.2.1 M.2.2.2.2.1 M.2.1.length (gl M.2.1) (gl M.1)
def mT (M : MS) : LT := (M.2.2.2.2.2.1, M.2.2.2.2.2.2.1, M.2.2.2.2.2.2.2, M.2.2.1)
def mOf (M : MS) (t : LT) : MS := (M.1, M.2.1, t.2.2.2, M.2.2.2.1, M.2.2.2.2.1, t.1, t.2.1, t.2.2.1)
def mOver (M : MS) : Prop := (M.2.1.length : Int) = 0 ∨ (M.1.length : Int) - M.2.1.length + 1 ≤ M.2.2.2.2.2.1
def mD (M : MS) (s : Int) : Int := diffF M.2.1.length (gl M.2.1) (gl M.1) s
def mLook (M : MS) : MS := mOf M (lookS M.2.1.length (gl M.2.1) (gl M.1) (mSk M) (mT M))
def mRun (M : MS) : LT × Int := runS M.1.length M.2.1.length (gl M.2.1) (gl M.1) (mSk M) 60 (mT M)
def bgn (M : MS) : MS := (M.1, M.2.1, [], M.2.2.2.1, M.2.2.2.2.1, 0, 0, 0)
def MOk (M : MS) : Prop := M.1.length ≤ 60 ∧ M.2.1.length ≤ 16 ∧ (M.2.2.1.length : Int) ≤ M.2.2.2.2.2.1 ∧ M.2.2.1.length ≤ 60 ∧ 0 ≤ M.2.2.2.2.2.1 ∧ M.2.2.2.2.2.1 ≤ 100 ∧ 0 ≤ M.2.2.2.2.2.2.1 ∧ M.2.2.2.2.2.2.1 ≤ M.2.2.2.2.2.1 ∧ 0 ≤ M.2.2.2.2.2.2.2 ∧ M.2.2.2.2.2.2.2 ≤ 16 * M.2.2.2.2.2.2.1 ∧ 0 ≤ M.2.2.2.1 ∧ M.2.2.2.1 ≤ 1 ∧ 0 ≤ M.2.2.2.2.1 ∧ M.2.2.2.2.1 ≤ 1 ∧ (M.2.1.length = 0 ∨ M.1.length < M.2.1.length → M.2.2.2.2.2.1 = 0 ∧ M.2.2.2.2.2.2.1 = 0)
theorem skS_rng {lr er : Int} {m : Nat} {W L : Nat → Int32} {pl d : Int} (hm : 0 < m ∧ m ≤ 16) (h1 : -1 ≤ d) (h2 : d < m) : 1 ≤ skS lr er m W L pl d ∧ skS lr er m W L pl d ≤ 17 := by
  have a1 := lastF_rng m W (L (pl + d).toNat)
  have a2 := perF_spec (W := W) hm.1
  have a4 := a2.2.1
  have a5 := a2.2.2.1
  simp only [skS]
  by_cases hd : d = -1
  · rw [if_pos hd]; omega
  · have a3 := endF_spec (W := W) (m := m) (j := d.toNat) (by omega)
    have a6 := a3.2.1
    have a7 := a3.2.2.1
    rw [if_neg hd]
    omega
theorem MOk.bgn {M : MS} (h : MOk M) : MOk (bgn M) := by
  obtain ⟨line, word, found, lr, er, pl, lk, cp⟩ := M
  obtain ⟨h1, h2, _, _, _, _, _, _, _, _, h11, h12, h13, h14, _⟩ := h
  exact ⟨h1, h2, Int.le_refl _, Nat.zero_le _, Int.le_refl _, by show (0 : Int) ≤ 100; omega, Int.le_refl _, Int.le_refl _, Int.le_refl _, by show (0 : Int) ≤ 16 * 0; omega, h11, h12, h13, h14, fun _ => ⟨rfl, rfl⟩⟩
theorem MOk.look {M : MS} (h : MOk M) (ho : ¬ mOver M) : MOk (mLook M) := by
  obtain ⟨line, word, found, lr, er, pl, lk, cp⟩ := M
  simp only [mOver] at ho
  simp only [MOk] at h
  have hd := diffF_rng word.length (gl word) (gl line) pl
  have hs := skS_rng (lr := lr) (er := er) (m := word.length) (W := gl word) (L := gl line) (pl := pl) (d := diffF word.length (gl word) (gl line) pl) (by omega) (by omega) (by omega)
  obtain ⟨t, ht⟩ : ∃ t, t = lookS word.length (gl word) (gl line) (skS lr er word.length (gl word) (gl line)) (pl, lk, cp, found) := ⟨_, rfl⟩
  have e1 : t.1 = pl + skS lr er word.length (gl word) (gl line) pl (diffF word.length (gl word) (gl line) pl) := by rw [ht]; rfl
  have e2 : t.2.1 = lk + 1 := by rw [ht]; rfl
  have e3 : t.2.2.1 = cp + ((word.length : Int) - max (diffF word.length (gl word) (gl line) pl) 0) := by rw [ht]; rfl
  have e4 : t.2.2.2.length ≤ found.length + 1 := by
    rw [ht]
    simp only [lookS]
    split
    · simp
    · omega
  show MOk (mOf (line, word, found, lr, er, pl, lk, cp) (lookS word.length (gl word) (gl line) (skS lr er word.length (gl word) (gl line)) (pl, lk, cp, found)))
  rw [← ht]
  simp only [mOf, MOk]
  refine ⟨?_, ?_, ?_, ?_, ?_, ?_, ?_, ?_, ?_, ?_, ?_, ?_, ?_, ?_, fun q => ?_⟩ <;> omega
theorem mOf_mT (M : MS) : mOf M (mT M) = M := rfl
theorem mRun_ok {M : MS} (h : MOk M) : ∀ (k : Nat) (t : LT), MOk (mOf M t) → MOk (mOf M (runS M.1.length M.2.1.length (gl M.2.1) (gl M.1) (mSk M) k t).1)
  | 0, t, ht => ht
  | k + 1, t, ht => by
    simp only [runS]
    split
    · exact ht
    · rename_i ho
      exact mRun_ok h k _ (MOk.look (M := mOf M t) ht ho)
/-- after sixty looks the search is over -/
theorem run_over {n m : Nat} {W L : Nat → Int32} {sk : Int → Int → Int} (hn : n ≤ 60) (hm : m ≤ 16) (hsk : ∀ pl : Int, 0 < m → 1 ≤ sk pl (diffF m W L pl)) : ∀ (k : Nat) (t : LT), (60 : Int) - t.1 ≤ k → (m : Int) = 0 ∨ (n : Int) - m + 1 ≤ (runS n m W L sk k t).1.1
  | 0, t, h => by
    simp only [runS]
    omega
  | k + 1, t, h => by
    simp only [runS]
    split
    · rename_i q; exact q
    · rename_i q
      refine run_over hn hm hsk k (lookS m W L sk t) ?_
      have := hsk t.1 (by omega)
      simp only [lookS]
      omega
theorem mSk_pos {M : MS} (h : M.2.1.length ≤ 16) (pl : Int) (hm : 0 < M.2.1.length) : 1 ≤ mSk M pl (diffF M.2.1.length (gl M.2.1) (gl M.1) pl) := by
  have hd := diffF_rng M.2.1.length (gl M.2.1) (gl M.1) pl
  exact (skS_rng ⟨hm, h⟩ hd.1 hd.2).1
/-! at how many places the word stands: no skip leaps over one -/
def cntF (m : Nat) (W L : Nat → Int32) : Nat → Int
  | 0 => 0
  | s + 1 => cntF m W L s + (if diffF m W L (s : Int) = -1 then 1 else 0)
theorem stand_iff {m : Nat} {W L : Nat → Int32} {s : Int} : diffF m W L s = -1 ↔ ∀ j : Nat, j < m → W j = L (s + (j : Int)).toNat := by
  have h := diffF_spec W L s m
  constructor
  · intro q j hj
    rw [q] at h
    exact h.2.2.2 j (by omega) hj
  · intro q
    rcases Int.lt_or_le (diffF m W L s) 0 with z | z
    · have := h.1; omega
    · have h2 := h.2.1
      have h3 := q (diffF m W L s).toNat (by omega)
      rw [show (((diffF m W L s).toNat : Nat) : Int) = diffF m W L s by omega] at h3
      exact absurd h3 (h.2.2.1 z)
theorem no_leap {m : Nat} {W L : Nat → Int32} {s : Nat} {t : Nat} (ht : 0 < t) (hlt : (t : Int) < skS 1 1 m W L (s : Int) (diffF m W L (s : Int))) : ¬ diffF m W L ((s + t : Nat) : Int) = -1 := by
  intro hst
  have hstand := stand_iff.mp hst
  have hd := diffF_spec W L (s : Int) m
  rcases Nat.eq_zero_or_pos m with hm | hm
  · subst hm
    simp only [diffF, skS, if_true, perF] at hlt
    omega
  by_cases q : diffF m W L (s : Int) = -1
  · rw [q] at hlt
    simp only [skS, if_true] at hlt
    have hs := stand_iff.mp q
    refine (perF_spec (W := W) hm).2.2.2 t ht (by omega) (fun i a b => ?_)
    rw [hs i a, hstand (i - t) (by omega)]
    congr 1
    omega
  · generalize hdd : diffF m W L (s : Int) = d at hd hlt q
    obtain ⟨d1, d2, d3, d4⟩ := hd
    have hd0 : 0 ≤ d := by omega
    simp only [skS, if_neg q] at hlt
    rw [if_neg (show ¬ (1 : Int) = 0 by decide), if_neg (show ¬ (1 : Int) = 0 by decide)] at hlt
    have hL := lastF_spec W (L ((s : Int) + d).toNat) m
    generalize hl : lastF m W (L ((s : Int) + d).toNat) = la at hL hlt
    obtain ⟨l1, l2, l3, l4⟩ := hL
    by_cases z : (t : Int) < d - la
    · -- the letter skip
      rcases Nat.lt_or_ge d.toNat t with y | y
      · omega
      · have h5 := hstand (d.toNat - t) (by omega)
        refine l4 (d.toNat - t) (by omega) (by omega) ?_
        rw [h5]
        congr 1
        omega
    · -- the end skip
      have he := endF_spec (W := W) (m := m) (j := d.toNat) (by omega)
      refine he.2.2.2 t ht (by omega) ⟨fun a b => ?_, fun i a b c => ?_⟩
      · refine d3 hd0 ?_
        rw [b, hstand (d.toNat - t) (by omega)]
        congr 1
        omega
      · rw [d4 i (by omega) a, hstand (i - t) (by omega)]
        congr 1
        omega
theorem cnt_skip {m : Nat} {W L : Nat → Int32} {s : Nat} : ∀ k : Nat, (∀ t : Nat, t < k → ¬ diffF m W L ((s + t : Nat) : Int) = -1) → cntF m W L (s + k) = cntF m W L s
  | 0, _ => rfl
  | k + 1, h => by
    show cntF m W L (s + k) + (if diffF m W L ((s + k : Nat) : Int) = -1 then 1 else 0) = _
    rw [if_neg (h k (by omega)), cnt_skip k (fun t ht => h t (by omega))]
    omega
/-- the search with both rules finds as many places as there are -/
theorem run_cnt {n m : Nat} {W L : Nat → Int32} (hm : 0 < m ∧ m ≤ 16) (hn : n ≤ 60) (hmn : m ≤ n) : ∀ (k : Nat) (pl lk cp : Int) (fo : List Int32), 0 ≤ pl → (60 : Int) - pl ≤ k → (fo.length : Int) = cntF m W L (min pl.toNat (n - m + 1)) → ((runS n m W L (skS 1 1 m W L) k (pl, lk, cp, fo)).1.2.2.2.length : Int) = cntF m W L (n - m + 1)
  | 0, pl, lk, cp, fo, h0, h1, h2 => by
    simp only [runS]
    rw [h2]
    congr 1
    omega
  | k + 1, pl, lk, cp, fo, h0, h1, h2 => by
    simp only [runS]
    split
    · rename_i q
      show (fo.length : Int) = _
      rw [h2]
      congr 1
      omega
    · rename_i q
      have hd := diffF_rng m W L pl
      have hs := skS_rng (lr := 1) (er := 1) (W := W) (L := L) (pl := pl) (d := diffF m W L pl) hm hd.1 hd.2
      have hpl : ((pl.toNat : Nat) : Int) = pl := by omega
      refine run_cnt hm hn hmn k _ _ _ _ (by simp only []; omega) (by simp only []; omega) ?_
      show ((if diffF m W L pl = -1 then fo ++ [iI pl] else fo).length : Int) = _
      have h3 : (fo.length : Int) = cntF m W L pl.toNat := by
        rw [h2]; congr 1; omega
      have h4 : ((if diffF m W L pl = -1 then fo ++ [iI pl] else fo).length : Int) = cntF m W L (pl.toNat + 1) := by
        show _ = cntF m W L pl.toNat + _
        rw [hpl, ← h3]
        split
        · simp
        · simp
      rw [h4]
      obtain ⟨e, he, hle⟩ : ∃ e : Nat, min (pl + skS 1 1 m W L pl (diffF m W L pl)).toNat (n - m + 1) = pl.toNat + 1 + e ∧ (e : Int) + 1 ≤ skS 1 1 m W L pl (diffF m W L pl) := ⟨min (pl + skS 1 1 m W L pl (diffF m W L pl)).toNat (n - m + 1) - (pl.toNat + 1), by omega, by omega⟩
      show _ = cntF m W L (min (pl + skS 1 1 m W L pl (diffF m W L pl)).toNat (n - m + 1))
      rw [he]
      refine (cnt_skip e (fun t ht => ?_)).symm
      have := no_leap (m := m) (W := W) (L := L) (s := pl.toNat) (t := t + 1) (by omega) (by rw [hpl]; omega)
      rw [show pl.toNat + 1 + t = pl.toNat + (t + 1) by omega]
      exact this
/-! the text -/
def errF : List Int32 → Int → Int
  | [], _ => -1
  | x :: t, i => if x.toInt < 97 ∨ 122 < x.toInt then i else errF t (i + 1)
/-- the calls, told over plain values -/
def pushH (h : List MS) (M : MS) : List MS := (if h.length = 6 then h.drop 1 else h) ++ [M]
def spPush (S : SS) (M : MS) : SS := (M, pushH S.2.1 S.1, S.2.2.1, S.2.2.2)
end
section
theorem zz_look : 1 + 1 = 2 := rfl
end
