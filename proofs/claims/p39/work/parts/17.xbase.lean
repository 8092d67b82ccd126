/-! calls that may throw -/
def xISE : String := "java/lang/IllegalStateException"
def xIAE : String := "java/lang/IllegalArgumentException"
def xIOB : String := "java/lang/IndexOutOfBoundsException"
def xNm : List String := ["java/lang/RuntimeException", "java/lang/Exception"]
def xIn (n : String) : MethodName := ⟨n, "<init>", "(Ljava/lang/String;)V"⟩
def xDc : List String := ["java/lang/RuntimeException", "java/lang/Exception", "java/lang/Throwable"]
def xNG (X : String) : List Cond := [Cond.castable X X, .declares (xIn "java/lang/RuntimeException"), .declares (xIn "java/lang/Exception"), .declares (xIn "java/lang/Throwable")]
theorem x_ng1 : ∀ w ∈ (vx_atS RX4 89 xISE xNm).filter (fun w => !goodWord w), w ∈ xNG xISE := by decide +kernel
theorem x_ng2 : ∀ w ∈ (vx_atS RX4 169 xIOB xNm).filter (fun w => !goodWord w), w ∈ xNG xIOB := by decide +kernel
theorem x_ng3 : ∀ w ∈ (vx_atS RX4 183 xIAE xNm).filter (fun w => !goodWord w), w ∈ xNG xIAE := by decide +kernel
theorem x_gw1 : ∀ w ∈ Cond.classLink RX4 85 xISE :: Cond.initialized xISE :: vx_atS RX4 89 xISE xNm, vx_ot w = true := by decide +kernel
theorem x_gw2 : ∀ w ∈ Cond.classLink RX4 165 xIOB :: Cond.initialized xIOB :: vx_atS RX4 169 xIOB xNm, vx_ot w = true := by decide +kernel
theorem x_gw3 : ∀ w ∈ Cond.classLink RX4 179 xIAE :: Cond.initialized xIAE :: vx_atS RX4 183 xIAE xNm, vx_ot w = true := by decide +kernel
/-- what the tables say of the exceptions' classes -/
def TC (U : State) : Prop := (∀ X ∈ [xISE, xIAE, xIOB], va_Nw (.castable X X) U) ∧ va_Nc xIAE xIOB U ∧ va_Nc xISE xIOB U ∧ va_Nc xISE xIAE U ∧ ∀ n ∈ xDc, va_Nw (.declares (xIn n)) U
theorem TC.same {u U : State} (h : u.vm = U.vm) (hT : TC u) : TC U := by
  obtain ⟨h1, h2, h3, h4, h5⟩ := hT
  refine ⟨fun X hX => va_Nw.same rfl h (h1 X hX), ?_, ?_, ?_, fun n hn => va_Nw.same rfl h (h5 n hn)⟩
  · obtain ⟨c, t, a, b, d⟩ := h2; exact ⟨c, t, h ▸ a, h ▸ b, h ▸ d⟩
  · obtain ⟨c, t, a, b, d⟩ := h3; exact ⟨c, t, h ▸ a, h ▸ b, h ▸ d⟩
  · obtain ⟨c, t, a, b, d⟩ := h4; exact ⟨c, t, h ▸ a, h ▸ b, h ▸ d⟩
theorem TC.warm {s U : State} (hW : s.WarmedH U.vm) (hT : TC s) : TC U := by
  obtain ⟨h1, h2, h3, h4, h5⟩ := hT
  exact ⟨fun X hX => va_Nw.warmC hW (h1 X hX), h2.moved hW.alike, h3.moved hW.alike, h4.moved hW.alike, fun n hn => va_Nw.warmD hW (h5 n hn)⟩
theorem SZ.moved {A : Nat → Prop} {u U : State} {H : Heap} (hvm : u.vm.Alike U.vm) (h : SZ A u H) : SZ A U H := ⟨h.1.moved hvm, h.2.moved hvm⟩
theorem SZ.kept {A : Nat → Prop} {U : State} {H H1 : Heap} (h : SZ A U H) (hq : ∀ a : Nat, a < H.size → ¬ A a → H1[a]? = H[a]?) : SZ A U H1 := ⟨h.1.kept hq, h.2.kept hq⟩
theorem SZ.narrow {A B : Nat → Prop} {U : State} {H : Heap} (h : SZ A U H) (hAB : ∀ q, B q → A q) : SZ B U H := ⟨h.1.narrow hAB, h.2.narrow hAB⟩
def PcwX (D : va_G) (cy : Nat → ClassId) (av : List Value) (w : va_W) (sz : Nat) : Array Value → State → Prop := va_Pc av (fun U => U.heap.size = sz ∧ va_P D vwCl w U.heap ∧ va_K D vwCl (tysA cy) U ∧ va_D (fun _ => True) w ∧ TB U ∧ TC U ∧ SZ (va_A w sz) U U.heap)
theorem PcwX.blind {D : va_G} {cy : Nat → ClassId} {av : List Value} {w : va_W} {sz : Nat} : FrameBlind (PcwX D cy av w sz) := fun a U g mk q => by
  obtain ⟨q0, q1, qP, qK, qD, qT, qC, qZ⟩ := q
  exact ⟨q0, q1, qP, va_K.moved (u := U) (U := U.calling g mk a) (Vm.Alike.refl U.vm) qK, qD, TB.same rfl qT, TC.same rfl qC, SZ.moved (u := U) (U := U.calling g mk a) (Vm.Alike.refl U.vm) qZ⟩
/-- where it throws: the class of what is thrown, the world as it was -/
def XTh (D : va_G) (w : va_W) (px : String → Prop) (A : Nat → Prop) : String → State → State → Prop := vx_X (fun _ : Unit => True) (fun E _ t => px E ∧ va_P D vwCl w t.heap) A
/-- returns, or throws; k objects at most are made -/
def Xi (l : Launch) (D : va_G) (cy : Nat → ClassId) (y : MethodName) (ws : List Cond) (fr lo k : Nat) (av : List Value) (w : va_W) {S : Type} (post : Int32 → S → Prop) (w' : S → va_W) (px : String → Prop) : Prop :=
  ∀ sz : Nat, vx_Met l y ws { frames := fr, cells := k, slots := 6 * k, locals := lo } (PcwX D cy av w sz) (va_Qi post (fun u t => va_P D vwCl (w' u) t.heap) (va_A w sz)) (XTh D w px (va_A w sz)) k (6 * k) (va_A w sz)
def Xv (l : Launch) (D : va_G) (cy : Nat → ClassId) (y : MethodName) (ws : List Cond) (fr lo k : Nat) (av : List Value) (w : va_W) {S : Type} (post : S → Prop) (w' : S → va_W) (px : String → Prop) : Prop :=
  ∀ sz : Nat, vx_Met l y ws { frames := fr, cells := k, slots := 6 * k, locals := lo } (PcwX D cy av w sz) (va_Qv post (fun u t => va_P D vwCl (w' u) t.heap) (va_A w sz)) (XTh D w px (va_A w sz)) k (6 * k) (va_A w sz)
/-- catches what is thrown: returns always -/
def Ni (l : Launch) (D : va_G) (cy : Nat → ClassId) (y : MethodName) (ws : List Cond) (fr lo k : Nat) (av : List Value) (w : va_W) {S : Type} (post : Int32 → S → Prop) (w' : S → va_W) : Prop :=
  ∀ sz : Nat, Met l y ws { frames := fr, cells := k, slots := 6 * k, locals := lo } (PcwX D cy av w sz) (va_Qi post (fun u t => va_P D vwCl (w' u) t.heap) (va_A w sz)) k (6 * k) (va_A w sz)
theorem x_of {l : Launch} {D : va_G} {cy : Nat → ClassId} {y : MethodName} {ws ws0 : List Cond} {fr lo maxL k : Nat} {av : List Value} {w : va_W} {Qc : Array Value → State → Outcome → State → Prop} {px : String → Prop} {cc : ByteArray} {ret : Option FieldType} {sz : Nat}
    (hy : plainName y.cls = true) (hw : ws = Cond.code y cc maxL ret :: ws0) (hle : Nat.ble (lg_sl av).length maxL = true)
    (body : ∀ (p : Program) (e : Env) (s : State) (m : MethodId) (args : Array Value) (below : List Frame) (meth : Method) (c : Code), p.tables.exec = Jvm.exec → c.code = cc → meth.sig.returnType = ret → (∀ w ∈ ws, w.before args s = true) → s.vm.findClass y.cls = some m.cls → meth.locks = false → c.maxLocals = maxL → (∀ x ∈ c.exceptionTable.toList, False) →
      s.heap.size = sz → va_P D vwCl w s.heap → va_K D vwCl (tysA cy) s → va_D (va_A w sz) w → TB s → TC s → SZ (va_A w sz) s s.heap → (∀ q : Nat, s.heap.size ≤ q → va_A w sz q) → ∀ ls : Array Slot, lv_has ls maxL (lv_args 0 av) →
      W p l e ({ frames := fr, cells := k, slots := 6 * k, locals := lo } : Room) s m args below meth c s.heap [] 0 0 (vx_MQ below Qc (XTh D w px (va_A w sz)) args s k (6 * k) (va_A w sz)) (F0 m 0 ls [])) :
    vx_Met l y ws { frames := fr, cells := k, slots := 6 * k, locals := lo } (PcwX D cy av w sz) Qc (XTh D w px (va_A w sz)) k (6 * k) (va_A w sz) := by
  refine vx_ofW (cc := cc) (maxL := maxL) (ret := ret) hy hw ?_
  intro p e s m args below meth c s₁ B hml htab hv
  obtain ⟨rfl, hsz, hP, hK, hD0, hT, hC, hZ⟩ := hv
  have hts := atoms_spec (ws := ws) B.pre
  have hl := lv_entry av (n := maxL) (Nat.le_of_ble_eq_true hle)
  rw [lg_entry_eq]
  exact body p e s m _ below meth c B.exec B.bytes B.returns hts (findClass_of_methodNamed B.named) B.notSynchronized hml htab hsz hP hK hD0.self hT hC hZ (fun q h => Or.inr (by rw [← hsz]; exact h)) _ hl
theorem Xi_of {l : Launch} {D : va_G} {cy : Nat → ClassId} {y : MethodName} {ws ws0 : List Cond} {fr lo maxL k : Nat} {av : List Value} {w : va_W} {S : Type} {post : Int32 → S → Prop} {w' : S → va_W} {px : String → Prop} {cc : ByteArray} {ret : Option FieldType}
    (hy : plainName y.cls = true) (hw : ws = Cond.code y cc maxL ret :: ws0) (hle : Nat.ble (lg_sl av).length maxL = true)
    (body : ∀ (p : Program) (e : Env) (s : State) (m : MethodId) (args : Array Value) (below : List Frame) (meth : Method) (c : Code) (A : Nat → Prop), p.tables.exec = Jvm.exec → c.code = cc → meth.sig.returnType = ret → (∀ w ∈ ws, w.before args s = true) → s.vm.findClass y.cls = some m.cls → meth.locks = false → c.maxLocals = maxL → (∀ x ∈ c.exceptionTable.toList, False) →
      va_P D vwCl w s.heap → va_K D vwCl (tysA cy) s → va_D A w → TB s → TC s → SZ A s s.heap → (∀ q : Nat, s.heap.size ≤ q → A q) → ∀ ls : Array Slot, lv_has ls maxL (lv_args 0 av) →
      W p l e ({ frames := fr, cells := k, slots := 6 * k, locals := lo } : Room) s m args below meth c s.heap [] 0 0 (vx_MQ below (va_Qi post (fun u t => va_P D vwCl (w' u) t.heap) A) (XTh D w px A) args s k (6 * k) A) (F0 m 0 ls [])) :
    Xi l D cy y ws fr lo k av w post w' px := fun sz => x_of hy hw hle fun p e s m args below meth c h1 h2 h3 h4 h5 h6 h7 h8 _ h9 h10 h11 h12 h13 h14 h15 ls hl => body p e s m args below meth c _ h1 h2 h3 h4 h5 h6 h7 h8 h9 h10 h11 h12 h13 h14 h15 ls hl
theorem Xv_of {l : Launch} {D : va_G} {cy : Nat → ClassId} {y : MethodName} {ws ws0 : List Cond} {fr lo maxL k : Nat} {av : List Value} {w : va_W} {S : Type} {post : S → Prop} {w' : S → va_W} {px : String → Prop} {cc : ByteArray} {ret : Option FieldType}
    (hy : plainName y.cls = true) (hw : ws = Cond.code y cc maxL ret :: ws0) (hle : Nat.ble (lg_sl av).length maxL = true)
    (body : ∀ (p : Program) (e : Env) (s : State) (m : MethodId) (args : Array Value) (below : List Frame) (meth : Method) (c : Code) (A : Nat → Prop), p.tables.exec = Jvm.exec → c.code = cc → meth.sig.returnType = ret → (∀ w ∈ ws, w.before args s = true) → s.vm.findClass y.cls = some m.cls → meth.locks = false → c.maxLocals = maxL → (∀ x ∈ c.exceptionTable.toList, False) →
      va_P D vwCl w s.heap → va_K D vwCl (tysA cy) s → va_D A w → TB s → TC s → SZ A s s.heap → (∀ q : Nat, s.heap.size ≤ q → A q) → ∀ ls : Array Slot, lv_has ls maxL (lv_args 0 av) →
      W p l e ({ frames := fr, cells := k, slots := 6 * k, locals := lo } : Room) s m args below meth c s.heap [] 0 0 (vx_MQ below (va_Qv post (fun u t => va_P D vwCl (w' u) t.heap) A) (XTh D w px A) args s k (6 * k) A) (F0 m 0 ls [])) :
    Xv l D cy y ws fr lo k av w post w' px := fun sz => x_of hy hw hle fun p e s m args below meth c h1 h2 h3 h4 h5 h6 h7 h8 _ h9 h10 h11 h12 h13 h14 h15 ls hl => body p e s m args below meth c _ h1 h2 h3 h4 h5 h6 h7 h8 h9 h10 h11 h12 h13 h14 h15 ls hl
theorem wkeep {A0 : Nat → Prop} {D : va_G} {cl : List vw_C} {ws wc : va_W} {H H1 : Heap} (hP : va_P D cl ws H) (hD : va_D A0 ws) (is : List Nat) (hC : is.map (fun i => ws[i]?) = wc.map some)
    (hk : ∀ q : Nat, q < H.size → ¬ va_A wc H.size q → H1[q]? = H[q]?) (hP1 : va_P D cl wc H1) : va_P D cl ws H1 := by
  intro k q hq
  by_cases h : ∃ j : Nat, wc[j]? = some q
  · obtain ⟨j, hj⟩ := h
    exact hP1 j q hj
  · refine (hP k q hq).kept (hk q.1 (hP k q hq).lt ?_)
    rintro (⟨j, e, hj⟩ | h2)
    · have h3 : (is.map (fun i => ws[i]?))[j]? = some (some (q.1, e)) := by rw [hC, List.getElem?_map, hj]; rfl
      rw [List.getElem?_map] at h3
      cases hij : is[j]? with
      | none => rw [hij] at h3; cases h3
      | some i =>
        rw [hij] at h3
        have h4 : ws[i]? = some (q.1, e) := by simpa using h3
        have h5 := hD.1 k i q (q.1, e) hq h4 rfl
        subst h5
        rw [hq] at h4
        exact h ⟨j, by rw [hj, ← h4]⟩
    · exact absurd (hP k q hq).lt (Nat.not_lt.mpr h2)
section ZX
variable {p : Program} {l : Launch} {e : Env} {R : Room} {s : State} {m : MethodId} {args : Array Value} {below : List Frame} {meth : Method} {c : Code} {H : Heap} {locs : List Loc} {cells slots : Nat} {Q : State → Prop}
variable {cc : ByteArray} {pc : Nat} {ls : Array Slot} {rest st0 : List Value} {D : va_G} {cy : Nat → ClassId} {A A0 : Nat → Prop} {W0 w w0 : va_W} {mc ms : Nat} {px px' : String → Prop}
theorem x_iret {S : Type} {post : Int32 → S → Prop} {w' : S → va_W} {v : Int32} (hx : p.tables.exec = Jvm.exec) (hb : c.code = cc) (hr : meth.sig.returnType = some .int) (hlocks : meth.locks = false) (hS : va_S A s.heap H locs) (u : S) (hp : post v u) (hP : va_P D vwCl (w' u) H) (hdg : decode cc pc = .ok (.ireturn, 1)) (hc : cells ≤ mc) (hs : slots ≤ ms) {XC : String → State → State → Prop} :
    W p l e R s m args below meth c H locs cells slots (vx_MQ below (va_Qi post (fun u t => va_P D vwCl (w' u) t.heap) A) XC args s mc ms A) (F0 m pc ls [.int v]) :=
  W.widen hc hs (vx_ret (z_iret hx hb hr hlocks hS u hp hP hdg))
theorem x_vret {S : Type} {post : S → Prop} {w' : S → va_W} (hx : p.tables.exec = Jvm.exec) (hb : c.code = cc) (hr : meth.sig.returnType = none) (hlocks : meth.locks = false) (hS : va_S A s.heap H locs) (u : S) (hp : post u) (hP : va_P D vwCl (w' u) H) (hdg : decode cc pc = .ok (.return_, 1)) (hc : cells ≤ mc) (hs : slots ≤ ms) {XC : String → State → State → Prop} :
    W p l e R s m args below meth c H locs cells slots (vx_MQ below (va_Qv post (fun u t => va_P D vwCl (w' u) t.heap) A) XC args s mc ms A) (F0 m pc ls []) :=
  W.widen hc hs (vx_ret (z_vret hx hb hr hlocks hS u hp hP hdg))
/-- thrown on, by a callee: the world is as it was -/
theorem x_on {E : String} {ce : Cell} {q : Addr} {Qc : Array Value → State → Outcome → State → Prop} (htab : ∀ x ∈ c.exceptionTable.toList, False) (hlocks : meth.locks = false) (hP : va_P D vwCl w0 H) (hS : va_S A s.heap H locs) (hpx : px E) (hc : cells ≤ mc) (hs : slots ≤ ms) (hcell : H[q]? = some ce) (hv : ce.vm = .none) (hcl : s.vm.findClass E = some ce.cls) :
    vx_W p l e R s m args below meth c H locs cells slots (vx_MQ below Qc (XTh D w0 px A) args s mc ms A) (F0 m pc ls rest) q :=
  vx_out (fun x hx => (htab x hx).elim) hlocks hcell hv hcl (fun t ht _ => ⟨(), trivial, ⟨hpx, by rw [ht]; exact hP⟩, hS.F ht⟩) hS.2.2 hc hs
/-- throw new X(text) -/
theorem x_throw {cls text : String} {ik is ic : Nat} {Qc : Array Value → State → Outcome → State → Prop} {Ts : List Cond} (hx : p.tables.exec = Jvm.exec) (hb : c.code = cc) (hl : l.stackTraces = false) (hown : s.vm.findClass RX4 = some m.cls) (hcls : Bundle.fit cls = true) (hcx : cls ∈ [xISE, xIAE, xIOB])
    (hts : ∀ w ∈ Ts, w.before args s = true) (hk : Cond.classLink RX4 ik cls ∈ Ts) (hini : Cond.initialized cls ∈ Ts) (hat : ∀ w ∈ (vx_atS RX4 ic cls xNm).filter goodWord, w ∈ Ts) (hng : ∀ w ∈ (vx_atS RX4 ic cls xNm).filter (fun w => !goodWord w), w ∈ xNG cls) (hgw : ∀ w ∈ Cond.classLink RX4 ik cls :: Cond.initialized cls :: vx_atS RX4 ic cls xNm, vx_ot w = true)
    (hT : TB s) (hC : TC s) (hstr : (is, text) ∈ tbS) (hZ : SZ A s s.heap) (hS : va_S A s.heap H locs) (hsize : ls.size = c.maxLocals)
    (d0 : decode cc pc = .ok (.new ik, 3)) (d3 : decode cc (pc + 3) = .ok (.dup, 1)) (d4 : decode cc (pc + 4) = .ok (.ldc is, 2)) (d6 : decode cc (pc + 6) = .ok (.invokespecial ic, 3)) (d9 : decode cc (pc + 9) = .ok (.athrow, 1))
    (htab : ∀ x ∈ c.exceptionTable.toList, False) (hRf : 5 < R.frames) (hRl : (rest.map fun v => v.category).sum + 82 ≤ R.locals) (hRc : cells + 1 ≤ R.cells) (hRs : slots + 6 ≤ R.slots) (hlocks : meth.locks = false) (hP : va_P D vwCl w0 H) (hpx : px cls) (hc : cells + 1 ≤ mc) (hs : slots + 6 ≤ ms) :
    W p l e R s m args below meth c H locs cells slots (vx_MQ below Qc (XTh D w0 px A) args s mc ms A) (F0 m pc ls rest) := by
  obtain ⟨sa, hsa⟩ := hT.2.2 (is, text) hstr
  refine vx_throwS hx hb hl hown hcls (names := xNm) (by decide +kernel) (hts _ hk) (hts _ hini) hsa (vx_hat (fun w hw => hts w (hat w hw)) hng (vx_c (va_Nw.use rfl (hC.1 cls hcx)) (vx_c (va_Nw.use rfl (hC.2.2.2.2 _ (List.mem_of_getElem? (i := 0) rfl))) (vx_c (va_Nw.use rfl (hC.2.2.2.2 _ (List.mem_of_getElem? (i := 1) rfl))) (vx_c (va_Nw.use rfl (hC.2.2.2.2 _ (List.mem_of_getElem? (i := 2) rfl))) vx_n))))) hgw hZ.1 hZ.2 hS hsize d0 d3 d4 d6 d9 (fun x hx => (htab x hx).elim) hRf hRl hRc hRs hlocks (fun t ha hz hk2 => ?_) hS.2.2 hc hs
  refine ⟨(), trivial, ⟨hpx, hP.kept (fun k q hq => hk2 q.1 (hP k q hq).lt)⟩, ?_⟩
  exact ⟨Nat.le_trans hS.1 hz, fun q q1 q2 => by rw [hk2 q (Nat.lt_of_lt_of_le q1 hS.1)]; exact hS.2.1 q q1 q2⟩
theorem x_throwW {cls text : String} {ik is ic : Nat} {Qc : Array Value → State → Outcome → State → Prop} {Ts : List Cond} (hx : p.tables.exec = Jvm.exec) (hb : c.code = cc) (hl : l.stackTraces = false) (hown : s.vm.findClass RX4 = some m.cls) (hcls : Bundle.fit cls = true) (hcx : cls ∈ [xISE, xIAE, xIOB])
    (hts : ∀ w ∈ Ts, w.before args s = true) (hk : Cond.classLink RX4 ik cls ∈ Ts) (hini : Cond.initialized cls ∈ Ts) (hat : ∀ w ∈ (vx_atS RX4 ic cls xNm).filter goodWord, w ∈ Ts) (hng : ∀ w ∈ (vx_atS RX4 ic cls xNm).filter (fun w => !goodWord w), w ∈ xNG cls) (hgw : ∀ w ∈ Cond.classLink RX4 ik cls :: Cond.initialized cls :: vx_atS RX4 ic cls xNm, vx_ot w = true)
    (hT : TB s) (hC : TC s) (hstr : (is, text) ∈ tbS) (hZ : SZ A s s.heap) (hS : va_S A s.heap H locs) (hsize : ls.size = c.maxLocals)
    (d0 : decode cc pc = .ok (.new ik, 3)) (d3 : decode cc (pc + 3) = .ok (.dup, 1)) (d4 : decode cc (pc + 4) = .ok (.ldc_w is, 3)) (d6 : decode cc (pc + 7) = .ok (.invokespecial ic, 3)) (d9 : decode cc (pc + 10) = .ok (.athrow, 1))
    (htab : ∀ x ∈ c.exceptionTable.toList, False) (hRf : 5 < R.frames) (hRl : (rest.map fun v => v.category).sum + 82 ≤ R.locals) (hRc : cells + 1 ≤ R.cells) (hRs : slots + 6 ≤ R.slots) (hlocks : meth.locks = false) (hP : va_P D vwCl w0 H) (hpx : px cls) (hc : cells + 1 ≤ mc) (hs : slots + 6 ≤ ms) :
    W p l e R s m args below meth c H locs cells slots (vx_MQ below Qc (XTh D w0 px A) args s mc ms A) (F0 m pc ls rest) := by
  obtain ⟨sa, hsa⟩ := hT.2.2 (is, text) hstr
  refine vx_throwSW hx hb hl hown hcls (names := xNm) (by decide +kernel) (hts _ hk) (hts _ hini) hsa (vx_hat (fun w hw => hts w (hat w hw)) hng (vx_c (va_Nw.use rfl (hC.1 cls hcx)) (vx_c (va_Nw.use rfl (hC.2.2.2.2 _ (List.mem_of_getElem? (i := 0) rfl))) (vx_c (va_Nw.use rfl (hC.2.2.2.2 _ (List.mem_of_getElem? (i := 1) rfl))) (vx_c (va_Nw.use rfl (hC.2.2.2.2 _ (List.mem_of_getElem? (i := 2) rfl))) vx_n))))) hgw hZ.1 hZ.2 hS hsize d0 d3 d4 d6 d9 (fun x hx => (htab x hx).elim) hRf hRl hRc hRs hlocks (fun t ha hz hk2 => ?_) hS.2.2 hc hs
  refine ⟨(), trivial, ⟨hpx, hP.kept (fun k q hq => hk2 q.1 (hP k q hq).lt)⟩, ?_⟩
  exact ⟨Nat.le_trans hS.1 hz, fun q q1 q2 => by rw [hk2 q (Nat.lt_of_lt_of_le q1 hS.1)]; exact hS.2.1 q q1 q2⟩
variable {y : MethodName} {bytes : ByteArray} {maxL nL n index fr lo k : Nat} {ret : Option FieldType} {ws ws0 Ts : List Cond} {own C : String} {b : Addr} {As : List Value} {S : Type} {H0 : Heap}
theorem preX_of {av : List Value} (hK : va_K D vwCl (tysA cy) s) (hT : TB s) (hC0 : TC s) (hP : va_P D vwCl W0 H) (hD : va_D A0 W0) (hS : va_S A0 s.heap H locs) (hZ : SZ A0 s s.heap) (hA : ∀ q : Nat, s.heap.size ≤ q → A0 q) (is : List Nat) (hC : is.map (fun i => W0[i]?) = w.map some) (hnd : va_nd is = true) : FrameBlind (PcwX D cy av w H.size) ∧ ∀ U : State, U.heap = H → s.WarmedH U.vm → PcwX D cy av w H.size av.toArray U := by
  have hPc : va_P D vwCl w H := hP.sub is (by
    have := congrArg (List.filterMap id) hC
    simpa [List.filterMap_map] using this)
  have hDc : va_D A0 w := hD.sub is hnd hC
  have hF := va_free (wc := w) hD hS hA is hC
  exact ⟨PcwX.blind, fun U hU hW => ⟨rfl, by rw [hU], by rw [hU]; exact hPc, va_K.moved hW.alike hK, hDc.weaken (fun _ _ _ _ => trivial), TB.warm hW hT, TC.warm hW hC0, by
    rw [hU]; exact ((hZ.kept (fun a h1 h2 => hS.2.1 a h1 h2)).narrow hF).moved hW.alike⟩⟩
theorem x_cSv {post : S → Prop} {w' : S → va_W} {Qc : Array Value → State → Outcome → State → Prop} (F : CallFix p m c cc nL s args Ts own) (hM : Xv l D cy y ws fr lo k As w post w' px') (hg : GoodIn Ts (va_wsS own index y ws)) (hw : ws = Cond.code y bytes maxL ret :: ws0)
    (hd : y.cls ≠ "java/lang/invoke/MethodHandle" ∧ y.cls ≠ "java/lang/invoke/VarHandle" ∧ (parseMethodDescriptor y.desc).map (fun d => d.parameters.length) = some n) (hR : fr + 1 ≤ R.frames ∧ 8 + (maxL + 11) + lo ≤ R.locals)
    (hK : va_K D vwCl (tysA cy) s) (hT : TB s) (hC0 : TC s) (hZ : SZ A s s.heap) (htab : ∀ x ∈ c.exceptionTable.toList, False) (hlocks : meth.locks = false) (hP : va_P D vwCl W0 H) (hD : va_D A W0) (hS : va_S A s.heap H locs) (hA : ∀ q : Nat, s.heap.size ≤ q → A q) (is : List Nat) (hC : is.map (fun i => W0[i]?) = w.map some) (hnd : va_nd is = true)
    (hpx : ∀ E, px' E → px E) (hsm : ∀ u, (w' u).map Prod.fst = w.map Prod.fst) (hn : As.length = n) (hsz : ls.size = nL) (hst : st0 = As.reverse ++ rest) (hcat : (rest.map fun v => v.category).sum ≤ 8)
    (hdg : decode cc pc = .ok (.invokestatic index, 3)) (hcs : cells + k ≤ R.cells ∧ slots + 6 * k ≤ R.slots) (hm1 : cells + k ≤ mc) (hm2 : slots + 6 * k ≤ ms)
    (kk : ∀ (u : S) (H1 : Heap) (locs1 : List Loc), post u → va_P D vwCl (wput W0 is (w' u)) H1 → va_D A (wput W0 is (w' u)) → va_S A s.heap H1 locs1 → W p l e R s m args below meth c H1 locs1 (cells + k) (slots + 6 * k) (vx_MQ below Qc (XTh D W0 px A) args s mc ms A) (F0 m (pc + 3) ls rest)) : W p l e R s m args below meth c H locs cells slots (vx_MQ below Qc (XTh D W0 px A) args s mc ms A) (F0 m pc ls st0) := by
  have hF := va_free (wc := w) hD hS hA is hC
  refine vx_callv (vx_runS (As := As) (rest := rest) F (hM H.size) (va_cwS n F.2.2.2.2 hg hw rfl rfl hd hR) (preX_of hK hT hC0 hP hD hS hZ hA is hC hnd) rfl hn hsz hst (lv_room hcat) hdg hcs) hS (fun q _ h => hF q h) hF (fun q _ h => hF q h)
    (fun E ce q9 u t H1 locs1 ht _ _ hB _ hk1 hS1 hce hcv hcl => ?_) (fun u t H1 locs1 ht _ hw1 hB _ hk1 hS1 => ?_)
  · have hB2 := hB.2
    rw [ht] at hB2
    exact x_on htab hlocks (wkeep hP hD is hC hk1 hB2) hS1 (hpx E hB.1) hm1 hm2 hce hcv hcl
  · rw [ht] at hB
    obtain ⟨h1, h2⟩ := wjoin hP hD is hC (hsm u) hk1 hB
    exact kk u H1 locs1 hw1 h1 h2 hS1
theorem x_cVv {post : S → Prop} {w' : S → va_W} {Qc : Array Value → State → Outcome → State → Prop} (F : CallFix p m c cc nL s args Ts own) (hM : Xv l D cy y ws fr lo k (.ref b :: As) w post w' px') (hg : GoodIn Ts (wsV own index C y ws)) (hw : ws = Cond.code y bytes maxL ret :: ws0)
    (hd : y.cls = C ∧ y.cls ≠ "java/lang/invoke/MethodHandle" ∧ y.cls ≠ "java/lang/invoke/VarHandle" ∧ (parseMethodDescriptor y.desc).map (fun d => d.parameters.length) = some n) (hR : fr + 1 ≤ R.frames ∧ 8 + (maxL + 11) + lo ≤ R.locals)
    (hK : va_K D vwCl (tysA cy) s) (hT : TB s) (hC0 : TC s) (hZ : SZ A s s.heap) (htab : ∀ x ∈ c.exceptionTable.toList, False) (hlocks : meth.locks = false) (hP : va_P D vwCl W0 H) (hD : va_D A W0) (hS : va_S A s.heap H locs) (hA : ∀ q : Nat, s.heap.size ≤ q → A q) (is : List Nat) (hC : is.map (fun i => W0[i]?) = w.map some) (hnd : va_nd is = true)
    (q0 ci : Nat) {qc : vw_C} {fs : List Value} (hc : vwCl[ci]? = some qc) (hq : qc.1 = C) (he : W0[q0]? = some (b, .inr (ci, fs))) (hpx : ∀ E, px' E → px E) (hsm : ∀ u, (w' u).map Prod.fst = w.map Prod.fst) (hn : As.length = n) (hsz : ls.size = nL) (hst : st0 = As.reverse ++ .ref b :: rest) (hcat : (rest.map fun v => v.category).sum ≤ 8)
    (hdg : decode cc pc = .ok (.invokevirtual index, 3)) (hcs : cells + k ≤ R.cells ∧ slots + 6 * k ≤ R.slots) (hm1 : cells + k ≤ mc) (hm2 : slots + 6 * k ≤ ms)
    (kk : ∀ (u : S) (H1 : Heap) (locs1 : List Loc), post u → va_P D vwCl (wput W0 is (w' u)) H1 → va_D A (wput W0 is (w' u)) → va_S A s.heap H1 locs1 → W p l e R s m args below meth c H1 locs1 (cells + k) (slots + 6 * k) (vx_MQ below Qc (XTh D W0 px A) args s mc ms A) (F0 m (pc + 3) ls rest)) : W p l e R s m args below meth c H locs cells slots (vx_MQ below Qc (XTh D W0 px A) args s mc ms A) (F0 m pc ls st0) := by
  have hF := va_free (wc := w) hD hS hA is hC
  refine vx_callv (vx_runV (As := As) (rest := rest) F (hM H.size) (cwV n F.2.2.2.2 hg hw rfl rfl hd hR) ⟨(preX_of hK hT hC0 hP hD hS hZ hA is hC hnd).1, zrecv_of hK hP hc hq he, (preX_of hK hT hC0 hP hD hS hZ hA is hC hnd).2⟩ rfl hn hsz hst (lv_room hcat) hdg hcs) hS (fun q _ h => hF q h) hF (fun q _ h => hF q h)
    (fun E ce q9 u t H1 locs1 ht _ _ hB _ hk1 hS1 hce hcv hcl => ?_) (fun u t H1 locs1 ht _ hw1 hB _ hk1 hS1 => ?_)
  · have hB2 := hB.2
    rw [ht] at hB2
    exact x_on htab hlocks (wkeep hP hD is hC hk1 hB2) hS1 (hpx E hB.1) hm1 hm2 hce hcv hcl
  · rw [ht] at hB
    obtain ⟨h1, h2⟩ := wjoin hP hD is hC (hsm u) hk1 hB
    exact kk u H1 locs1 hw1 h1 h2 hS1
end ZX
