/-! numbers: every int that the walks reckon with is iI z, z an Int -/
def iI (z : Int) : Int32 := Int32.ofInt z
theorem iI_t {z : Int} (h1 : -2147483648 ≤ z) (h2 : z < 2147483648) : (iI z).toInt = z := Int32.toInt_ofInt_of_le (by omega) (by omega)
theorem iI_of (x : Int32) : iI x.toInt = x := Int32.ofInt_toInt x
theorem iI_lo (x : Int32) : -2147483648 ≤ x.toInt := Int32.le_toInt x
theorem iI_hi (x : Int32) : x.toInt < 2147483648 := Int32.toInt_lt x
theorem iI_add (a b : Int) : iI a + iI b = iI (a + b) := (Int32.ofInt_add a b).symm
theorem iI_sub (a b : Int) : iI a - iI b = iI (a - b) := (Int32.ofInt_sub a b).symm
theorem iI_mul (a b : Int) : iI a * iI b = iI (a * b) := (Int32.ofInt_mul a b).symm
theorem iI_nat (n : Nat) : iI (n : Int) = Int32.ofNat n := Int32.ofInt_eq_ofNat
theorem iI_cl {z : Int} (h0 : 0 ≤ z) (h1 : z < 2147483648) : (iI z).toNatClampNeg = z.toNat := Int32.toNatClampNeg_ofInt_of_le (by omega) (by omega)
theorem iI_in {z : Int} {N : Nat} (h0 : 0 ≤ z) (h1 : z < N) (hN : N < 2147483648) : vp_in (iI z) N := vp_in_iff.mpr (by rw [iI_t (by omega) (by omega)]; exact ⟨h0, h1⟩)
theorem iI_inj {a b : Int} (ha : -2147483648 ≤ a) (ha' : a < 2147483648) (hb : -2147483648 ≤ b) (hb' : b < 2147483648) (h : iI a = iI b) : a = b := by
  have := congrArg Int32.toInt h
  rwa [iI_t ha ha', iI_t hb hb'] at this
/-! the classes of the rows -/
def tysA (cy : Nat → ClassId) : List (ClassId × FieldType) := [(cy 0, .int), (cy 1, .boolean), (cy 2, .object RX3), (cy 0, .int)]
/-! what the tables say of the nest, and of the texts -/
def tbF : List (Nat × String × String × String) := [(57, RX3, "line", "LBackwardSearch$Row;"), (71, RX3, "word", "LBackwardSearch$Row;"), (127, RX3, "found", "LBackwardSearch$Row;"), (121, RX3, "place", "I"), (102, RX3, "looks", "I"), (124, RX3, "compared", "I")]
def tbM : List (String × Nat × MethodName) := [(RX4, 9, yX3_init), (RX4, 21, yX0_init), (RX1, 17, yX3_init)]
def tbS : List (Nat × String) := [(222, "the text has an error"), (224, "the text has too many letters"), (87, "the search is over"), (213, "there is no such place"), (215, "there is no such letter"), (167, "the word does not fit there"), (170, "the word is empty"), (181, "no characters that can be appended"), (184, "the text would be too long"), (197, "no state is recorded"), (217, "there is no such slot"), (208, "nothing was saved in the slot")]
def TB (U : State) : Prop := (∀ q ∈ tbF, va_Nw (.fieldLinkNest RX4 q.1 q.2.1 q.2.2.1 q.2.2.2 RX4) U) ∧ (∀ q ∈ tbM, va_Nw (.methodLinkNest q.1 q.2.1 q.2.2 RX4) U) ∧ ∀ q ∈ tbS, ∃ a, vk_R RX4 q.1 q.2 a U
theorem TB.same {u U : State} (h : u.vm = U.vm) (hT : TB u) : TB U :=
  ⟨fun q hq => va_Nw.same rfl h (hT.1 q hq), fun q hq => va_Nw.same rfl h (hT.2.1 q hq), fun q hq => by
    obtain ⟨a, ha⟩ := hT.2.2 q hq
    exact ⟨a, vk_R.same h.symm ha⟩⟩
theorem TB.warm {s U : State} (hW : s.WarmedH U.vm) (hT : TB s) : TB U :=
  ⟨fun q hq => va_Nw.warmF hW (hT.1 q hq), fun q hq => va_Nw.warmM hW (hT.2.1 q hq), fun q hq => by
    obtain ⟨a, ha⟩ := hT.2.2 q hq
    exact ⟨a, vk_R.warm hW ha⟩⟩
/-! what a throw asks of the machine's statics -/
def SZ (A : Nat → Prop) (U : State) (H : Heap) : Prop := vx_Zq Bundle.tN "UNASSIGNED_STACK" Bundle.steD A U H ∧ vx_Zq Bundle.tN "SUPPRESSED_SENTINEL" Bundle.listD A U H
/-! worlds whose cells are put anew at their places -/
def wput : va_W → List Nat → va_W → va_W
  | ws, i :: is, e :: es => wput (ws.set i e) is es
  | ws, _, _ => ws
theorem wput_get (is : List Nat) : ∀ (ws w1 : va_W), is.length = w1.length → ∀ (k : Nat) (q : Nat × va_E), (wput ws is w1)[k]? = some q → (∃ j : Nat, w1[j]? = some q) ∨ (ws[k]? = some q ∧ k ∉ is) := by
  induction is with
  | nil =>
    intro ws w1 hl k q h
    cases w1 with
    | nil => exact Or.inr ⟨h, List.not_mem_nil⟩
    | cons a t => simp at hl
  | cons i is ih =>
    intro ws w1 hl k q h
    cases w1 with
    | nil => simp at hl
    | cons e es =>
      rcases ih (ws.set i e) es (by simpa using hl) k q h with ⟨j, hj⟩ | ⟨h1, h2⟩
      · exact Or.inl ⟨j + 1, by simpa using hj⟩
      · rw [List.getElem?_set] at h1
        by_cases hik : i = k
        · subst hik
          simp only [if_true] at h1
          split at h1
          · exact Or.inl ⟨0, by simpa using h1⟩
          · cases h1
        · rw [if_neg hik] at h1
          exact Or.inr ⟨h1, by simp only [List.mem_cons, not_or]; exact ⟨fun e => hik e.symm, h2⟩⟩
theorem map_set_fst (ws : va_W) (i : Nat) (e : Nat × va_E) (h : (ws.map Prod.fst)[i]? = some e.1) : (ws.set i e).map Prod.fst = ws.map Prod.fst := by
  rw [List.map_set]
  apply List.ext_getElem?
  intro j
  rw [List.getElem?_set]
  split
  · rename_i hij
    subst hij
    have hlt := (List.getElem?_eq_some_iff.mp h).1
    rw [if_pos hlt, h]
  · rfl
theorem wput_fst (is : List Nat) : ∀ (ws w1 : va_W), is.map (fun i => (ws.map Prod.fst)[i]?) = (w1.map Prod.fst).map some → (wput ws is w1).map Prod.fst = ws.map Prod.fst := by
  induction is with
  | nil => intro ws w1 _; cases w1 <;> rfl
  | cons i is ih =>
    intro ws w1 h
    cases w1 with
    | nil => rfl
    | cons e es =>
      simp only [List.map_cons, List.cons.injEq] at h
      have h1 := map_set_fst ws i e h.1
      show (wput (ws.set i e) is es).map Prod.fst = _
      rw [ih (ws.set i e) es (by rw [h1]; exact h.2), h1]
theorem va_D_fst {A : Nat → Prop} {ws ws' : va_W} (h : ws'.map Prod.fst = ws.map Prod.fst) (hD : va_D A ws) : va_D A ws' := by
  have key : ∀ (k : Nat) (q : Nat × va_E), ws'[k]? = some q → ∃ q', ws[k]? = some q' ∧ q'.1 = q.1 := by
    intro k q hk
    have h1 : (ws.map Prod.fst)[k]? = some q.1 := by rw [← h, List.getElem?_map, hk]; rfl
    rw [List.getElem?_map] at h1
    cases hw : ws[k]? with
    | none => rw [hw] at h1; cases h1
    | some q' => rw [hw] at h1; exact ⟨q', rfl, by simpa using h1⟩
  refine ⟨fun i j p q hi hj hpq => ?_, fun k q hk => ?_⟩
  · obtain ⟨p', hp', e1⟩ := key i p hi
    obtain ⟨q', hq', e2⟩ := key j q hj
    exact hD.1 i j p' q' hp' hq' (by rw [e1, e2, hpq])
  · obtain ⟨q', hq', e1⟩ := key k q hk
    rw [← e1]; exact hD.2 k q' hq'
theorem mapget_fst {ws wc : va_W} {is : List Nat} (hC : is.map (fun i => ws[i]?) = wc.map some) : is.map (fun i => (ws.map Prod.fst)[i]?) = (wc.map Prod.fst).map some := by
  have := congrArg (List.map (Option.map Prod.fst)) hC
  simpa [List.map_map, Function.comp_def, List.getElem?_map] using this
theorem wjoin {A0 : Nat → Prop} {D : va_G} {cl : List vw_C} {ws wc w1 : va_W} {H H1 : Heap} (hP : va_P D cl ws H) (hD : va_D A0 ws) (is : List Nat) (hC : is.map (fun i => ws[i]?) = wc.map some) (hL : w1.map Prod.fst = wc.map Prod.fst)
    (hk : ∀ q : Nat, q < H.size → ¬ va_A wc H.size q → H1[q]? = H[q]?) (hP1 : va_P D cl w1 H1) : va_P D cl (wput ws is w1) H1 ∧ va_D A0 (wput ws is w1) := by
  have hlen : is.length = w1.length := by
    have h1 := congrArg List.length hC
    have h2 := congrArg List.length hL
    simp only [List.length_map] at h1 h2
    omega
  refine ⟨fun k q hq => ?_, va_D_fst (wput_fst is ws w1 (by rw [hL]; exact mapget_fst hC)) hD⟩
  rcases wput_get is ws w1 hlen k q hq with ⟨j, hj⟩ | ⟨h1, h2⟩
  · exact hP1 j q hj
  · refine (hP k q h1).kept (hk q.1 (hP k q h1).lt ?_)
    rintro (⟨j, e, hj⟩ | h)
    · have h3 : (is.map (fun i => ws[i]?))[j]? = some (some (q.1, e)) := by rw [hC, List.getElem?_map, hj]; rfl
      rw [List.getElem?_map] at h3
      cases hij : is[j]? with
      | none => rw [hij] at h3; cases h3
      | some i =>
        rw [hij] at h3
        have h4 : ws[i]? = some (q.1, e) := by simpa using h3
        have := hD.1 k i q (q.1, e) h1 h4 rfl
        exact h2 (this ▸ List.mem_of_getElem? hij)
    · exact absurd (hP k q h1).lt (Nat.not_lt.mpr h)
/-! contracts of methods that make nothing: the world w before, w' u behind, at the same addresses -/
def Pcw (D : va_G) (cy : Nat → ClassId) (av : List Value) (w : va_W) (sz : Nat) : Array Value → State → Prop := va_Pc av (fun U => U.heap.size = sz ∧ va_P D vwCl w U.heap ∧ va_K D vwCl (tysA cy) U ∧ va_D (fun _ => True) w ∧ TB U)
def Ci (l : Launch) (D : va_G) (cy : Nat → ClassId) (y : MethodName) (ws : List Cond) (fr lo : Nat) (av : List Value) (w : va_W) {S : Type} (post : Int32 → S → Prop) (w' : S → va_W) : Prop :=
  ∀ sz : Nat, Met l y ws { frames := fr, cells := 0, slots := 0, locals := lo } (Pcw D cy av w sz) (va_Qi post (fun u t => va_P D vwCl (w' u) t.heap) (va_A w sz)) 0 0 (va_A w sz)
def Cv (l : Launch) (D : va_G) (cy : Nat → ClassId) (y : MethodName) (ws : List Cond) (fr lo : Nat) (av : List Value) (w : va_W) {S : Type} (post : S → Prop) (w' : S → va_W) : Prop :=
  ∀ sz : Nat, Met l y ws { frames := fr, cells := 0, slots := 0, locals := lo } (Pcw D cy av w sz) (va_Qv post (fun u t => va_P D vwCl (w' u) t.heap) (va_A w sz)) 0 0 (va_A w sz)
theorem Pcw.blind {D : va_G} {cy : Nat → ClassId} {av : List Value} {w : va_W} {sz : Nat} : FrameBlind (Pcw D cy av w sz) := fun a U g mk q => by
  obtain ⟨q0, q1, qP, qK, qD, qT⟩ := q
  exact ⟨q0, q1, qP, va_K.moved (u := U) (U := U.calling g mk a) (Vm.Alike.refl U.vm) qK, qD, TB.same rfl qT⟩
/-- how a walk begins -/
theorem met_of {l : Launch} {D : va_G} {cy : Nat → ClassId} {y : MethodName} {ws ws0 : List Cond} {fr lo maxL : Nat} {av : List Value} {w : va_W} {Qc : Array Value → State → Outcome → State → Prop} {cc : ByteArray} {ret : Option FieldType} {sz : Nat}
    (hy : plainName y.cls = true) (hw : ws = Cond.code y cc maxL ret :: ws0) (hle : Nat.ble (lg_sl av).length maxL = true)
    (body : ∀ (p : Program) (e : Env) (s : State) (m : MethodId) (args : Array Value) (below : List Frame) (meth : Method) (c : Code), p.tables.exec = Jvm.exec → c.code = cc → meth.sig.returnType = ret → (∀ w ∈ ws, w.before args s = true) → s.vm.findClass y.cls = some m.cls → meth.locks = false → c.maxLocals = maxL →
      s.heap.size = sz → va_P D vwCl w s.heap → va_K D vwCl (tysA cy) s → va_D (va_A w sz) w → TB s → (∀ q : Nat, s.heap.size ≤ q → va_A w sz q) → ∀ ls : Array Slot, lv_has ls maxL (lv_args 0 av) →
      W p l e ({ frames := fr, cells := 0, slots := 0, locals := lo } : Room) s m args below meth c s.heap [] 0 0 (MQ below Qc args s 0 0 (va_A w sz)) (F0 m 0 ls [])) :
    Met l y ws { frames := fr, cells := 0, slots := 0, locals := lo } (Pcw D cy av w sz) Qc 0 0 (va_A w sz) := by
  refine Met.ofW (cc := cc) (maxL := maxL) (ret := ret) hy hw ?_
  intro p e s m args below meth c s₁ B hml hv
  obtain ⟨rfl, hsz, hP, hK, hD0, hT⟩ := hv
  have hts := atoms_spec (ws := ws) B.pre
  have hl := lv_entry av (n := maxL) (Nat.le_of_ble_eq_true hle)
  rw [lg_entry_eq]
  exact body p e s m _ below meth c B.exec B.bytes B.returns hts (findClass_of_methodNamed B.named) B.notSynchronized hml hsz hP hK hD0.self hT (fun q h => Or.inr (by rw [← hsz]; exact h)) _ hl
theorem Ci_of {l : Launch} {D : va_G} {cy : Nat → ClassId} {y : MethodName} {ws ws0 : List Cond} {fr lo maxL : Nat} {av : List Value} {w : va_W} {S : Type} {post : Int32 → S → Prop} {w' : S → va_W} {cc : ByteArray} {ret : Option FieldType}
    (hy : plainName y.cls = true) (hw : ws = Cond.code y cc maxL ret :: ws0) (hle : Nat.ble (lg_sl av).length maxL = true)
    (body : ∀ (p : Program) (e : Env) (s : State) (m : MethodId) (args : Array Value) (below : List Frame) (meth : Method) (c : Code) (A : Nat → Prop), p.tables.exec = Jvm.exec → c.code = cc → meth.sig.returnType = ret → (∀ w ∈ ws, w.before args s = true) → s.vm.findClass y.cls = some m.cls → meth.locks = false → c.maxLocals = maxL →
      va_P D vwCl w s.heap → va_K D vwCl (tysA cy) s → va_D A w → TB s → (∀ q : Nat, s.heap.size ≤ q → A q) → ∀ ls : Array Slot, lv_has ls maxL (lv_args 0 av) →
      W p l e ({ frames := fr, cells := 0, slots := 0, locals := lo } : Room) s m args below meth c s.heap [] 0 0 (MQ below (va_Qi post (fun u t => va_P D vwCl (w' u) t.heap) A) args s 0 0 A) (F0 m 0 ls [])) :
    Ci l D cy y ws fr lo av w post w' := fun sz => met_of hy hw hle fun p e s m args below meth c h1 h2 h3 h4 h5 h6 h7 _ h9 h10 h11 h12 h13 ls hl => body p e s m args below meth c _ h1 h2 h3 h4 h5 h6 h7 h9 h10 h11 h12 h13 ls hl
theorem Cv_of {l : Launch} {D : va_G} {cy : Nat → ClassId} {y : MethodName} {ws ws0 : List Cond} {fr lo maxL : Nat} {av : List Value} {w : va_W} {S : Type} {post : S → Prop} {w' : S → va_W} {cc : ByteArray} {ret : Option FieldType}
    (hy : plainName y.cls = true) (hw : ws = Cond.code y cc maxL ret :: ws0) (hle : Nat.ble (lg_sl av).length maxL = true)
    (body : ∀ (p : Program) (e : Env) (s : State) (m : MethodId) (args : Array Value) (below : List Frame) (meth : Method) (c : Code) (A : Nat → Prop), p.tables.exec = Jvm.exec → c.code = cc → meth.sig.returnType = ret → (∀ w ∈ ws, w.before args s = true) → s.vm.findClass y.cls = some m.cls → meth.locks = false → c.maxLocals = maxL →
      va_P D vwCl w s.heap → va_K D vwCl (tysA cy) s → va_D A w → TB s → (∀ q : Nat, s.heap.size ≤ q → A q) → ∀ ls : Array Slot, lv_has ls maxL (lv_args 0 av) →
      W p l e ({ frames := fr, cells := 0, slots := 0, locals := lo } : Room) s m args below meth c s.heap [] 0 0 (MQ below (va_Qv post (fun u t => va_P D vwCl (w' u) t.heap) A) args s 0 0 A) (F0 m 0 ls [])) :
    Cv l D cy y ws fr lo av w post w' := fun sz => met_of hy hw hle fun p e s m args below meth c h1 h2 h3 h4 h5 h6 h7 _ h9 h10 h11 h12 h13 ls hl => body p e s m args below meth c _ h1 h2 h3 h4 h5 h6 h7 h9 h10 h11 h12 h13 ls hl
/-! bits of the walks -/
theorem z_nb {z : Int} (h0 : 0 ≤ z) (h1 : z ≤ 1) : narrow .boolean (.int (iI z)) = .int (iI z) := by
  rcases (show z = 0 ∨ z = 1 by omega) with rfl | rfl <;> decide +kernel
theorem z_fb {z : Int} (h0 : 0 ≤ z) (h1 : z ≤ 1) : fits .boolean (.int (iI z)) = true := by
  rcases (show z = 0 ∨ z = 1 by omega) with rfl | rfl <;> decide +kernel
theorem upd_same (f : Nat → Int32) (k : Nat) (x : Int32) : upd f k x k = x := pk_us
theorem upd_ne (f : Nat → Int32) {k j : Nat} (x : Int32) (h : j ≠ k) : upd f k x j = f j := pk_un h
theorem upd_more {f g : Nat → Int32} {i : Int} (h0 : 0 ≤ i) (h : ∀ j : Nat, (j : Int) < i → g j = f j) : ∀ j : Nat, (j : Int) < i + 1 → upd g i.toNat (f i.toNat) j = f j := by
  intro j hj
  by_cases hji : j = i.toNat
  · subst hji; exact upd_same _ _ _
  · rw [upd_ne _ _ hji]; exact h j (by omega)
/-! a contract over a larger world -/
theorem va_A_mono {w W0 : va_W} {sz : Nat} {is : List Nat} (hC : is.map (fun i => W0[i]?) = w.map some) : ∀ q, va_A w sz q → va_A W0 sz q := by
  rintro q (⟨k, e, hk⟩ | h)
  · have h3 : (is.map (fun i => W0[i]?))[k]? = some (some (q, e)) := by rw [hC, List.getElem?_map, hk]; rfl
    rw [List.getElem?_map] at h3
    cases hij : is[k]? with
    | none => rw [hij] at h3; cases h3
    | some i => rw [hij] at h3; exact Or.inl ⟨i, e, by simpa using h3⟩
  · exact Or.inr h
theorem Pcw.sub {D : va_G} {cy : Nat → ClassId} {av : List Value} {w W0 : va_W} {sz : Nat} {a : Array Value} {U : State} (h : Pcw D cy av W0 sz a U) (is : List Nat) (hC : is.map (fun i => W0[i]?) = w.map some) (hnd : va_nd is = true) : Pcw D cy av w sz a U := by
  obtain ⟨q0, q1, qP, qK, qD, qT⟩ := h
  exact ⟨q0, q1, qP.sub is (by
    have := congrArg (List.filterMap id) hC
    simpa [List.filterMap_map] using this), qK, qD.sub is hnd hC, qT⟩
theorem Cv.frame {l : Launch} {D : va_G} {cy : Nat → ClassId} {y : MethodName} {ws : List Cond} {fr lo : Nat} {av : List Value} {w W0 : va_W} {S S2 : Type} {post : S → Prop} {w' : S → va_W} {post2 : S2 → Prop} {w2 : S2 → va_W} (hM : Cv l D cy y ws fr lo av w post w') (is : List Nat) (hC : is.map (fun i => W0[i]?) = w.map some) (hnd : va_nd is = true) (hsm : ∀ u, (w' u).map Prod.fst = w.map Prod.fst)
    (himp : ∀ u, post u → ∃ u2, post2 u2 ∧ wput W0 is (w' u) = w2 u2) : Cv l D cy y ws fr lo av W0 post2 w2 := by
  intro sz p e ha hc hk s m args below hf happ hpre hT
  obtain ⟨n, o, h1, h2, h3, ⟨⟨u, ho, hp, hB⟩, hF⟩, L, hfe, hL⟩ := hM sz p e ha hc hk s m args below hf happ (hpre.sub is hC hnd) hT
  have hsz : s.heap.size = sz := hpre.2.1
  have hkk : ∀ q : Nat, q < s.heap.size → ¬ va_A w s.heap.size q → (stepsAlone p.tables e n s).heap[q]? = s.heap[q]? := by rw [hsz]; exact fun q q1 q2 => hF.2 q (by rw [hsz]; exact q1) q2
  have hj := (wjoin (A0 := fun _ => True) hpre.2.2.1 hpre.2.2.2.2.1 is hC (hsm u) hkk hB).1
  obtain ⟨u2, hp2, hw2⟩ := himp u hp
  exact ⟨n, o, h1, h2, h3, ⟨⟨u2, ho, hp2, by show va_P D vwCl (w2 u2) _; rw [← hw2]; exact hj⟩, hF.1, fun q q1 q2 => hF.2 q q1 (fun z => q2 (va_A_mono hC q z))⟩, L, hfe, fun q hq => va_A_mono hC _ (hL q hq)⟩
theorem Ci.frame {l : Launch} {D : va_G} {cy : Nat → ClassId} {y : MethodName} {ws : List Cond} {fr lo : Nat} {av : List Value} {w W0 : va_W} {S S2 : Type} {post : Int32 → S → Prop} {w' : S → va_W} {post2 : Int32 → S2 → Prop} {w2 : S2 → va_W} (hM : Ci l D cy y ws fr lo av w post w') (is : List Nat) (hC : is.map (fun i => W0[i]?) = w.map some) (hnd : va_nd is = true) (hsm : ∀ u, (w' u).map Prod.fst = w.map Prod.fst)
    (himp : ∀ r u, post r u → ∃ u2, post2 r u2 ∧ wput W0 is (w' u) = w2 u2) : Ci l D cy y ws fr lo av W0 post2 w2 := by
  intro sz p e ha hc hk s m args below hf happ hpre hT
  obtain ⟨n, o, h1, h2, h3, ⟨⟨r, u, ho, hp, hB⟩, hF⟩, L, hfe, hL⟩ := hM sz p e ha hc hk s m args below hf happ (hpre.sub is hC hnd) hT
  have hsz : s.heap.size = sz := hpre.2.1
  have hkk : ∀ q : Nat, q < s.heap.size → ¬ va_A w s.heap.size q → (stepsAlone p.tables e n s).heap[q]? = s.heap[q]? := by rw [hsz]; exact fun q q1 q2 => hF.2 q (by rw [hsz]; exact q1) q2
  have hj := (wjoin (A0 := fun _ => True) hpre.2.2.1 hpre.2.2.2.2.1 is hC (hsm u) hkk hB).1
  obtain ⟨u2, hp2, hw2⟩ := himp r u hp
  exact ⟨n, o, h1, h2, h3, ⟨⟨r, u2, ho, hp2, by show va_P D vwCl (w2 u2) _; rw [← hw2]; exact hj⟩, hF.1, fun q q1 q2 => hF.2 q q1 (fun z => q2 (va_A_mono hC q z))⟩, L, hfe, fun q hq => va_A_mono hC _ (hL q hq)⟩
/-- the same contract, told in other words -/
theorem Ci.tell {l : Launch} {D : va_G} {cy : Nat → ClassId} {y : MethodName} {ws : List Cond} {fr lo : Nat} {av : List Value} {w : va_W} {S S2 : Type} {post : Int32 → S → Prop} {w' : S → va_W} {post2 : Int32 → S2 → Prop} {w2 : S2 → va_W} (hM : Ci l D cy y ws fr lo av w post w') (himp : ∀ r u, post r u → ∃ u2, post2 r u2 ∧ w' u = w2 u2) : Ci l D cy y ws fr lo av w post2 w2 := by
  intro sz p e ha hc hk s m args below hf happ hpre hT
  obtain ⟨n, o, h1, h2, h3, ⟨⟨r, u, ho, hp, hB⟩, hF⟩, hL⟩ := hM sz p e ha hc hk s m args below hf happ hpre hT
  obtain ⟨u2, hp2, hw2⟩ := himp r u hp
  exact ⟨n, o, h1, h2, h3, ⟨⟨r, u2, ho, hp2, by show va_P D vwCl (w2 u2) _; rw [← hw2]; exact hB⟩, hF⟩, hL⟩
/-! longs -/
def lI (z : Int) : Int64 := Int64.ofInt z
theorem lI_t {z : Int} (h1 : -9223372036854775808 ≤ z) (h2 : z < 9223372036854775808) : (lI z).toInt = z := Int64.toInt_ofInt_of_le (by omega) (by omega)
theorem lI_sub (a b : Int) : lI a - lI b = lI (a - b) := (Int64.ofInt_sub a b).symm
theorem lI_add (a b : Int) : lI a + lI b = lI (a + b) := (Int64.ofInt_add a b).symm
theorem lI_inj {a b : Int} (ha : -9223372036854775808 ≤ a) (ha' : a < 9223372036854775808) (hb : -9223372036854775808 ≤ b) (hb' : b < 9223372036854775808) (h : lI a = lI b) : a = b := by
  have := congrArg Int64.toInt h
  rwa [lI_t ha ha', lI_t hb hb'] at this
theorem iI_l {z : Int} (h1 : -2147483648 ≤ z) (h2 : z < 2147483648) : (iI z).toInt64 = lI z := by
  apply Int64.toInt_inj.mp
  rw [Int32.toInt_toInt64, iI_t h1 h2, lI_t (by omega) (by omega)]
theorem lg_cmp_iI (x y : Int64) : lg_cmp x y = iI (if x.toInt < y.toInt then -1 else if x.toInt = y.toInt then 0 else 1) := by
  unfold lg_cmp
  simp only [gt_iff_lt, Int64.lt_iff_toInt_lt, ← Int64.toInt_inj]
  rcases Int.lt_trichotomy x.toInt y.toInt with h | h | h
  · rw [if_neg (by omega), if_neg (by omega), if_pos h]; rfl
  · rw [if_neg (by omega), if_pos h, if_neg (by omega), if_pos h]; rfl
  · rw [if_pos h, if_neg (by omega), if_neg (by omega)]; rfl
theorem r_l (x : Int32) : x.toInt64 = lI x.toInt := by
  apply Int64.toInt_inj.mp
  have := iI_lo x
  have := iI_hi x
  rw [Int32.toInt_toInt64, lI_t (by omega) (by omega)]
section ZR
variable {p : Program} {l : Launch} {e : Env} {R : Room} {s : State} {m : MethodId} {args : Array Value} {below : List Frame} {meth : Method} {c : Code} {H : Heap} {locs : List Loc} {cells slots : Nat} {Q : State → Prop}
variable {cc : ByteArray} {pc : Nat} {ls : Array Slot} {rest st0 : List Value} {D : va_G} {cy : Nat → ClassId} {A A0 : Nat → Prop} {H0 : Heap} {W0 w : va_W}
/-! ends -/
theorem z_iret {S : Type} {post : Int32 → S → Prop} {w' : S → va_W} {v : Int32} (hx : p.tables.exec = Jvm.exec) (hb : c.code = cc) (hr : meth.sig.returnType = some .int) (hlocks : meth.locks = false) (hS : va_S A s.heap H locs) (u : S) (hp : post v u) (hP : va_P D vwCl (w' u) H) (hdg : decode cc pc = .ok (.ireturn, 1)) :
    W p l e R s m args below meth c H locs cells slots (MQ below (va_Qi post (fun u t => va_P D vwCl (w' u) t.heap) A) args s cells slots A) (F0 m pc ls [.int v]) :=
  W.iret hx hb hr (fun t ht _ => ⟨⟨v, u, rfl, hp, by show va_P D vwCl (w' u) t.heap; rw [ht]; exact hP⟩, hS.F ht⟩) hS.2.2 hdg hlocks
theorem z_zret {S : Type} {post : Int32 → S → Prop} {w' : S → va_W} {v : Int32} (hx : p.tables.exec = Jvm.exec) (hb : c.code = cc) (hr : meth.sig.returnType = some .boolean) (hlocks : meth.locks = false) (hn : narrow .boolean (.int v) = .int v) (hS : va_S A s.heap H locs) (u : S) (hp : post v u) (hP : va_P D vwCl (w' u) H) (hdg : decode cc pc = .ok (.ireturn, 1)) :
    W p l e R s m args below meth c H locs cells slots (MQ below (va_Qi post (fun u t => va_P D vwCl (w' u) t.heap) A) args s cells slots A) (F0 m pc ls [.int v]) :=
  W.zret hx hb hr hn (fun t ht _ => ⟨⟨v, u, rfl, hp, by show va_P D vwCl (w' u) t.heap; rw [ht]; exact hP⟩, hS.F ht⟩) hS.2.2 hdg hlocks
theorem z_vret {S : Type} {post : S → Prop} {w' : S → va_W} (hx : p.tables.exec = Jvm.exec) (hb : c.code = cc) (hr : meth.sig.returnType = none) (hlocks : meth.locks = false) (hS : va_S A s.heap H locs) (u : S) (hp : post u) (hP : va_P D vwCl (w' u) H) (hdg : decode cc pc = .ok (.return_, 1)) :
    W p l e R s m args below meth c H locs cells slots (MQ below (va_Qv post (fun u t => va_P D vwCl (w' u) t.heap) A) args s cells slots A) (F0 m pc ls []) :=
  W.vret hx hb hr (fun t ht _ => ⟨⟨u, rfl, hp, by show va_P D vwCl (w' u) t.heap; rw [ht]; exact hP⟩, hS.F ht⟩) hS.2.2 hdg hlocks
/-! numbers on the stack -/
theorem z_add (hx : p.tables.exec = Jvm.exec) (hb : c.code = cc) {a b : Int} (hdg : decode cc pc = .ok (.iadd, 1)) (k : W p l e R s m args below meth c H locs cells slots Q (F0 m (pc + 1) ls (.int (iI (a + b)) :: rest))) : W p l e R s m args below meth c H locs cells slots Q (F0 m pc ls (.int (iI b) :: .int (iI a) :: rest)) := lv_iadd hx hb hdg (by rw [iI_add]; exact k)
theorem z_sub (hx : p.tables.exec = Jvm.exec) (hb : c.code = cc) {a b : Int} (hdg : decode cc pc = .ok (.isub, 1)) (k : W p l e R s m args below meth c H locs cells slots Q (F0 m (pc + 1) ls (.int (iI (a - b)) :: rest))) : W p l e R s m args below meth c H locs cells slots Q (F0 m pc ls (.int (iI b) :: .int (iI a) :: rest)) := lv_isub hx hb hdg (by rw [iI_sub]; exact k)
theorem z_mul (hx : p.tables.exec = Jvm.exec) (hb : c.code = cc) {a b : Int} (hdg : decode cc pc = .ok (.imul, 1)) (k : W p l e R s m args below meth c H locs cells slots Q (F0 m (pc + 1) ls (.int (iI (a * b)) :: rest))) : W p l e R s m args below meth c H locs cells slots Q (F0 m pc ls (.int (iI b) :: .int (iI a) :: rest)) := lv_imul hx hb hdg (by rw [iI_mul]; exact k)
theorem z_iinc (hx : p.tables.exec = Jvm.exec) (hb : c.code = cc) {i nL k : Nat} {n z : Int} {lv lv' : List (Nat × Value)} (hdg : decode cc pc = .ok (.iinc i n, 3)) (h : lv_has ls nL lv) (hk : lv[k]? = some (i, .int (iI z))) (hn : i < nL) (hl : (i, Value.int (iI (z + n))) :: lv.filter (fun q => !(q.1 == i) && !(q.1 + 1 == i && q.2.category == 2)) = lv')
    (kk : ∀ ls' : Array Slot, lv_has ls' nL lv' → W p l e R s m args below meth c H locs cells slots Q (F0 m (pc + 3) ls' rest)) : W p l e R s m args below meth c H locs cells slots Q (F0 m pc ls rest) := lv_iinc hx hb hdg h hk (iI_add z n) hn hl kk
/-! branches, over Int -/
theorem z_if_eq (hx : p.tables.exec = Jvm.exec) (hb : c.code = cc) {x : Int32} {a : Int} {off : Int} {tgt : Nat} (ea : x.toInt = a) (hdg : decode cc pc = .ok (.ifCond .eq off, 3)) (ht : (pc : Int) + off = (tgt : Int)) (kt : a = 0 → W p l e R s m args below meth c H locs cells slots Q (F0 m tgt ls rest)) (kf : ¬ a = 0 → W p l e R s m args below meth c H locs cells slots Q (F0 m (pc + 3) ls rest)) : W p l e R s m args below meth c H locs cells slots Q (F0 m pc ls (.int x :: rest)) :=
  lv_if_eq hx hb hdg ht (fun h => kt (by rw [← ea, h]; rfl)) (fun h => kf (fun h2 => h (Int32.toInt_inj.mp (by rw [ea, h2]; rfl))))
theorem z_if_ne (hx : p.tables.exec = Jvm.exec) (hb : c.code = cc) {x : Int32} {a : Int} {off : Int} {tgt : Nat} (ea : x.toInt = a) (hdg : decode cc pc = .ok (.ifCond .ne off, 3)) (ht : (pc : Int) + off = (tgt : Int)) (kt : ¬ a = 0 → W p l e R s m args below meth c H locs cells slots Q (F0 m tgt ls rest)) (kf : a = 0 → W p l e R s m args below meth c H locs cells slots Q (F0 m (pc + 3) ls rest)) : W p l e R s m args below meth c H locs cells slots Q (F0 m pc ls (.int x :: rest)) :=
  lv_if_ne hx hb hdg ht (fun h => kt (fun h2 => h (Int32.toInt_inj.mp (by rw [ea, h2]; rfl)))) (fun h => kf (by rw [← ea, h]; rfl))
theorem z_if_lt (hx : p.tables.exec = Jvm.exec) (hb : c.code = cc) {x : Int32} {a : Int} {off : Int} {tgt : Nat} (ea : x.toInt = a) (hdg : decode cc pc = .ok (.ifCond .lt off, 3)) (ht : (pc : Int) + off = (tgt : Int)) (kt : a < 0 → W p l e R s m args below meth c H locs cells slots Q (F0 m tgt ls rest)) (kf : ¬ a < 0 → W p l e R s m args below meth c H locs cells slots Q (F0 m (pc + 3) ls rest)) : W p l e R s m args below meth c H locs cells slots Q (F0 m pc ls (.int x :: rest)) :=
  lv_if_lt hx hb hdg ht (fun h => kt (by rw [← ea]; exact Int32.lt_iff_toInt_lt.mp h)) (fun h => kf (fun h2 => h (Int32.lt_iff_toInt_lt.mpr (by rw [ea]; exact h2))))
theorem z_if_ge (hx : p.tables.exec = Jvm.exec) (hb : c.code = cc) {x : Int32} {a : Int} {off : Int} {tgt : Nat} (ea : x.toInt = a) (hdg : decode cc pc = .ok (.ifCond .ge off, 3)) (ht : (pc : Int) + off = (tgt : Int)) (kt : 0 ≤ a → W p l e R s m args below meth c H locs cells slots Q (F0 m tgt ls rest)) (kf : ¬ 0 ≤ a → W p l e R s m args below meth c H locs cells slots Q (F0 m (pc + 3) ls rest)) : W p l e R s m args below meth c H locs cells slots Q (F0 m pc ls (.int x :: rest)) :=
  lv_if_ge hx hb hdg ht (fun h => kt (by rw [← ea]; exact Int32.le_iff_toInt_le.mp h)) (fun h => kf (fun h2 => h (Int32.le_iff_toInt_le.mpr (by rw [ea]; exact h2))))
theorem z_if_gt (hx : p.tables.exec = Jvm.exec) (hb : c.code = cc) {x : Int32} {a : Int} {off : Int} {tgt : Nat} (ea : x.toInt = a) (hdg : decode cc pc = .ok (.ifCond .gt off, 3)) (ht : (pc : Int) + off = (tgt : Int)) (kt : 0 < a → W p l e R s m args below meth c H locs cells slots Q (F0 m tgt ls rest)) (kf : ¬ 0 < a → W p l e R s m args below meth c H locs cells slots Q (F0 m (pc + 3) ls rest)) : W p l e R s m args below meth c H locs cells slots Q (F0 m pc ls (.int x :: rest)) :=
  lv_if_gt hx hb hdg ht (fun h => kt (by rw [← ea]; exact Int32.lt_iff_toInt_lt.mp h)) (fun h => kf (fun h2 => h (Int32.lt_iff_toInt_lt.mpr (by rw [ea]; exact h2))))
theorem z_if_le (hx : p.tables.exec = Jvm.exec) (hb : c.code = cc) {x : Int32} {a : Int} {off : Int} {tgt : Nat} (ea : x.toInt = a) (hdg : decode cc pc = .ok (.ifCond .le off, 3)) (ht : (pc : Int) + off = (tgt : Int)) (kt : a ≤ 0 → W p l e R s m args below meth c H locs cells slots Q (F0 m tgt ls rest)) (kf : ¬ a ≤ 0 → W p l e R s m args below meth c H locs cells slots Q (F0 m (pc + 3) ls rest)) : W p l e R s m args below meth c H locs cells slots Q (F0 m pc ls (.int x :: rest)) :=
  lv_if_le hx hb hdg ht (fun h => kt (by rw [← ea]; exact Int32.le_iff_toInt_le.mp h)) (fun h => kf (fun h2 => h (Int32.le_iff_toInt_le.mpr (by rw [ea]; exact h2))))
theorem z_icmp_eq (hx : p.tables.exec = Jvm.exec) (hb : c.code = cc) {x y : Int32} {a b : Int} {off : Int} {tgt : Nat} (ea : x.toInt = a) (eb : y.toInt = b) (hdg : decode cc pc = .ok (.if_icmp .eq off, 3)) (ht : (pc : Int) + off = (tgt : Int)) (kt : a = b → W p l e R s m args below meth c H locs cells slots Q (F0 m tgt ls rest)) (kf : ¬ a = b → W p l e R s m args below meth c H locs cells slots Q (F0 m (pc + 3) ls rest)) : W p l e R s m args below meth c H locs cells slots Q (F0 m pc ls (.int y :: .int x :: rest)) :=
  lv_icmp_eq hx hb hdg ht (fun h => kt (by rw [← ea, ← eb, h])) (fun h => kf (fun h2 => h (Int32.toInt_inj.mp (by rw [ea, eb, h2]))))
theorem z_icmp_ne (hx : p.tables.exec = Jvm.exec) (hb : c.code = cc) {x y : Int32} {a b : Int} {off : Int} {tgt : Nat} (ea : x.toInt = a) (eb : y.toInt = b) (hdg : decode cc pc = .ok (.if_icmp .ne off, 3)) (ht : (pc : Int) + off = (tgt : Int)) (kt : ¬ a = b → W p l e R s m args below meth c H locs cells slots Q (F0 m tgt ls rest)) (kf : a = b → W p l e R s m args below meth c H locs cells slots Q (F0 m (pc + 3) ls rest)) : W p l e R s m args below meth c H locs cells slots Q (F0 m pc ls (.int y :: .int x :: rest)) :=
  lv_icmp_ne hx hb hdg ht (fun h => kt (fun h2 => h (Int32.toInt_inj.mp (by rw [ea, eb, h2])))) (fun h => kf (by rw [← ea, ← eb, h]))
theorem z_icmp_lt (hx : p.tables.exec = Jvm.exec) (hb : c.code = cc) {x y : Int32} {a b : Int} {off : Int} {tgt : Nat} (ea : x.toInt = a) (eb : y.toInt = b) (hdg : decode cc pc = .ok (.if_icmp .lt off, 3)) (ht : (pc : Int) + off = (tgt : Int)) (kt : a < b → W p l e R s m args below meth c H locs cells slots Q (F0 m tgt ls rest)) (kf : ¬ a < b → W p l e R s m args below meth c H locs cells slots Q (F0 m (pc + 3) ls rest)) : W p l e R s m args below meth c H locs cells slots Q (F0 m pc ls (.int y :: .int x :: rest)) :=
  lv_icmp_lt hx hb hdg ht (fun h => kt (by rw [← ea, ← eb]; exact Int32.lt_iff_toInt_lt.mp h)) (fun h => kf (fun h2 => h (Int32.lt_iff_toInt_lt.mpr (by rw [ea, eb]; exact h2))))
theorem z_icmp_ge (hx : p.tables.exec = Jvm.exec) (hb : c.code = cc) {x y : Int32} {a b : Int} {off : Int} {tgt : Nat} (ea : x.toInt = a) (eb : y.toInt = b) (hdg : decode cc pc = .ok (.if_icmp .ge off, 3)) (ht : (pc : Int) + off = (tgt : Int)) (kt : b ≤ a → W p l e R s m args below meth c H locs cells slots Q (F0 m tgt ls rest)) (kf : ¬ b ≤ a → W p l e R s m args below meth c H locs cells slots Q (F0 m (pc + 3) ls rest)) : W p l e R s m args below meth c H locs cells slots Q (F0 m pc ls (.int y :: .int x :: rest)) :=
  lv_icmp_ge hx hb hdg ht (fun h => kt (by rw [← ea, ← eb]; exact Int32.le_iff_toInt_le.mp h)) (fun h => kf (fun h2 => h (Int32.le_iff_toInt_le.mpr (by rw [ea, eb]; exact h2))))
theorem z_icmp_gt (hx : p.tables.exec = Jvm.exec) (hb : c.code = cc) {x y : Int32} {a b : Int} {off : Int} {tgt : Nat} (ea : x.toInt = a) (eb : y.toInt = b) (hdg : decode cc pc = .ok (.if_icmp .gt off, 3)) (ht : (pc : Int) + off = (tgt : Int)) (kt : b < a → W p l e R s m args below meth c H locs cells slots Q (F0 m tgt ls rest)) (kf : ¬ b < a → W p l e R s m args below meth c H locs cells slots Q (F0 m (pc + 3) ls rest)) : W p l e R s m args below meth c H locs cells slots Q (F0 m pc ls (.int y :: .int x :: rest)) :=
  lv_icmp_gt hx hb hdg ht (fun h => kt (by rw [← ea, ← eb]; exact Int32.lt_iff_toInt_lt.mp h)) (fun h => kf (fun h2 => h (Int32.lt_iff_toInt_lt.mpr (by rw [ea, eb]; exact h2))))
theorem z_icmp_le (hx : p.tables.exec = Jvm.exec) (hb : c.code = cc) {x y : Int32} {a b : Int} {off : Int} {tgt : Nat} (ea : x.toInt = a) (eb : y.toInt = b) (hdg : decode cc pc = .ok (.if_icmp .le off, 3)) (ht : (pc : Int) + off = (tgt : Int)) (kt : a ≤ b → W p l e R s m args below meth c H locs cells slots Q (F0 m tgt ls rest)) (kf : ¬ a ≤ b → W p l e R s m args below meth c H locs cells slots Q (F0 m (pc + 3) ls rest)) : W p l e R s m args below meth c H locs cells slots Q (F0 m pc ls (.int y :: .int x :: rest)) :=
  lv_icmp_le hx hb hdg ht (fun h => kt (by rw [← ea, ← eb]; exact Int32.le_iff_toInt_le.mp h)) (fun h => kf (fun h2 => h (Int32.le_iff_toInt_le.mpr (by rw [ea, eb]; exact h2))))
theorem z_i2l (hx : p.tables.exec = Jvm.exec) (hb : c.code = cc) {x : Int32} {z : Int} (hz : x.toInt64 = lI z) (hdg : decode cc pc = .ok (.i2l, 1)) (k : W p l e R s m args below meth c H locs cells slots Q (F0 m (pc + 1) ls (.long (lI z) :: rest))) : W p l e R s m args below meth c H locs cells slots Q (F0 m pc ls (.int x :: rest)) := lv_i2l hx hb hdg hz k
theorem z_lsub (hx : p.tables.exec = Jvm.exec) (hb : c.code = cc) {a b : Int} (hdg : decode cc pc = .ok (.lsub, 1)) (k : W p l e R s m args below meth c H locs cells slots Q (F0 m (pc + 1) ls (.long (lI (a - b)) :: rest))) : W p l e R s m args below meth c H locs cells slots Q (F0 m pc ls (.long (lI b) :: .long (lI a) :: rest)) := lv_lsub hx hb hdg (by rw [lI_sub]; exact k)
theorem z_ladd (hx : p.tables.exec = Jvm.exec) (hb : c.code = cc) {a b : Int} (hdg : decode cc pc = .ok (.ladd, 1)) (k : W p l e R s m args below meth c H locs cells slots Q (F0 m (pc + 1) ls (.long (lI (a + b)) :: rest))) : W p l e R s m args below meth c H locs cells slots Q (F0 m pc ls (.long (lI b) :: .long (lI a) :: rest)) := lv_ladd hx hb hdg (by rw [lI_add]; exact k)
theorem z_ldc2 (hx : p.tables.exec = Jvm.exec) (hb : c.code = cc) {own : String} {index : Nat} {v : Int64} {z : Int} (hv : v = lI z) (hown : s.vm.findClass own = some m.cls) (hconst : (Jvm.Cond.constantLong own index v).before args s = true) (hdg : decode cc pc = .ok (.ldc2_w index, 3)) (k : W p l e R s m args below meth c H locs cells slots Q (F0 m (pc + 3) ls (.long (lI z) :: rest))) : W p l e R s m args below meth c H locs cells slots Q (F0 m pc ls rest) := lv_ldc2 hx hb hown hconst hdg (by rw [hv]; exact k)
theorem z_lcmp_lt (hx : p.tables.exec = Jvm.exec) (hb : c.code = cc) {x y : Int64} {a b : Int} {off : Int} {tgt : Nat} (ea : x.toInt = a) (eb : y.toInt = b) (hdg : decode cc pc = .ok (.lcmp, 1)) (hdg2 : decode cc (pc + 1) = .ok (.ifCond .lt off, 3)) (ht : ((pc + 1 : Nat) : Int) + off = (tgt : Int)) (kt : a < b → W p l e R s m args below meth c H locs cells slots Q (F0 m tgt ls rest)) (kf : ¬ a < b → W p l e R s m args below meth c H locs cells slots Q (F0 m (pc + 1 + 3) ls rest)) : W p l e R s m args below meth c H locs cells slots Q (F0 m pc ls (.long y :: .long x :: rest)) := by
  refine W.lcmp hx hb hdg ?_
  have h1 : lg_cmp x y = iI (if a < b then -1 else if a = b then 0 else 1) := by
    rw [← ea, ← eb]; exact lg_cmp_iI x y
  rw [h1]
  refine z_if_lt (tgt := tgt) hx hb (iI_t (by omega) (by omega)) hdg2 ht (fun h => kt (by omega)) (fun h => kf (by omega))
theorem z_lcmp_ge (hx : p.tables.exec = Jvm.exec) (hb : c.code = cc) {x y : Int64} {a b : Int} {off : Int} {tgt : Nat} (ea : x.toInt = a) (eb : y.toInt = b) (hdg : decode cc pc = .ok (.lcmp, 1)) (hdg2 : decode cc (pc + 1) = .ok (.ifCond .ge off, 3)) (ht : ((pc + 1 : Nat) : Int) + off = (tgt : Int)) (kt : b ≤ a → W p l e R s m args below meth c H locs cells slots Q (F0 m tgt ls rest)) (kf : ¬ b ≤ a → W p l e R s m args below meth c H locs cells slots Q (F0 m (pc + 1 + 3) ls rest)) : W p l e R s m args below meth c H locs cells slots Q (F0 m pc ls (.long y :: .long x :: rest)) := by
  refine W.lcmp hx hb hdg ?_
  have h1 : lg_cmp x y = iI (if a < b then -1 else if a = b then 0 else 1) := by
    rw [← ea, ← eb]; exact lg_cmp_iI x y
  rw [h1]
  refine z_if_ge (tgt := tgt) hx hb (iI_t (by omega) (by omega)) hdg2 ht (fun h => kt (by omega)) (fun h => kf (by omega))
theorem z_lcmp_gt (hx : p.tables.exec = Jvm.exec) (hb : c.code = cc) {x y : Int64} {a b : Int} {off : Int} {tgt : Nat} (ea : x.toInt = a) (eb : y.toInt = b) (hdg : decode cc pc = .ok (.lcmp, 1)) (hdg2 : decode cc (pc + 1) = .ok (.ifCond .gt off, 3)) (ht : ((pc + 1 : Nat) : Int) + off = (tgt : Int)) (kt : b < a → W p l e R s m args below meth c H locs cells slots Q (F0 m tgt ls rest)) (kf : ¬ b < a → W p l e R s m args below meth c H locs cells slots Q (F0 m (pc + 1 + 3) ls rest)) : W p l e R s m args below meth c H locs cells slots Q (F0 m pc ls (.long y :: .long x :: rest)) := by
  refine W.lcmp hx hb hdg ?_
  have h1 : lg_cmp x y = iI (if a < b then -1 else if a = b then 0 else 1) := by
    rw [← ea, ← eb]; exact lg_cmp_iI x y
  rw [h1]
  refine z_if_gt (tgt := tgt) hx hb (iI_t (by omega) (by omega)) hdg2 ht (fun h => kt (by omega)) (fun h => kf (by omega))
theorem z_lcmp_le (hx : p.tables.exec = Jvm.exec) (hb : c.code = cc) {x y : Int64} {a b : Int} {off : Int} {tgt : Nat} (ea : x.toInt = a) (eb : y.toInt = b) (hdg : decode cc pc = .ok (.lcmp, 1)) (hdg2 : decode cc (pc + 1) = .ok (.ifCond .le off, 3)) (ht : ((pc + 1 : Nat) : Int) + off = (tgt : Int)) (kt : a ≤ b → W p l e R s m args below meth c H locs cells slots Q (F0 m tgt ls rest)) (kf : ¬ a ≤ b → W p l e R s m args below meth c H locs cells slots Q (F0 m (pc + 1 + 3) ls rest)) : W p l e R s m args below meth c H locs cells slots Q (F0 m pc ls (.long y :: .long x :: rest)) := by
  refine W.lcmp hx hb hdg ?_
  have h1 : lg_cmp x y = iI (if a < b then -1 else if a = b then 0 else 1) := by
    rw [← ea, ← eb]; exact lg_cmp_iI x y
  rw [h1]
  refine z_if_le (tgt := tgt) hx hb (iI_t (by omega) (by omega)) hdg2 ht (fun h => kt (by omega)) (fun h => kf (by omega))
theorem z_lcmp_eq (hx : p.tables.exec = Jvm.exec) (hb : c.code = cc) {x y : Int64} {a b : Int} {off : Int} {tgt : Nat} (ea : x.toInt = a) (eb : y.toInt = b) (hdg : decode cc pc = .ok (.lcmp, 1)) (hdg2 : decode cc (pc + 1) = .ok (.ifCond .eq off, 3)) (ht : ((pc + 1 : Nat) : Int) + off = (tgt : Int)) (kt : a = b → W p l e R s m args below meth c H locs cells slots Q (F0 m tgt ls rest)) (kf : ¬ a = b → W p l e R s m args below meth c H locs cells slots Q (F0 m (pc + 1 + 3) ls rest)) : W p l e R s m args below meth c H locs cells slots Q (F0 m pc ls (.long y :: .long x :: rest)) := by
  refine W.lcmp hx hb hdg ?_
  have h1 : lg_cmp x y = iI (if a < b then -1 else if a = b then 0 else 1) := by
    rw [← ea, ← eb]; exact lg_cmp_iI x y
  rw [h1]
  refine z_if_eq (tgt := tgt) hx hb (iI_t (by omega) (by omega)) hdg2 ht (fun h => kt (by omega)) (fun h => kf (by omega))
theorem z_lcmp_ne (hx : p.tables.exec = Jvm.exec) (hb : c.code = cc) {x y : Int64} {a b : Int} {off : Int} {tgt : Nat} (ea : x.toInt = a) (eb : y.toInt = b) (hdg : decode cc pc = .ok (.lcmp, 1)) (hdg2 : decode cc (pc + 1) = .ok (.ifCond .ne off, 3)) (ht : ((pc + 1 : Nat) : Int) + off = (tgt : Int)) (kt : ¬ a = b → W p l e R s m args below meth c H locs cells slots Q (F0 m tgt ls rest)) (kf : a = b → W p l e R s m args below meth c H locs cells slots Q (F0 m (pc + 1 + 3) ls rest)) : W p l e R s m args below meth c H locs cells slots Q (F0 m pc ls (.long y :: .long x :: rest)) := by
  refine W.lcmp hx hb hdg ?_
  have h1 : lg_cmp x y = iI (if a < b then -1 else if a = b then 0 else 1) := by
    rw [← ea, ← eb]; exact lg_cmp_iI x y
  rw [h1]
  refine z_if_ne (tgt := tgt) hx hb (iI_t (by omega) (by omega)) hdg2 ht (fun h => kt (by omega)) (fun h => kf (by omega))
/-! rows of ints -/
theorem z_iald (hx : p.tables.exec = Jvm.exec) (hb : c.code = cc) {a : Nat} (hK : va_K D vwCl (tysA cy) s) (hP : va_P D vwCl W0 H) (q0 : Nat) {n : Nat} {f : Nat → Int32} (ha : W0[q0]? = some (a, .inl (cy 0, n, .inl f))) {z : Int} (h0 : 0 ≤ z) (h1 : z < n) (hn : n < 2147483648) (hdg : decode cc pc = .ok (.iaload, 1))
    (kk : W p l e R s m args below meth c H locs cells slots Q (F0 m (pc + 1) ls (.int (f z.toNat) :: rest))) : W p l e R s m args below meth c H locs cells slots Q (F0 m pc ls (.int (iI z) :: .ref a :: rest)) :=
  va_iald hx hb hK hP q0 0 ha rfl (iI_in h0 h1 hn) hdg (by rw [iI_cl h0 (by omega)]; exact kk)
theorem z_iast (hx : p.tables.exec = Jvm.exec) (hb : c.code = cc) {a : Nat} (hK : va_K D vwCl (tysA cy) s) (hP : va_P D vwCl W0 H) (hD : va_D A W0) (hS : va_S A H0 H locs) (q0 : Nat) {n : Nat} {f : Nat → Int32} (ha : W0[q0]? = some (a, .inl (cy 0, n, .inl f))) {z : Int} {x : Int32} (h0 : 0 ≤ z) (h1 : z < n) (hn : n < 2147483648) (hdg : decode cc pc = .ok (.iastore, 1))
    (kk : ∀ (H1 : Heap) (locs1 : List Loc), va_P D vwCl (W0.set q0 (a, .inl (cy 0, n, .inl (upd f z.toNat x)))) H1 → va_D A (W0.set q0 (a, .inl (cy 0, n, .inl (upd f z.toNat x)))) → va_S A H0 H1 locs1 → W p l e R s m args below meth c H1 locs1 cells slots Q (F0 m (pc + 1) ls rest)) : W p l e R s m args below meth c H locs cells slots Q (F0 m pc ls (.int x :: .int (iI z) :: .ref a :: rest)) :=
  va_iast hx hb hK hP hD hS q0 0 ha rfl (iI_in h0 h1 hn) hdg (by rw [iI_cl h0 (by omega)]; exact kk)
theorem z_aldq (hx : p.tables.exec = Jvm.exec) (hb : c.code = cc) {a : Nat} (hK : va_K D vwCl (tysA cy) s) (hP : va_P D vwCl W0 H) (q0 : Nat) {n : Nat} {f : Nat → Option Nat} (ha : W0[q0]? = some (a, .inl (cy 2, n, .inr (.inr (.inr (.inr f)))))) {z : Int} (h0 : 0 ≤ z) (h1 : z < n) (hn : n < 2147483648) {b : Nat} (hv : f z.toNat = some b) (hdg : decode cc pc = .ok (.aaload, 1))
    (kk : W p l e R s m args below meth c H locs cells slots Q (F0 m (pc + 1) ls (.ref b :: rest))) : W p l e R s m args below meth c H locs cells slots Q (F0 m pc ls (.int (iI z) :: .ref a :: rest)) :=
  va_aldq (C := RX3) hx hb hK hP q0 2 ha rfl (iI_in h0 h1 hn) hdg (by rw [iI_cl h0 (by omega), hv]; exact kk)
theorem z_alen (hx : p.tables.exec = Jvm.exec) (hb : c.code = cc) {a : Nat} (hK : va_K D vwCl (tysA cy) s) (hP : va_P D vwCl W0 H) (q0 t0 : Nat) {cA : ClassId} {x : vp_A} (ha : W0[q0]? = some (a, .inl (cA, x))) {ty : FieldType} (ht : (tysA cy)[t0]? = some (cA, ty)) (hdg : decode cc pc = .ok (.arraylength, 1))
    (kk : W p l e R s m args below meth c H locs cells slots Q (F0 m (pc + 1) ls (.int (iI (x.1 : Nat)) :: rest))) : W p l e R s m args below meth c H locs cells slots Q (F0 m pc ls (.ref a :: rest)) :=
  va_alen hx hb hK hP q0 t0 ha ht (iI_nat x.1).symm hdg kk
/-- the int on top, in other words -/
theorem z_top {x x' : Int32} (h : x = x') (k : W p l e R s m args below meth c H locs cells slots Q (F0 m pc ls (.int x' :: rest))) : W p l e R s m args below meth c H locs cells slots Q (F0 m pc ls (.int x :: rest)) := by rw [h]; exact k
theorem z_mmax (hml : c.maxLocals = ls.size) (hx : p.tables.exec = Jvm.exec) (hb : c.code = cc) {own : String} {index : Nat} (hown : s.vm.findClass own = some m.cls) (hlink : (Cond.methodLink own index Lib.Math.max.name).before args s = true) (hstat : (Cond.static Lib.Math.max.name).before args s = true) (hini : (Cond.initialized "java/lang/Math").before args s = true) (hcode : (Cond.code Lib.Math.max.name Lib.Math.max.code 2 (some .int)).before args s = true)
    (hframes : 1 ≤ R.frames) (hlocals : (rest.map fun v => v.category).sum + 13 ≤ R.locals) (hc : cells ≤ R.cells) (hs : slots ≤ R.slots) {a b : Int} (ha : -2147483648 ≤ a) (ha' : a < 2147483648) (hb1 : -2147483648 ≤ b) (hb2 : b < 2147483648) (hdg : decode cc pc = .ok (.invokestatic index, 3))
    (kk : ∀ z : Int, (a < b ∧ z = b) ∨ (b ≤ a ∧ z = a) → W p l e R s m args below meth c H locs cells slots Q (F0 m (pc + 3) ls (.int (iI z) :: rest))) : W p l e R s m args below meth c H locs cells slots Q (F0 m pc ls (.int (iI b) :: .int (iI a) :: rest)) := by
  refine va_mmax hx hb hml hown hlink hstat hini hcode hframes hlocals hc hs hdg ?_
  have e : iI a < iI b ↔ a < b := by rw [Int32.lt_iff_toInt_lt, iI_t ha ha', iI_t hb1 hb2]
  by_cases h : a < b
  · rw [if_pos (e.mpr h)]; exact kk b (Or.inl ⟨h, rfl⟩)
  · rw [if_neg (fun q => h (e.mp q))]; exact kk a (Or.inr ⟨by omega, rfl⟩)
theorem z_mmin (hml : c.maxLocals = ls.size) (hx : p.tables.exec = Jvm.exec) (hb : c.code = cc) {own : String} {index : Nat} (hown : s.vm.findClass own = some m.cls) (hlink : (Cond.methodLink own index Lib.Math.min.name).before args s = true) (hstat : (Cond.static Lib.Math.min.name).before args s = true) (hini : (Cond.initialized "java/lang/Math").before args s = true) (hcode : (Cond.code Lib.Math.min.name Lib.Math.min.code 2 (some .int)).before args s = true)
    (hframes : 1 ≤ R.frames) (hlocals : (rest.map fun v => v.category).sum + 13 ≤ R.locals) (hc : cells ≤ R.cells) (hs : slots ≤ R.slots) {a b : Int} (ha : -2147483648 ≤ a) (ha' : a < 2147483648) (hb1 : -2147483648 ≤ b) (hb2 : b < 2147483648) (hdg : decode cc pc = .ok (.invokestatic index, 3))
    (kk : ∀ z : Int, (b < a ∧ z = b) ∨ (a ≤ b ∧ z = a) → W p l e R s m args below meth c H locs cells slots Q (F0 m (pc + 3) ls (.int (iI z) :: rest))) : W p l e R s m args below meth c H locs cells slots Q (F0 m pc ls (.int (iI b) :: .int (iI a) :: rest)) := by
  refine va_mmin hx hb hml hown hlink hstat hini hcode hframes hlocals hc hs hdg ?_
  have e : iI b < iI a ↔ b < a := by rw [Int32.lt_iff_toInt_lt, iI_t ha ha', iI_t hb1 hb2]
  by_cases h : b < a
  · rw [if_pos (e.mpr h)]; exact kk b (Or.inl ⟨h, rfl⟩)
  · rw [if_neg (fun q => h (e.mp q))]; exact kk a (Or.inr ⟨by omega, rfl⟩)
/-! calls -/
variable {y : MethodName} {bytes : ByteArray} {maxL nL n index fr lo : Nat} {ret : Option FieldType} {ws ws0 Ts : List Cond} {own C : String} {b : Addr} {As : List Value} {S : Type}
theorem pre_of {av : List Value} (hK : va_K D vwCl (tysA cy) s) (hT : TB s) (hP : va_P D vwCl W0 H) (hD : va_D A0 W0) (is : List Nat) (hC : is.map (fun i => W0[i]?) = w.map some) (hnd : va_nd is = true) : FrameBlind (Pcw D cy av w H.size) ∧ ∀ U : State, U.heap = H → s.WarmedH U.vm → Pcw D cy av w H.size av.toArray U := by
  have hPc : va_P D vwCl w H := hP.sub is (by
    have := congrArg (List.filterMap id) hC
    simpa [List.filterMap_map] using this)
  have hDc : va_D A0 w := hD.sub is hnd hC
  exact ⟨Pcw.blind, fun U hU hW => ⟨rfl, by rw [hU], by rw [hU]; exact hPc, va_K.moved hW.alike hK, hDc.weaken (fun _ _ _ _ => trivial), TB.warm hW hT⟩⟩
theorem zrecv_of {q : vw_C} {q0 ci : Nat} {fs : List Value} (hK : va_K D vwCl (tysA cy) s) (hP : va_P D vwCl W0 H) (hc : vwCl[ci]? = some q) (hq : q.1 = C) (he : W0[q0]? = some (b, .inr (ci, fs))) : ∃ cellB : Cell, H[b]? = some cellB ∧ cellB.vm.isStatics = false ∧ s.vm.findClass C = some cellB.cls := by
  subst hq
  exact va_recv hK hP hc he
theorem z_cVi {post : Int32 → S → Prop} {w' : S → va_W} (F : CallFix p m c cc nL s args Ts own) (hM : Ci l D cy y ws fr lo (.ref b :: As) w post w') (hg : GoodIn Ts (wsV own index C y ws)) (hw : ws = Cond.code y bytes maxL ret :: ws0)
    (hd : y.cls = C ∧ y.cls ≠ "java/lang/invoke/MethodHandle" ∧ y.cls ≠ "java/lang/invoke/VarHandle" ∧ (parseMethodDescriptor y.desc).map (fun d => d.parameters.length) = some n) (hR : fr + 1 ≤ R.frames ∧ 8 + (maxL + 11) + lo ≤ R.locals)
    (hK : va_K D vwCl (tysA cy) s) (hT : TB s) (hP : va_P D vwCl W0 H) (hD : va_D A0 W0) (hS : va_S A0 H0 H locs) (hA : ∀ q : Nat, H0.size ≤ q → A0 q) (is : List Nat) (hC : is.map (fun i => W0[i]?) = w.map some) (hnd : va_nd is = true)
    (q0 ci : Nat) {qc : vw_C} {fs : List Value} (hc : vwCl[ci]? = some qc) (hq : qc.1 = C) (he : W0[q0]? = some (b, .inr (ci, fs))) (hsm : ∀ u, (w' u).map Prod.fst = w.map Prod.fst) (hn : As.length = n) (hsz : ls.size = nL) (hst : st0 = As.reverse ++ .ref b :: rest) (hcat : (rest.map fun v => v.category).sum ≤ 8)
    (hdg : decode cc pc = .ok (.invokevirtual index, 3)) (hcs : cells ≤ R.cells ∧ slots ≤ R.slots)
    (kk : ∀ (r : Int32) (u : S) (H1 : Heap) (locs1 : List Loc), post r u → va_P D vwCl (wput W0 is (w' u)) H1 → va_D A0 (wput W0 is (w' u)) → va_S A0 H0 H1 locs1 → W p l e R s m args below meth c H1 locs1 cells slots Q (F0 m (pc + 3) ls (.int r :: rest))) : W p l e R s m args below meth c H locs cells slots Q (F0 m pc ls st0) := by
  have hF := va_free (wc := w) hD hS hA is hC
  refine va_calli (va_runV (As := As) (rest := rest) F (hM H.size) (cwV n F.2.2.2.2 hg hw rfl rfl hd hR) ⟨(pre_of hK hT hP hD is hC hnd).1, zrecv_of hK hP hc hq he, (pre_of hK hT hP hD is hC hnd).2⟩ rfl hn hsz hst (lv_room hcat) hdg hcs) hS (fun q _ h => hF q h) hF (fun r u t H1 locs1 ht _ hw1 hB _ hk1 hS1 => ?_)
  rw [ht] at hB
  obtain ⟨h1, h2⟩ := wjoin hP hD is hC (hsm u) hk1 hB
  exact kk r u H1 locs1 hw1 h1 h2 hS1
theorem z_cVv {post : S → Prop} {w' : S → va_W} (F : CallFix p m c cc nL s args Ts own) (hM : Cv l D cy y ws fr lo (.ref b :: As) w post w') (hg : GoodIn Ts (wsV own index C y ws)) (hw : ws = Cond.code y bytes maxL ret :: ws0)
    (hd : y.cls = C ∧ y.cls ≠ "java/lang/invoke/MethodHandle" ∧ y.cls ≠ "java/lang/invoke/VarHandle" ∧ (parseMethodDescriptor y.desc).map (fun d => d.parameters.length) = some n) (hR : fr + 1 ≤ R.frames ∧ 8 + (maxL + 11) + lo ≤ R.locals)
    (hK : va_K D vwCl (tysA cy) s) (hT : TB s) (hP : va_P D vwCl W0 H) (hD : va_D A0 W0) (hS : va_S A0 H0 H locs) (hA : ∀ q : Nat, H0.size ≤ q → A0 q) (is : List Nat) (hC : is.map (fun i => W0[i]?) = w.map some) (hnd : va_nd is = true)
    (q0 ci : Nat) {qc : vw_C} {fs : List Value} (hc : vwCl[ci]? = some qc) (hq : qc.1 = C) (he : W0[q0]? = some (b, .inr (ci, fs))) (hsm : ∀ u, (w' u).map Prod.fst = w.map Prod.fst) (hn : As.length = n) (hsz : ls.size = nL) (hst : st0 = As.reverse ++ .ref b :: rest) (hcat : (rest.map fun v => v.category).sum ≤ 8)
    (hdg : decode cc pc = .ok (.invokevirtual index, 3)) (hcs : cells ≤ R.cells ∧ slots ≤ R.slots)
    (kk : ∀ (u : S) (H1 : Heap) (locs1 : List Loc), post u → va_P D vwCl (wput W0 is (w' u)) H1 → va_D A0 (wput W0 is (w' u)) → va_S A0 H0 H1 locs1 → W p l e R s m args below meth c H1 locs1 cells slots Q (F0 m (pc + 3) ls rest)) : W p l e R s m args below meth c H locs cells slots Q (F0 m pc ls st0) := by
  have hF := va_free (wc := w) hD hS hA is hC
  refine va_callv (va_runV (As := As) (rest := rest) F (hM H.size) (cwV n F.2.2.2.2 hg hw rfl rfl hd hR) ⟨(pre_of hK hT hP hD is hC hnd).1, zrecv_of hK hP hc hq he, (pre_of hK hT hP hD is hC hnd).2⟩ rfl hn hsz hst (lv_room hcat) hdg hcs) hS (fun q _ h => hF q h) hF (fun u t H1 locs1 ht _ hw1 hB _ hk1 hS1 => ?_)
  rw [ht] at hB
  obtain ⟨h1, h2⟩ := wjoin hP hD is hC (hsm u) hk1 hB
  exact kk u H1 locs1 hw1 h1 h2 hS1
theorem z_cSi {post : Int32 → S → Prop} {w' : S → va_W} (F : CallFix p m c cc nL s args Ts own) (hM : Ci l D cy y ws fr lo As w post w') (hg : GoodIn Ts (va_wsS own index y ws)) (hw : ws = Cond.code y bytes maxL ret :: ws0)
    (hd : y.cls ≠ "java/lang/invoke/MethodHandle" ∧ y.cls ≠ "java/lang/invoke/VarHandle" ∧ (parseMethodDescriptor y.desc).map (fun d => d.parameters.length) = some n) (hR : fr + 1 ≤ R.frames ∧ 8 + (maxL + 11) + lo ≤ R.locals)
    (hK : va_K D vwCl (tysA cy) s) (hT : TB s) (hP : va_P D vwCl W0 H) (hD : va_D A0 W0) (hS : va_S A0 H0 H locs) (hA : ∀ q : Nat, H0.size ≤ q → A0 q) (is : List Nat) (hC : is.map (fun i => W0[i]?) = w.map some) (hnd : va_nd is = true)
    (hsm : ∀ u, (w' u).map Prod.fst = w.map Prod.fst) (hn : As.length = n) (hsz : ls.size = nL) (hst : st0 = As.reverse ++ rest) (hcat : (rest.map fun v => v.category).sum ≤ 8)
    (hdg : decode cc pc = .ok (.invokestatic index, 3)) (hcs : cells ≤ R.cells ∧ slots ≤ R.slots)
    (kk : ∀ (r : Int32) (u : S) (H1 : Heap) (locs1 : List Loc), post r u → va_P D vwCl (wput W0 is (w' u)) H1 → va_D A0 (wput W0 is (w' u)) → va_S A0 H0 H1 locs1 → W p l e R s m args below meth c H1 locs1 cells slots Q (F0 m (pc + 3) ls (.int r :: rest))) : W p l e R s m args below meth c H locs cells slots Q (F0 m pc ls st0) := by
  have hF := va_free (wc := w) hD hS hA is hC
  refine va_calli (va_runS (As := As) (rest := rest) F (hM H.size) (va_cwS n F.2.2.2.2 hg hw rfl rfl hd hR) (pre_of hK hT hP hD is hC hnd) rfl hn hsz hst (lv_room hcat) hdg hcs) hS (fun q _ h => hF q h) hF (fun r u t H1 locs1 ht _ hw1 hB _ hk1 hS1 => ?_)
  rw [ht] at hB
  obtain ⟨h1, h2⟩ := wjoin hP hD is hC (hsm u) hk1 hB
  exact kk r u H1 locs1 hw1 h1 h2 hS1
end ZR
