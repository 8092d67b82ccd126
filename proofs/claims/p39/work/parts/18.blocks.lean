/-! worlds in blocks -/
def PW (ws : va_W) : Prop := ws.Pairwise (fun p q => p.1 ≠ q.1)
theorem vaD_iff {A : Nat → Prop} {ws : va_W} : va_D A ws ↔ PW ws ∧ ∀ q ∈ ws, A q.1 := by
  constructor
  · rintro ⟨h1, h2⟩
    refine ⟨List.pairwise_iff_getElem.mpr (fun i j hi hj hij e => ?_), fun q hq => ?_⟩
    · have := h1 i j ws[i] ws[j] (List.getElem?_eq_getElem hi) (List.getElem?_eq_getElem hj) e
      omega
    · obtain ⟨k, hk⟩ := List.mem_iff_getElem?.mp hq
      exact h2 k q hk
  · rintro ⟨h1, h2⟩
    refine ⟨fun i j p q hi hj e => ?_, fun k q hk => h2 q (List.mem_of_getElem? hk)⟩
    obtain ⟨li, ei⟩ := List.getElem?_eq_some_iff.mp hi
    obtain ⟨lj, ej⟩ := List.getElem?_eq_some_iff.mp hj
    have h3 := List.pairwise_iff_getElem.mp h1
    rcases Nat.lt_trichotomy i j with q1 | q1 | q1
    · exact absurd (by rw [ei, ej]; exact e) (h3 i j li lj q1)
    · exact q1
    · exact absurd (by rw [ei, ej]; exact e.symm) (h3 j i lj li q1)
def bset : List va_W → List Nat → List va_W → List va_W
  | bs, i :: is, e :: es => bset (bs.set i e) is es
  | bs, _, _ => bs
theorem bset_get (is : List Nat) : ∀ (bs nb : List va_W), is.length = nb.length → ∀ (k : Nat) (q : va_W), (bset bs is nb)[k]? = some q → q ∈ nb ∨ (bs[k]? = some q ∧ k ∉ is) := by
  induction is with
  | nil =>
    intro bs nb hl k q h
    cases nb with
    | nil => exact Or.inr ⟨h, List.not_mem_nil⟩
    | cons a t => simp at hl
  | cons i is ih =>
    intro bs nb hl k q h
    cases nb with
    | nil => simp at hl
    | cons e es =>
      rcases ih (bs.set i e) es (by simpa using hl) k q h with hj | ⟨h1, h2⟩
      · exact Or.inl (List.mem_cons_of_mem _ hj)
      · rw [List.getElem?_set] at h1
        by_cases hik : i = k
        · subst hik
          simp only [if_true] at h1
          split at h1
          · exact Or.inl (by simp at h1; rw [h1]; exact List.mem_cons_self)
          · cases h1
        · rw [if_neg hik] at h1
          exact Or.inr ⟨h1, by simp only [List.mem_cons, not_or]; exact ⟨fun e => hik e.symm, h2⟩⟩
theorem bmap_set (bs : List va_W) (i : Nat) (e : va_W) (h : (bs.map (List.map Prod.fst))[i]? = some (e.map Prod.fst)) : (bs.set i e).map (List.map Prod.fst) = bs.map (List.map Prod.fst) := by
  rw [List.map_set]
  apply List.ext_getElem?
  intro j
  rw [List.getElem?_set]
  split
  · rename_i hij
    subst hij
    have hlt := (List.getElem?_eq_some_iff.mp h).1
    rw [if_pos hlt, h]
  · rfl
theorem bset_fst (is : List Nat) : ∀ (bs nb : List va_W), is.map (fun i => (bs.map (List.map Prod.fst))[i]?) = (nb.map (List.map Prod.fst)).map some → (bset bs is nb).map (List.map Prod.fst) = bs.map (List.map Prod.fst) := by
  induction is with
  | nil => intro bs nb _; cases nb <;> rfl
  | cons i is ih =>
    intro bs nb h
    cases nb with
    | nil => rfl
    | cons e es =>
      simp only [List.map_cons, List.cons.injEq] at h
      have h1 := bmap_set bs i e h.1
      show (bset (bs.set i e) is es).map (List.map Prod.fst) = _
      rw [ih (bs.set i e) es (by rw [h1]; exact h.2), h1]
/-- the blocks at the places is are the callee's, in this order -/
def Bof (bs : List va_W) (is : List Nat) (cs : List va_W) : Prop := is.map (fun i => bs[i]?) = cs.map some
theorem Bof.mem {bs cs : List va_W} {is : List Nat} (h : Bof bs is cs) {c : va_W} (hc : c ∈ cs) : ∃ i ∈ is, bs[i]? = some c := by
  have h1 : some c ∈ is.map (fun i => bs[i]?) := by rw [h]; exact List.mem_map.mpr ⟨c, hc, rfl⟩
  obtain ⟨i, hi, he⟩ := List.mem_map.mp h1
  exact ⟨i, hi, he⟩
theorem PW.apart {bs : List va_W} (h : PW bs.flatten) {i j : Nat} {a b : va_W} (hi : bs[i]? = some a) (hj : bs[j]? = some b) (hij : i ≠ j) : ∀ p ∈ a, ∀ q ∈ b, p.1 ≠ q.1 := by
  have h2 := (List.pairwise_flatten.mp h).2
  obtain ⟨li, ei⟩ := List.getElem?_eq_some_iff.mp hi
  obtain ⟨lj, ej⟩ := List.getElem?_eq_some_iff.mp hj
  have h3 := List.pairwise_iff_getElem.mp h2
  rcases Nat.lt_or_ge i j with q1 | q1
  · have := h3 i j li lj q1
    rw [ei, ej] at this
    exact this
  · have := h3 j i lj li (by omega)
    rw [ei, ej] at this
    exact fun p hp q hq e => this q hq p hp e.symm
theorem Bof.sub {D : va_G} {cl : List vw_C} {A : Nat → Prop} {bs cs : List va_W} {is : List Nat} {H : Heap} (h : Bof bs is cs) (hnd : va_nd is = true) (hP : va_P D cl bs.flatten H) (hD : va_D A bs.flatten) : va_P D cl cs.flatten H ∧ va_D A cs.flatten := by
  have hin : ∀ q ∈ cs.flatten, q ∈ bs.flatten := by
    intro q hq
    obtain ⟨c, hc, hqc⟩ := List.mem_flatten.mp hq
    obtain ⟨i, _, hi⟩ := h.mem hc
    exact List.mem_flatten.mpr ⟨c, List.mem_of_getElem? hi, hqc⟩
  obtain ⟨d1, d2⟩ := vaD_iff.mp hD
  refine ⟨vaP_mem.mpr (fun q hq => vaP_mem.mp hP q (hin q hq)), vaD_iff.mpr ⟨?_, fun q hq => d2 q (hin q hq)⟩⟩
  refine List.pairwise_flatten.mpr ⟨fun c hc => ?_, ?_⟩
  · obtain ⟨i, _, hi⟩ := h.mem hc
    exact (List.pairwise_flatten.mp d1).1 c (List.mem_of_getElem? hi)
  · refine List.pairwise_iff_getElem.mpr (fun i j hi hj hij => ?_)
    have hlen : is.length = cs.length := by
      have := congrArg List.length h
      simpa using this
    have get : ∀ k (hk : k < cs.length), bs[is[k]'(by omega)]? = some cs[k] := by
      intro k hk
      have h1 := congrArg (fun l => l[k]?) h
      simp only [List.getElem?_map] at h1
      rw [List.getElem?_eq_getElem (by omega), List.getElem?_eq_getElem hk] at h1
      simpa using h1
    exact PW.apart d1 (get i hi) (get j hj) (fun e => by
      have := va_nd_inj is hnd i j (is[i]'(by omega)) (List.getElem?_eq_getElem (by omega)) ((List.getElem?_eq_getElem (by omega)).trans (congrArg some e.symm))
      omega)
theorem Bof.free {A0 : Nat → Prop} {bs cs : List va_W} {is : List Nat} {H0 H : Heap} {locs : List Loc} (h : Bof bs is cs) (hD : va_D A0 bs.flatten) (hS : va_S A0 H0 H locs) (hA : ∀ q, H0.size ≤ q → A0 q) : ∀ q, va_A cs.flatten H.size q → A0 q := by
  rintro q (⟨k, e, hk⟩ | hq)
  · obtain ⟨c, hc, hqc⟩ := List.mem_flatten.mp (List.mem_of_getElem? hk)
    obtain ⟨i, _, hi⟩ := h.mem hc
    exact (vaD_iff.mp hD).2 (q, e) (List.mem_flatten.mpr ⟨c, List.mem_of_getElem? hi, hqc⟩)
  · exact hA q (Nat.le_trans hS.1 hq)
theorem Bof.join {A0 : Nat → Prop} {D : va_G} {cl : List vw_C} {bs cs nb : List va_W} {is : List Nat} {H H1 : Heap} (h : Bof bs is cs) (hP : va_P D cl bs.flatten H) (hD : va_D A0 bs.flatten) (hL : nb.map (List.map Prod.fst) = cs.map (List.map Prod.fst))
    (hk : ∀ q : Nat, q < H.size → ¬ va_A cs.flatten H.size q → H1[q]? = H[q]?) (hP1 : va_P D cl nb.flatten H1) : va_P D cl (bset bs is nb).flatten H1 ∧ va_D A0 (bset bs is nb).flatten := by
  have hlen : is.length = nb.length := by
    have h1 := congrArg List.length h
    have h2 := congrArg List.length hL
    simp only [List.length_map] at h1 h2
    omega
  refine ⟨vaP_mem.mpr (fun q hq => ?_), ?_⟩
  · obtain ⟨b, hb, hqb⟩ := List.mem_flatten.mp hq
    obtain ⟨k, hk2⟩ := List.mem_iff_getElem?.mp hb
    rcases bset_get is bs nb hlen k b hk2 with hn | ⟨h1, h2⟩
    · exact vaP_mem.mp hP1 q (List.mem_flatten.mpr ⟨b, hn, hqb⟩)
    · have hat := vaP_mem.mp hP q (List.mem_flatten.mpr ⟨b, List.mem_of_getElem? h1, hqb⟩)
      refine hat.kept (hk q.1 hat.lt ?_)
      rintro (⟨j, e, hj⟩ | hz)
      · obtain ⟨c, hc, hqc⟩ := List.mem_flatten.mp (List.mem_of_getElem? hj)
        obtain ⟨i, hi, hic⟩ := h.mem hc
        exact PW.apart (vaD_iff.mp hD).1 h1 hic (fun e2 => h2 (e2 ▸ hi)) q hqb (q.1, e) hqc rfl
      · exact absurd hat.lt (Nat.not_lt.mpr hz)
  · refine va_D_fst ?_ hD
    rw [List.map_flatten, List.map_flatten, bset_fst is bs nb ?_]
    rw [hL]
    have := congrArg (List.map (Option.map (List.map Prod.fst))) h
    simpa [List.map_map, Function.comp_def, List.getElem?_map] using this
theorem Bof.keep {A0 : Nat → Prop} {D : va_G} {cl : List vw_C} {bs cs : List va_W} {is : List Nat} {H H1 : Heap} (h : Bof bs is cs) (hP : va_P D cl bs.flatten H) (hD : va_D A0 bs.flatten)
    (hk : ∀ q : Nat, q < H.size → ¬ va_A cs.flatten H.size q → H1[q]? = H[q]?) (hP1 : va_P D cl cs.flatten H1) : va_P D cl bs.flatten H1 := by
  refine vaP_mem.mpr (fun q hq => ?_)
  by_cases hc : q ∈ cs.flatten
  · exact vaP_mem.mp hP1 q hc
  · have hat := vaP_mem.mp hP q hq
    refine hat.kept (hk q.1 hat.lt ?_)
    rintro (⟨j, e, hj⟩ | hz)
    · have hm := List.mem_of_getElem? hj
      obtain ⟨c, hc1, hqc⟩ := List.mem_flatten.mp hm
      obtain ⟨i, hi, hic⟩ := h.mem hc1
      have hmb : (q.1, e) ∈ bs.flatten := List.mem_flatten.mpr ⟨c, List.mem_of_getElem? hic, hqc⟩
      obtain ⟨k1, e1⟩ := List.mem_iff_getElem?.mp hq
      obtain ⟨k2, e2⟩ := List.mem_iff_getElem?.mp hmb
      have := hD.1 k1 k2 q (q.1, e) e1 e2 rfl
      subst this
      rw [e1] at e2
      exact hc (by rw [Option.some.inj e2]; exact hm)
    · exact absurd hat.lt (Nat.not_lt.mpr hz)
/-! a callee's cells within a world, and the world behind the call -/
def Fp (D : va_G) (A0 : Nat → Prop) (H : Heap) (w : va_W) {S : Type} (w' W : S → va_W) : Prop := va_P D vwCl w H ∧ va_D A0 w ∧ (∀ q, va_A w H.size q → A0 q) ∧ ∀ (u : S) (H1 : Heap), (∀ q : Nat, q < H.size → ¬ va_A w H.size q → H1[q]? = H[q]?) → va_P D vwCl (w' u) H1 → va_P D vwCl (W u) H1 ∧ va_D A0 (W u)
theorem Fp.same {D : va_G} {A0 : Nat → Prop} {H0 H : Heap} {locs : List Loc} {W0 w : va_W} {S : Type} {w' : S → va_W} (hP : va_P D vwCl W0 H) (hD : va_D A0 W0) (hS : va_S A0 H0 H locs) (hA : ∀ q, H0.size ≤ q → A0 q) (is : List Nat) (hC : is.map (fun i => W0[i]?) = w.map some) (hnd : va_nd is = true) (hs : ∀ u, w' u = w) : Fp D A0 H w w' (fun _ => W0) :=
  ⟨hP.sub is (by
    have := congrArg (List.filterMap id) hC
    simpa [List.filterMap_map] using this), hD.sub is hnd hC, va_free hD hS hA is hC, fun u H1 hk hB => ⟨wkeep hP hD is hC hk (by rw [← hs u]; exact hB), hD⟩⟩
theorem Fp.blocks {D : va_G} {A0 : Nat → Prop} {H0 H : Heap} {locs : List Loc} {bs cs : List va_W} {w : va_W} {S : Type} {w' : S → va_W} {nb nbs : S → List va_W} (hP : va_P D vwCl bs.flatten H) (hD : va_D A0 bs.flatten) (hS : va_S A0 H0 H locs) (hA : ∀ q, H0.size ≤ q → A0 q) (is : List Nat) (hC : Bof bs is cs) (hnd : va_nd is = true) (hw : cs.flatten = w) (hN : ∀ u, (nb u).flatten = w' u) (hL : ∀ u, (nb u).map (List.map Prod.fst) = cs.map (List.map Prod.fst)) (hW : ∀ u, bset bs is (nb u) = nbs u) : Fp D A0 H w w' (fun u => (nbs u).flatten) := by
  subst hw
  obtain ⟨h1, h2⟩ := hC.sub hnd hP hD
  refine ⟨h1, h2, hC.free hD hS hA, fun u H1 hk hB => ?_⟩
  rw [← hN u] at hB
  have := hC.join hP hD (hL u) hk hB
  rw [hW u] at this
  exact this
theorem Fp.part {D : va_G} {A0 : Nat → Prop} {H0 H : Heap} {locs : List Loc} {bs : List va_W} {b w : va_W} {S : Type} {w' nbl : S → va_W} {nbs : S → List va_W} (hP : va_P D vwCl bs.flatten H) (hD : va_D A0 bs.flatten) (hS : va_S A0 H0 H locs) (hA : ∀ q, H0.size ≤ q → A0 q) (i : Nat) (hb : bs[i]? = some b) (is : List Nat) (hC : is.map (fun i => b[i]?) = w.map some) (hnd : va_nd is = true) (hsm : ∀ u, (w' u).map Prod.fst = w.map Prod.fst) (hN : ∀ u, wput b is (w' u) = nbl u) (hW : ∀ u, bs.set i (nbl u) = nbs u) : Fp D A0 H w w' (fun u => (nbs u).flatten) := by
  have hB : Bof bs [i] [b] := by unfold Bof; simp [hb]
  obtain ⟨h1, h2⟩ := hB.sub rfl hP hD
  have hfl : ([b] : List va_W).flatten = b := by simp
  rw [hfl] at h1 h2
  have h3 : va_P D vwCl w H := h1.sub is (by
    have := congrArg (List.filterMap id) hC
    simpa [List.filterMap_map] using this)
  refine ⟨h3, h2.sub is hnd hC, va_free h2 hS hA is hC, fun u H1 hk hB1 => ?_⟩
  obtain ⟨j1, j2⟩ := wjoin h1 h2 is hC (hsm u) hk hB1
  rw [hN u] at j1 j2
  have hfs : (nbl u).map Prod.fst = b.map Prod.fst := by
    rw [← hN u]
    exact wput_fst is b (w' u) (by rw [hsm u]; exact mapget_fst hC)
  have := hB.join (nb := [nbl u]) hP hD (by simp [hfs]) (H1 := H1) (fun q q1 q2 => hk q q1 (fun z => q2 (by rw [hfl]; exact va_A_mono hC q z))) (by simpa using j1)
  rw [show bset bs [i] [nbl u] = bs.set i (nbl u) from rfl, hW u] at this
  exact this
section ZG
variable {p : Program} {l : Launch} {e : Env} {R : Room} {s : State} {m : MethodId} {args : Array Value} {below : List Frame} {meth : Method} {c : Code} {H : Heap} {locs : List Loc} {cells slots : Nat} {Q : State → Prop}
variable {cc : ByteArray} {pc : Nat} {ls : Array Slot} {rest st0 : List Value} {D : va_G} {cy : Nat → ClassId} {A A0 : Nat → Prop} {H0 : Heap} {W0 w : va_W} {mc ms : Nat} {px px' : String → Prop}
variable {y : MethodName} {bytes : ByteArray} {maxL nL n index fr lo k : Nat} {ret : Option FieldType} {ws ws0 Ts : List Cond} {own C : String} {b : Addr} {As : List Value} {S : Type}
theorem pre_fp {av : List Value} {w' W : S → va_W} (hK : va_K D vwCl (tysA cy) s) (hT : TB s) (hF : Fp D A0 H w w' W) : FrameBlind (Pcw D cy av w H.size) ∧ ∀ U : State, U.heap = H → s.WarmedH U.vm → Pcw D cy av w H.size av.toArray U :=
  ⟨Pcw.blind, fun U hU hW => ⟨rfl, by rw [hU], by rw [hU]; exact hF.1, va_K.moved hW.alike hK, hF.2.1.weaken (fun _ _ _ _ => trivial), TB.warm hW hT⟩⟩
theorem preX_fp {av : List Value} {w' W : S → va_W} (hK : va_K D vwCl (tysA cy) s) (hT : TB s) (hC0 : TC s) (hZ : SZ A s s.heap) (hS : va_S A s.heap H locs) (hF : Fp D A H w w' W) : FrameBlind (PcwX D cy av w H.size) ∧ ∀ U : State, U.heap = H → s.WarmedH U.vm → PcwX D cy av w H.size av.toArray U :=
  ⟨PcwX.blind, fun U hU hW => ⟨rfl, by rw [hU], by rw [hU]; exact hF.1, va_K.moved hW.alike hK, hF.2.1.weaken (fun _ _ _ _ => trivial), TB.warm hW hT, TC.warm hW hC0, by
    rw [hU]; exact ((hZ.kept (fun a h1 h2 => hS.2.1 a h1 h2)).narrow hF.2.2.1).moved hW.alike⟩⟩
theorem z_gVi {post : Int32 → S → Prop} {w' W9 : S → va_W} (F : CallFix p m c cc nL s args Ts own) (hM : Ci l D cy y ws fr lo (.ref b :: As) w post w') (hg : GoodIn Ts (wsV own index C y ws)) (hw : ws = Cond.code y bytes maxL ret :: ws0)
    (hd : y.cls = C ∧ y.cls ≠ "java/lang/invoke/MethodHandle" ∧ y.cls ≠ "java/lang/invoke/VarHandle" ∧ (parseMethodDescriptor y.desc).map (fun d => d.parameters.length) = some n) (hR : fr + 1 ≤ R.frames ∧ 8 + (maxL + 11) + lo ≤ R.locals)
    (hK : va_K D vwCl (tysA cy) s) (hT : TB s) (hP : va_P D vwCl W0 H) (hS : va_S A0 H0 H locs) (hF : Fp D A0 H w w' W9)
    (q0 ci : Nat) {qc : vw_C} {fs : List Value} (hc : vwCl[ci]? = some qc) (hq : qc.1 = C) (he : W0[q0]? = some (b, .inr (ci, fs))) (hn : As.length = n) (hsz : ls.size = nL) (hst : st0 = As.reverse ++ .ref b :: rest) (hcat : (rest.map fun v => v.category).sum ≤ 8)
    (hdg : decode cc pc = .ok (.invokevirtual index, 3)) (hcs : cells ≤ R.cells ∧ slots ≤ R.slots)
    (kk : ∀ (r : Int32) (u : S) (H1 : Heap) (locs1 : List Loc), post r u → va_P D vwCl (W9 u) H1 → va_D A0 (W9 u) → va_S A0 H0 H1 locs1 → W p l e R s m args below meth c H1 locs1 cells slots Q (F0 m (pc + 3) ls (.int r :: rest))) : W p l e R s m args below meth c H locs cells slots Q (F0 m pc ls st0) := by
  refine va_calli (va_runV (As := As) (rest := rest) F (hM H.size) (cwV n F.2.2.2.2 hg hw rfl rfl hd hR) ⟨(pre_fp hK hT hF).1, zrecv_of hK hP hc hq he, (pre_fp hK hT hF).2⟩ rfl hn hsz hst (lv_room hcat) hdg hcs) hS (fun q _ h => hF.2.2.1 q h) hF.2.2.1 (fun r u t H1 locs1 ht _ hw1 hB _ hk1 hS1 => ?_)
  rw [ht] at hB
  obtain ⟨h1, h2⟩ := hF.2.2.2 u H1 hk1 hB
  exact kk r u H1 locs1 hw1 h1 h2 hS1
theorem z_gVv {post : S → Prop} {w' W9 : S → va_W} (F : CallFix p m c cc nL s args Ts own) (hM : Cv l D cy y ws fr lo (.ref b :: As) w post w') (hg : GoodIn Ts (wsV own index C y ws)) (hw : ws = Cond.code y bytes maxL ret :: ws0)
    (hd : y.cls = C ∧ y.cls ≠ "java/lang/invoke/MethodHandle" ∧ y.cls ≠ "java/lang/invoke/VarHandle" ∧ (parseMethodDescriptor y.desc).map (fun d => d.parameters.length) = some n) (hR : fr + 1 ≤ R.frames ∧ 8 + (maxL + 11) + lo ≤ R.locals)
    (hK : va_K D vwCl (tysA cy) s) (hT : TB s) (hP : va_P D vwCl W0 H) (hS : va_S A0 H0 H locs) (hF : Fp D A0 H w w' W9)
    (q0 ci : Nat) {qc : vw_C} {fs : List Value} (hc : vwCl[ci]? = some qc) (hq : qc.1 = C) (he : W0[q0]? = some (b, .inr (ci, fs))) (hn : As.length = n) (hsz : ls.size = nL) (hst : st0 = As.reverse ++ .ref b :: rest) (hcat : (rest.map fun v => v.category).sum ≤ 8)
    (hdg : decode cc pc = .ok (.invokevirtual index, 3)) (hcs : cells ≤ R.cells ∧ slots ≤ R.slots)
    (kk : ∀ (u : S) (H1 : Heap) (locs1 : List Loc), post u → va_P D vwCl (W9 u) H1 → va_D A0 (W9 u) → va_S A0 H0 H1 locs1 → W p l e R s m args below meth c H1 locs1 cells slots Q (F0 m (pc + 3) ls rest)) : W p l e R s m args below meth c H locs cells slots Q (F0 m pc ls st0) := by
  refine va_callv (va_runV (As := As) (rest := rest) F (hM H.size) (cwV n F.2.2.2.2 hg hw rfl rfl hd hR) ⟨(pre_fp hK hT hF).1, zrecv_of hK hP hc hq he, (pre_fp hK hT hF).2⟩ rfl hn hsz hst (lv_room hcat) hdg hcs) hS (fun q _ h => hF.2.2.1 q h) hF.2.2.1 (fun u t H1 locs1 ht _ hw1 hB _ hk1 hS1 => ?_)
  rw [ht] at hB
  obtain ⟨h1, h2⟩ := hF.2.2.2 u H1 hk1 hB
  exact kk u H1 locs1 hw1 h1 h2 hS1
theorem z_gSi {post : Int32 → S → Prop} {w' W9 : S → va_W} (F : CallFix p m c cc nL s args Ts own) (hM : Ci l D cy y ws fr lo As w post w') (hg : GoodIn Ts (va_wsS own index y ws)) (hw : ws = Cond.code y bytes maxL ret :: ws0)
    (hd : y.cls ≠ "java/lang/invoke/MethodHandle" ∧ y.cls ≠ "java/lang/invoke/VarHandle" ∧ (parseMethodDescriptor y.desc).map (fun d => d.parameters.length) = some n) (hR : fr + 1 ≤ R.frames ∧ 8 + (maxL + 11) + lo ≤ R.locals)
    (hK : va_K D vwCl (tysA cy) s) (hT : TB s) (hS : va_S A0 H0 H locs) (hF : Fp D A0 H w w' W9) (hn : As.length = n) (hsz : ls.size = nL) (hst : st0 = As.reverse ++ rest) (hcat : (rest.map fun v => v.category).sum ≤ 8)
    (hdg : decode cc pc = .ok (.invokestatic index, 3)) (hcs : cells ≤ R.cells ∧ slots ≤ R.slots)
    (kk : ∀ (r : Int32) (u : S) (H1 : Heap) (locs1 : List Loc), post r u → va_P D vwCl (W9 u) H1 → va_D A0 (W9 u) → va_S A0 H0 H1 locs1 → W p l e R s m args below meth c H1 locs1 cells slots Q (F0 m (pc + 3) ls (.int r :: rest))) : W p l e R s m args below meth c H locs cells slots Q (F0 m pc ls st0) := by
  refine va_calli (va_runS (As := As) (rest := rest) F (hM H.size) (va_cwS n F.2.2.2.2 hg hw rfl rfl hd hR) (pre_fp hK hT hF) rfl hn hsz hst (lv_room hcat) hdg hcs) hS (fun q _ h => hF.2.2.1 q h) hF.2.2.1 (fun r u t H1 locs1 ht _ hw1 hB _ hk1 hS1 => ?_)
  rw [ht] at hB
  obtain ⟨h1, h2⟩ := hF.2.2.2 u H1 hk1 hB
  exact kk r u H1 locs1 hw1 h1 h2 hS1
/-- a static call that may throw and leaves its world as it was -/
theorem x_gSv {post : S → Prop} {w' : S → va_W} {Qc : Array Value → State → Outcome → State → Prop} (F : CallFix p m c cc nL s args Ts own) (hM : Xv l D cy y ws fr lo k As w post w' px') (hg : GoodIn Ts (va_wsS own index y ws)) (hw : ws = Cond.code y bytes maxL ret :: ws0)
    (hd : y.cls ≠ "java/lang/invoke/MethodHandle" ∧ y.cls ≠ "java/lang/invoke/VarHandle" ∧ (parseMethodDescriptor y.desc).map (fun d => d.parameters.length) = some n) (hR : fr + 1 ≤ R.frames ∧ 8 + (maxL + 11) + lo ≤ R.locals)
    (hK : va_K D vwCl (tysA cy) s) (hT : TB s) (hC0 : TC s) (hZ : SZ A s s.heap) (htab : ∀ x ∈ c.exceptionTable.toList, False) (hlocks : meth.locks = false) (hS : va_S A s.heap H locs) (hF : Fp D A H w w' (fun _ => W0)) (hs : ∀ u, w' u = w)
    (hpx : ∀ E, px' E → px E) (u0 : S) (hn : As.length = n) (hsz : ls.size = nL) (hst : st0 = As.reverse ++ rest) (hcat : (rest.map fun v => v.category).sum ≤ 8)
    (hdg : decode cc pc = .ok (.invokestatic index, 3)) (hcs : cells + k ≤ R.cells ∧ slots + 6 * k ≤ R.slots) (hm1 : cells + k ≤ mc) (hm2 : slots + 6 * k ≤ ms)
    (kk : ∀ (u : S) (H1 : Heap) (locs1 : List Loc), post u → va_P D vwCl W0 H1 → va_D A W0 → va_S A s.heap H1 locs1 → W p l e R s m args below meth c H1 locs1 (cells + k) (slots + 6 * k) (vx_MQ below Qc (XTh D W0 px A) args s mc ms A) (F0 m (pc + 3) ls rest)) : W p l e R s m args below meth c H locs cells slots (vx_MQ below Qc (XTh D W0 px A) args s mc ms A) (F0 m pc ls st0) := by
  refine vx_callv (vx_runS (As := As) (rest := rest) F (hM H.size) (va_cwS n F.2.2.2.2 hg hw rfl rfl hd hR) (preX_fp hK hT hC0 hZ hS hF) rfl hn hsz hst (lv_room hcat) hdg hcs) hS (fun q _ h => hF.2.2.1 q h) hF.2.2.1 (fun q _ h => hF.2.2.1 q h)
    (fun E ce q9 u t H1 locs1 ht _ _ hB _ hk1 hS1 hce hcv hcl => ?_) (fun u t H1 locs1 ht _ hw1 hB _ hk1 hS1 => ?_)
  · have hB2 := hB.2
    rw [ht] at hB2
    exact x_on htab hlocks (hF.2.2.2 u0 H1 hk1 (by rw [hs u0]; exact hB2)).1 hS1 (hpx E hB.1) hm1 hm2 hce hcv hcl
  · rw [ht] at hB
    obtain ⟨h1, h2⟩ := hF.2.2.2 u H1 hk1 hB
    exact kk u H1 locs1 hw1 h1 h2 hS1
theorem x_gVv {post : S → Prop} {w' : S → va_W} {Qc : Array Value → State → Outcome → State → Prop} (F : CallFix p m c cc nL s args Ts own) (hM : Xv l D cy y ws fr lo k (.ref b :: As) w post w' px') (hg : GoodIn Ts (wsV own index C y ws)) (hw : ws = Cond.code y bytes maxL ret :: ws0)
    (hd : y.cls = C ∧ y.cls ≠ "java/lang/invoke/MethodHandle" ∧ y.cls ≠ "java/lang/invoke/VarHandle" ∧ (parseMethodDescriptor y.desc).map (fun d => d.parameters.length) = some n) (hR : fr + 1 ≤ R.frames ∧ 8 + (maxL + 11) + lo ≤ R.locals)
    (hK : va_K D vwCl (tysA cy) s) (hT : TB s) (hC0 : TC s) (hZ : SZ A s s.heap) (htab : ∀ x ∈ c.exceptionTable.toList, False) (hlocks : meth.locks = false) (hP : va_P D vwCl W0 H) (hS : va_S A s.heap H locs) (hF : Fp D A H w w' (fun _ => W0)) (hs : ∀ u, w' u = w)
    (q0 ci : Nat) {qc : vw_C} {fs : List Value} (hc : vwCl[ci]? = some qc) (hq : qc.1 = C) (he : W0[q0]? = some (b, .inr (ci, fs))) (hpx : ∀ E, px' E → px E) (u0 : S) (hn : As.length = n) (hsz : ls.size = nL) (hst : st0 = As.reverse ++ .ref b :: rest) (hcat : (rest.map fun v => v.category).sum ≤ 8)
    (hdg : decode cc pc = .ok (.invokevirtual index, 3)) (hcs : cells + k ≤ R.cells ∧ slots + 6 * k ≤ R.slots) (hm1 : cells + k ≤ mc) (hm2 : slots + 6 * k ≤ ms)
    (kk : ∀ (u : S) (H1 : Heap) (locs1 : List Loc), post u → va_P D vwCl W0 H1 → va_D A W0 → va_S A s.heap H1 locs1 → W p l e R s m args below meth c H1 locs1 (cells + k) (slots + 6 * k) (vx_MQ below Qc (XTh D W0 px A) args s mc ms A) (F0 m (pc + 3) ls rest)) : W p l e R s m args below meth c H locs cells slots (vx_MQ below Qc (XTh D W0 px A) args s mc ms A) (F0 m pc ls st0) := by
  refine vx_callv (vx_runV (As := As) (rest := rest) F (hM H.size) (cwV n F.2.2.2.2 hg hw rfl rfl hd hR) ⟨(preX_fp hK hT hC0 hZ hS hF).1, zrecv_of hK hP hc hq he, (preX_fp hK hT hC0 hZ hS hF).2⟩ rfl hn hsz hst (lv_room hcat) hdg hcs) hS (fun q _ h => hF.2.2.1 q h) hF.2.2.1 (fun q _ h => hF.2.2.1 q h)
    (fun E ce q9 u t H1 locs1 ht _ _ hB _ hk1 hS1 hce hcv hcl => ?_) (fun u t H1 locs1 ht _ hw1 hB _ hk1 hS1 => ?_)
  · have hB2 := hB.2
    rw [ht] at hB2
    exact x_on htab hlocks (hF.2.2.2 u0 H1 hk1 (by rw [hs u0]; exact hB2)).1 hS1 (hpx E hB.1) hm1 hm2 hce hcv hcl
  · rw [ht] at hB
    obtain ⟨h1, h2⟩ := hF.2.2.2 u H1 hk1 hB
    exact kk u H1 locs1 hw1 h1 h2 hS1
end ZG
/-- a contract over a world in blocks -/
theorem Cv.bframe {l : Launch} {D : va_G} {cy : Nat → ClassId} {y : MethodName} {ws : List Cond} {fr lo : Nat} {av : List Value} {w : va_W} {S S2 : Type} {post : S → Prop} {w' : S → va_W} {post2 : S2 → Prop} {bs cs : List va_W} {nb : S → List va_W} {b2 : S2 → List va_W} (hM : Cv l D cy y ws fr lo av w post w') (is : List Nat) (hC : Bof bs is cs) (hnd : va_nd is = true) (hw : cs.flatten = w) (hN : ∀ u, (nb u).flatten = w' u) (hL : ∀ u, (nb u).map (List.map Prod.fst) = cs.map (List.map Prod.fst))
    (himp : ∀ u, post u → ∃ u2, post2 u2 ∧ bset bs is (nb u) = b2 u2) : Cv l D cy y ws fr lo av bs.flatten post2 (fun u2 => (b2 u2).flatten) := by
  subst hw
  intro sz p e ha hc hk s m args below hf happ hpre hT
  obtain ⟨q0, q1, qP, qK, qD, qT⟩ := hpre
  obtain ⟨r1, r2⟩ := hC.sub hnd qP qD
  obtain ⟨n, o, h1, h2, h3, ⟨⟨u, ho, hp, hB⟩, hF⟩, L, hfe, hL2⟩ := hM sz p e ha hc hk s m args below hf happ ⟨q0, q1, r1, qK, r2, qT⟩ hT
  have hfree : ∀ q, va_A cs.flatten sz q → va_A bs.flatten sz q := by
    rintro q (⟨k, e, hk⟩ | hq)
    · obtain ⟨c, hc1, hqc⟩ := List.mem_flatten.mp (List.mem_of_getElem? hk)
      obtain ⟨i, _, hi⟩ := hC.mem hc1
      obtain ⟨k2, e2⟩ := List.mem_iff_getElem?.mp (List.mem_flatten.mpr ⟨c, List.mem_of_getElem? hi, hqc⟩)
      exact Or.inl ⟨k2, e, e2⟩
    · exact Or.inr hq
  have hkk : ∀ q : Nat, q < s.heap.size → ¬ va_A cs.flatten s.heap.size q → (stepsAlone p.tables e n s).heap[q]? = s.heap[q]? := by rw [q1]; exact fun q z1 z2 => hF.2 q (by rw [q1]; exact z1) z2
  have hB2 : va_P D vwCl (nb u).flatten (stepsAlone p.tables e n s).heap := by rw [hN u]; exact hB
  have hj := (hC.join (A0 := fun _ => True) qP qD (hL u) hkk hB2).1
  obtain ⟨u2, hp2, hw2⟩ := himp u hp
  exact ⟨n, o, h1, h2, h3, ⟨⟨u2, ho, hp2, by show va_P D vwCl (b2 u2).flatten _; rw [← hw2]; exact hj⟩, hF.1, fun q z1 z2 => hF.2 q z1 (fun z => z2 (hfree q z))⟩, L, hfe, fun q hq => hfree _ (hL2 q hq)⟩
