/-! one searcher, or two, in the heap; rows of calls on them -/
def SR (D : va_G) (cy : Nat → ClassId) (A : Nat → Prop) (ad : Nat → Nat) (S : SS) (H : Heap) : Prop := ∃ u : XU, Jx u S ∧ va_P D vwCl (bX cy ad u).flatten H ∧ va_D A (bX cy ad u).flatten
def PR (D : va_G) (cy : Nat → ClassId) (A : Nat → Prop) (ad ae : Nat → Nat) (S T : SS) (H : Heap) : Prop := ∃ u v : XU, Jx u S ∧ Jx v T ∧ va_P D vwCl (bX cy ad u ++ bX cy ae v).flatten H ∧ va_D A (bX cy ad u ++ bX cy ae v).flatten
/-- a call on two searchers -/
def YNi (l : Launch) (D : va_G) (cy : Nat → ClassId) (ad ae : Nat → Nat) (y : MethodName) (ws : List Cond) (fr lo k : Nat) (As : List Value) (S T : SS) (P : Int32 → SS → SS → Prop) : Prop :=
  ∀ u v : XU, Jx u S → Jx v T → Ni l D cy y ws fr lo k (.ref (ad 0) :: .ref (ae 0) :: As) (bX cy ad u ++ bX cy ae v).flatten (fun (r : Int32) (w : XU × XU) => ∃ S' T' : SS, P r S' T' ∧ Jx w.1 S' ∧ Jx w.2 T') (fun w => (bX cy ad w.1 ++ bX cy ae w.2).flatten)
set_option maxRecDepth 100000 in
theorem bX_fst (cy : Nat → ClassId) (ad : Nat → Nat) (u v : XU) : (bX cy ad u).flatten.map Prod.fst = (bX cy ad v).flatten.map Prod.fst := rfl
set_option maxRecDepth 100000 in
theorem bX_len (cy : Nat → ClassId) (ad : Nat → Nat) (u : XU) : (bX cy ad u).flatten.length = 80 := rfl
set_option maxRecDepth 100000 in
theorem bX_0 (cy : Nat → ClassId) (ad : Nat → Nat) (u : XU) : (bX cy ad u).flatten[0]? = some (ad 0, .inr (4, [.ref (ad 1), .ref (ad 8), .ref (ad 15), .ref (ad 18), .ref (ad 62), .ref (ad 77), .ref (ad 78)])) := rfl
theorem bXX_0 (cy : Nat → ClassId) (ad ae : Nat → Nat) (u v : XU) : (bX cy ad u ++ bX cy ae v).flatten[0]? = some (ad 0, .inr (4, [.ref (ad 1), .ref (ad 8), .ref (ad 15), .ref (ad 18), .ref (ad 62), .ref (ad 77), .ref (ad 78)])) := by
  rw [List.flatten_append, List.getElem?_append_left (by rw [bX_len]; decide)]
  exact bX_0 cy ad u
theorem bXX_80 (cy : Nat → ClassId) (ad ae : Nat → Nat) (u v : XU) : (bX cy ad u ++ bX cy ae v).flatten[80]? = some (ae 0, .inr (4, [.ref (ae 1), .ref (ae 8), .ref (ae 15), .ref (ae 18), .ref (ae 62), .ref (ae 77), .ref (ae 78)])) := by
  rw [List.flatten_append, List.getElem?_append_right (by rw [bX_len]; decide), bX_len]
  exact bX_0 cy ae v
theorem one_fl (a : va_W) : ([a] : List va_W).flatten = a := by
  rw [List.flatten_cons, List.flatten_nil, List.append_nil]
theorem pair_fl (a b : List va_W) : (a ++ b).flatten = [a.flatten, b.flatten].flatten := by
  rw [List.flatten_append, List.flatten_cons, one_fl]
theorem fpO {D : va_G} {cy : Nat → ClassId} {A : Nat → Prop} {ad : Nat → Nat} {u : XU} {H0 H : Heap} {locs : List Loc} (hP : va_P D vwCl (bX cy ad u).flatten H) (hD : va_D A (bX cy ad u).flatten) (hS : va_S A H0 H locs) (hA : ∀ q, H0.size ≤ q → A q) : Fp D A H (bX cy ad u).flatten (fun u' : XU => (bX cy ad u').flatten) (fun u' => (bX cy ad u').flatten) := by
  rw [← one_fl (bX cy ad u).flatten] at hP hD
  have h := Fp.blocks hP hD hS hA (cs := [(bX cy ad u).flatten]) (w := (bX cy ad u).flatten) (w' := fun u' : XU => (bX cy ad u').flatten) (nb := fun u' : XU => [(bX cy ad u').flatten]) (nbs := fun u' : XU => [(bX cy ad u').flatten]) [0] rfl rfl (one_fl _) (fun u' => one_fl _) (fun u' => congrArg (fun l => [l]) (bX_fst cy ad u' u)) (fun _ => rfl)
  have e : (fun u' : XU => (bX cy ad u').flatten) = fun u' : XU => ([(bX cy ad u').flatten] : List va_W).flatten := funext fun u' => (one_fl _).symm
  have h2 := h
  rw [← e] at h2
  exact h2
theorem fpA {D : va_G} {cy : Nat → ClassId} {A : Nat → Prop} {ad ae : Nat → Nat} {u v : XU} {H0 H : Heap} {locs : List Loc} (hP : va_P D vwCl (bX cy ad u ++ bX cy ae v).flatten H) (hD : va_D A (bX cy ad u ++ bX cy ae v).flatten) (hS : va_S A H0 H locs) (hA : ∀ q, H0.size ≤ q → A q) : Fp D A H (bX cy ad u).flatten (fun u' : XU => (bX cy ad u').flatten) (fun u' => (bX cy ad u' ++ bX cy ae v).flatten) := by
  rw [pair_fl] at hP hD
  have h := Fp.blocks hP hD hS hA (cs := [(bX cy ad u).flatten]) (w := (bX cy ad u).flatten) (w' := fun u' : XU => (bX cy ad u').flatten) (nb := fun u' : XU => [(bX cy ad u').flatten]) (nbs := fun u' : XU => [(bX cy ad u').flatten, (bX cy ae v).flatten]) [0] rfl rfl (one_fl _) (fun u' => one_fl _) (fun u' => congrArg (fun l => [l]) (bX_fst cy ad u' u)) (fun _ => rfl)
  rw [show (fun u' : XU => (bX cy ad u' ++ bX cy ae v).flatten) = fun u' : XU => ([(bX cy ad u').flatten, (bX cy ae v).flatten] : List va_W).flatten from funext fun u' => pair_fl _ _]
  exact h
theorem fpB {D : va_G} {cy : Nat → ClassId} {A : Nat → Prop} {ad ae : Nat → Nat} {u v : XU} {H0 H : Heap} {locs : List Loc} (hP : va_P D vwCl (bX cy ad u ++ bX cy ae v).flatten H) (hD : va_D A (bX cy ad u ++ bX cy ae v).flatten) (hS : va_S A H0 H locs) (hA : ∀ q, H0.size ≤ q → A q) : Fp D A H (bX cy ae v).flatten (fun v' : XU => (bX cy ae v').flatten) (fun v' => (bX cy ad u ++ bX cy ae v').flatten) := by
  rw [pair_fl] at hP hD
  have h := Fp.blocks hP hD hS hA (cs := [(bX cy ae v).flatten]) (w := (bX cy ae v).flatten) (w' := fun u' : XU => (bX cy ae u').flatten) (nb := fun u' : XU => [(bX cy ae u').flatten]) (nbs := fun u' : XU => [(bX cy ad u).flatten, (bX cy ae u').flatten]) [1] rfl rfl (one_fl _) (fun u' => one_fl _) (fun u' => congrArg (fun l => [l]) (bX_fst cy ae u' v)) (fun _ => rfl)
  rw [show (fun v' : XU => (bX cy ad u ++ bX cy ae v').flatten) = fun u' : XU => ([(bX cy ad u).flatten, (bX cy ae u').flatten] : List va_W).flatten from funext fun u' => pair_fl _ _]
  exact h
theorem bXX_fst (cy : Nat → ClassId) (ad ae : Nat → Nat) (u v u' v' : XU) : (bX cy ad u ++ bX cy ae v).flatten.map Prod.fst = (bX cy ad u' ++ bX cy ae v').flatten.map Prod.fst := by
  rw [List.flatten_append, List.flatten_append, List.map_append, List.map_append, bX_fst cy ad u u', bX_fst cy ae v v']
theorem fpAB {D : va_G} {cy : Nat → ClassId} {A : Nat → Prop} {ad ae : Nat → Nat} {u v : XU} {H0 H : Heap} {locs : List Loc} (hP : va_P D vwCl (bX cy ad u ++ bX cy ae v).flatten H) (hD : va_D A (bX cy ad u ++ bX cy ae v).flatten) (hS : va_S A H0 H locs) (hA : ∀ q, H0.size ≤ q → A q) : Fp D A H (bX cy ad u ++ bX cy ae v).flatten (fun w : XU × XU => (bX cy ad w.1 ++ bX cy ae w.2).flatten) (fun w => (bX cy ad w.1 ++ bX cy ae w.2).flatten) := by
  rw [← one_fl (bX cy ad u ++ bX cy ae v).flatten] at hP hD
  have h := Fp.blocks hP hD hS hA (cs := [(bX cy ad u ++ bX cy ae v).flatten]) (w := (bX cy ad u ++ bX cy ae v).flatten) (w' := fun w : XU × XU => (bX cy ad w.1 ++ bX cy ae w.2).flatten) (nb := fun w : XU × XU => [(bX cy ad w.1 ++ bX cy ae w.2).flatten]) (nbs := fun w : XU × XU => [(bX cy ad w.1 ++ bX cy ae w.2).flatten]) [0] rfl rfl (one_fl _) (fun w => one_fl _) (fun w => congrArg (fun l => [l]) (bXX_fst cy ad ae w.1 w.2 u v)) (fun _ => rfl)
  have e : (fun w : XU × XU => (bX cy ad w.1 ++ bX cy ae w.2).flatten) = fun w : XU × XU => ([(bX cy ad w.1 ++ bX cy ae w.2).flatten] : List va_W).flatten := funext fun w => (one_fl _).symm
  have h2 := h
  rw [← e] at h2
  exact h2
/-- how a walk begins: a method without a table whose callees may make exceptions -/
theorem Nc_of {l : Launch} {D : va_G} {cy : Nat → ClassId} {y : MethodName} {ws ws0 : List Cond} {fr lo maxL k : Nat} {av : List Value} {w : va_W} {S : Type} {post : Int32 → S → Prop} {w' : S → va_W} {cc : ByteArray} {ret : Option FieldType}
    (hy : plainName y.cls = true) (hw : ws = Cond.code y cc maxL ret :: ws0) (hle : Nat.ble (lg_sl av).length maxL = true)
    (body : ∀ (p : Program) (e : Env) (s : State) (m : MethodId) (args : Array Value) (below : List Frame) (meth : Method) (c : Code) (A : Nat → Prop), p.tables.exec = Jvm.exec → c.code = cc → meth.sig.returnType = ret → (∀ w ∈ ws, w.before args s = true) → s.vm.findClass y.cls = some m.cls → meth.locks = false → c.maxLocals = maxL →
      va_P D vwCl w s.heap → va_K D vwCl (tysA cy) s → va_D A w → TB s → TC s → SZ A s s.heap → (∀ q : Nat, s.heap.size ≤ q → A q) → ∀ ls : Array Slot, lv_has ls maxL (lv_args 0 av) →
      W p l e ({ frames := fr, cells := k, slots := 6 * k, locals := lo } : Room) s m args below meth c s.heap [] 0 0 (MQ below (va_Qi post (fun u t => va_P D vwCl (w' u) t.heap) A) args s k (6 * k) A) (F0 m 0 ls [])) :
    Ni l D cy y ws fr lo k av w post w' := by
  intro sz
  refine Met.ofW (cc := cc) (maxL := maxL) (ret := ret) hy hw ?_
  intro p e s m args below meth c s₁ B hml hv
  obtain ⟨rfl, hsz, hP, hK, hD0, hT, hC, hZ⟩ := hv
  have hts := atoms_spec (ws := ws) B.pre
  have hl := lv_entry av (n := maxL) (Nat.le_of_ble_eq_true hle)
  rw [lg_entry_eq]
  exact body p e s m _ below meth c _ B.exec B.bytes B.returns hts (findClass_of_methodNamed B.named) B.notSynchronized hml hP hK hD0.self hT hC hZ (fun q h => Or.inr (by rw [← hsz]; exact h)) _ hl
section ZL
variable {p : Program} {l : Launch} {e : Env} {R : Room} {s : State} {m : MethodId} {args : Array Value} {below : List Frame} {meth : Method} {c : Code} {H : Heap} {locs : List Loc} {cells slots : Nat} {Q : State → Prop}
variable {cc : ByteArray} {pc : Nat} {ls : Array Slot} {rest st0 : List Value} {D : va_G} {cy : Nat → ClassId} {A A0 : Nat → Prop} {H0 : Heap} {W0 w : va_W} {mc ms : Nat} {px px' : String → Prop}
variable {y : MethodName} {bytes : ByteArray} {maxL nL n index fr lo k : Nat} {ret : Option FieldType} {ws ws0 Ts : List Cond} {own C : String} {b : Addr} {As : List Value} {S : Type}
/-- a static call of a helper that catches -/
theorem z_hSi {post : Int32 → S → Prop} {w' W9 : S → va_W} {hh : List (Nat × Nat × Nat × Nat)} (F : CallFix p m c cc nL s args Ts own) (hM : Ni l D cy y ws fr lo k As w post w') (hg : GoodIn Ts (va_wsS own index y ws)) (hw : ws = Cond.codeWith y bytes maxL ret hh :: ws0)
    (hd : y.cls ≠ "java/lang/invoke/MethodHandle" ∧ y.cls ≠ "java/lang/invoke/VarHandle" ∧ (parseMethodDescriptor y.desc).map (fun d => d.parameters.length) = some n) (hR : fr + 1 ≤ R.frames ∧ 8 + (maxL + 11) + lo ≤ R.locals)
    (hK : va_K D vwCl (tysA cy) s) (hT : TB s) (hC0 : TC s) (hZ : SZ A s s.heap) (hS : va_S A s.heap H locs) (hF : Fp D A H w w' W9) (hn : As.length = n) (hsz : ls.size = nL) (hst : st0 = As.reverse ++ rest) (hcat : (rest.map fun v => v.category).sum ≤ 8)
    (hdg : decode cc pc = .ok (.invokestatic index, 3)) (hcs : cells + k ≤ R.cells ∧ slots + 6 * k ≤ R.slots)
    (kk : ∀ (r : Int32) (u : S) (H1 : Heap) (locs1 : List Loc), post r u → va_P D vwCl (W9 u) H1 → va_D A (W9 u) → va_S A s.heap H1 locs1 → W p l e R s m args below meth c H1 locs1 (cells + k) (slots + 6 * k) Q (F0 m (pc + 3) ls (.int r :: rest))) : W p l e R s m args below meth c H locs cells slots Q (F0 m pc ls st0) := by
  refine va_calli (vx_runSW (As := As) (rest := rest) F (hM H.size) (vx_cwSW n F.2.2.2.2 hg hw rfl rfl hd hR) (preX_fp hK hT hC0 hZ hS hF) rfl hn hsz hst (lv_room hcat) hdg hcs) hS (fun q _ h => hF.2.2.1 q h) hF.2.2.1 (fun r u t H1 locs1 ht _ hw1 hB _ hk1 hS1 => ?_)
  rw [ht] at hB
  obtain ⟨h1, h2⟩ := hF.2.2.2 u H1 hk1 hB
  exact kk r u H1 locs1 hw1 h1 h2 hS1
end ZL
section PRW
variable {p : Program} {l : Launch} {e : Env} {R : Room} {s : State} {m : MethodId} {args : Array Value} {below : List Frame} {meth : Method} {c : Code} {H : Heap} {locs : List Loc} {cells slots : Nat} {Q : State → Prop}
variable {cc : ByteArray} {pc : Nat} {ls : Array Slot} {rest st0 : List Value} {D : va_G} {cy : Nat → ClassId} {A : Nat → Prop} {w : va_W}
variable {y : MethodName} {bytes : ByteArray} {maxL nL n index fr lo k : Nat} {ret : Option FieldType} {ws ws0 Ts : List Cond} {own : String} {b : Addr} {As : List Value} {S S' T T' : SS} {v : Int32} {ad ae : Nat → Nat} {hh : List (Nat × Nat × Nat × Nat)}
/-- a static call of a method without a table whose callees may make exceptions -/
theorem z_nSi {Z : Type} {post : Int32 → Z → Prop} {w' W9 : Z → va_W} (F : CallFix p m c cc nL s args Ts own) (hM : Ni l D cy y ws fr lo k As w post w') (hg : GoodIn Ts (va_wsS own index y ws)) (hw : ws = Cond.code y bytes maxL ret :: ws0)
    (hd : y.cls ≠ "java/lang/invoke/MethodHandle" ∧ y.cls ≠ "java/lang/invoke/VarHandle" ∧ (parseMethodDescriptor y.desc).map (fun d => d.parameters.length) = some n) (hR : fr + 1 ≤ R.frames ∧ 8 + (maxL + 11) + lo ≤ R.locals)
    (hK : va_K D vwCl (tysA cy) s) (hT : TB s) (hC0 : TC s) (hZ : SZ A s s.heap) (hS : va_S A s.heap H locs) (hF : Fp D A H w w' W9) (hn : As.length = n) (hsz : ls.size = nL) (hst : st0 = As.reverse ++ rest) (hcat : (rest.map fun v => v.category).sum ≤ 8)
    (hdg : decode cc pc = .ok (.invokestatic index, 3)) (hcs : cells + k ≤ R.cells ∧ slots + 6 * k ≤ R.slots)
    (kk : ∀ (r : Int32) (u : Z) (H1 : Heap) (locs1 : List Loc), post r u → va_P D vwCl (W9 u) H1 → va_D A (W9 u) → va_S A s.heap H1 locs1 → W p l e R s m args below meth c H1 locs1 (cells + k) (slots + 6 * k) Q (F0 m (pc + 3) ls (.int r :: rest))) : W p l e R s m args below meth c H locs cells slots Q (F0 m pc ls st0) := by
  refine va_calli (va_runS (As := As) (rest := rest) F (hM H.size) (va_cwS n F.2.2.2.2 hg hw rfl rfl hd hR) (preX_fp hK hT hC0 hZ hS hF) rfl hn hsz hst (lv_room hcat) hdg hcs) hS (fun q _ h => hF.2.2.1 q h) hF.2.2.1 (fun r u t H1 locs1 ht _ hw1 hB _ hk1 hS1 => ?_)
  rw [ht] at hB
  obtain ⟨h1, h2⟩ := hF.2.2.2 u H1 hk1 hB
  exact kk r u H1 locs1 hw1 h1 h2 hS1
set_option maxRecDepth 100000 in
theorem pV1 (F : CallFix p m c cc nL s args Ts own) (hM : XCi l D cy ad y ws fr lo As S v S') (hg : GoodIn Ts (wsV own index RX4 y ws)) (hw : ws = Cond.code y bytes maxL ret :: ws0)
    (hd : y.cls = RX4 ∧ y.cls ≠ "java/lang/invoke/MethodHandle" ∧ y.cls ≠ "java/lang/invoke/VarHandle" ∧ (parseMethodDescriptor y.desc).map (fun d => d.parameters.length) = some n) (hR : fr + 1 ≤ R.frames ∧ 8 + (maxL + 11) + lo ≤ R.locals)
    (hK : va_K D vwCl (tysA cy) s) (hT : TB s) (hA : ∀ q : Nat, s.heap.size ≤ q → A q) (hn : As.length = n) (hsz : ls.size = nL) (hst : st0 = As.reverse ++ .ref (ad 0) :: rest) (hcat : (rest.map fun v => v.category).sum ≤ 8)
    (hdg : decode cc pc = .ok (.invokevirtual index, 3)) (hcs : cells ≤ R.cells ∧ slots ≤ R.slots) (hI : PR D cy A ad ae S T H) (hS : va_S A s.heap H locs)
    (kk : ∀ (H1 : Heap) (locs1 : List Loc), PR D cy A ad ae S' T H1 → va_S A s.heap H1 locs1 → W p l e R s m args below meth c H1 locs1 cells slots Q (F0 m (pc + 3) ls (.int v :: rest))) : W p l e R s m args below meth c H locs cells slots Q (F0 m pc ls st0) := by
  obtain ⟨u, w, J1, J2, hP, hD⟩ := hI
  refine z_gVi (b := ad 0) (rest := rest) F (hM u J1) hg hw hd hR hK hT hP hS (fpA hP hD hS hA) 0 4 rfl rfl (bXX_0 cy ad ae u w) hn hsz hst hcat hdg hcs (fun r u' H1 locs1 hp hP hD hS => ?_)
  obtain ⟨e, J⟩ := hp
  subst e
  exact kk H1 locs1 ⟨u', w, J, J2, hP, hD⟩ hS
set_option maxRecDepth 100000 in
theorem pV2 (F : CallFix p m c cc nL s args Ts own) (hM : XCi l D cy ae y ws fr lo As T v T') (hg : GoodIn Ts (wsV own index RX4 y ws)) (hw : ws = Cond.code y bytes maxL ret :: ws0)
    (hd : y.cls = RX4 ∧ y.cls ≠ "java/lang/invoke/MethodHandle" ∧ y.cls ≠ "java/lang/invoke/VarHandle" ∧ (parseMethodDescriptor y.desc).map (fun d => d.parameters.length) = some n) (hR : fr + 1 ≤ R.frames ∧ 8 + (maxL + 11) + lo ≤ R.locals)
    (hK : va_K D vwCl (tysA cy) s) (hT : TB s) (hA : ∀ q : Nat, s.heap.size ≤ q → A q) (hn : As.length = n) (hsz : ls.size = nL) (hst : st0 = As.reverse ++ .ref (ae 0) :: rest) (hcat : (rest.map fun v => v.category).sum ≤ 8)
    (hdg : decode cc pc = .ok (.invokevirtual index, 3)) (hcs : cells ≤ R.cells ∧ slots ≤ R.slots) (hI : PR D cy A ad ae S T H) (hS : va_S A s.heap H locs)
    (kk : ∀ (H1 : Heap) (locs1 : List Loc), PR D cy A ad ae S T' H1 → va_S A s.heap H1 locs1 → W p l e R s m args below meth c H1 locs1 cells slots Q (F0 m (pc + 3) ls (.int v :: rest))) : W p l e R s m args below meth c H locs cells slots Q (F0 m pc ls st0) := by
  obtain ⟨u, w, J1, J2, hP, hD⟩ := hI
  refine z_gVi (b := ae 0) (rest := rest) F (hM w J2) hg hw hd hR hK hT hP hS (fpB hP hD hS hA) 80 4 rfl rfl (bXX_80 cy ad ae u w) hn hsz hst hcat hdg hcs (fun r u' H1 locs1 hp hP hD hS => ?_)
  obtain ⟨e, J⟩ := hp
  subst e
  exact kk H1 locs1 ⟨u, u', J1, J, hP, hD⟩ hS
set_option maxRecDepth 100000 in
theorem sV1 (F : CallFix p m c cc nL s args Ts own) (hM : XCi l D cy ad y ws fr lo As S v S') (hg : GoodIn Ts (wsV own index RX4 y ws)) (hw : ws = Cond.code y bytes maxL ret :: ws0)
    (hd : y.cls = RX4 ∧ y.cls ≠ "java/lang/invoke/MethodHandle" ∧ y.cls ≠ "java/lang/invoke/VarHandle" ∧ (parseMethodDescriptor y.desc).map (fun d => d.parameters.length) = some n) (hR : fr + 1 ≤ R.frames ∧ 8 + (maxL + 11) + lo ≤ R.locals)
    (hK : va_K D vwCl (tysA cy) s) (hT : TB s) (hA : ∀ q : Nat, s.heap.size ≤ q → A q) (hn : As.length = n) (hsz : ls.size = nL) (hst : st0 = As.reverse ++ .ref (ad 0) :: rest) (hcat : (rest.map fun v => v.category).sum ≤ 8)
    (hdg : decode cc pc = .ok (.invokevirtual index, 3)) (hcs : cells ≤ R.cells ∧ slots ≤ R.slots) (hI : SR D cy A ad S H) (hS : va_S A s.heap H locs)
    (kk : ∀ (H1 : Heap) (locs1 : List Loc), SR D cy A ad S' H1 → va_S A s.heap H1 locs1 → W p l e R s m args below meth c H1 locs1 cells slots Q (F0 m (pc + 3) ls (.int v :: rest))) : W p l e R s m args below meth c H locs cells slots Q (F0 m pc ls st0) := by
  obtain ⟨u, J1, hP, hD⟩ := hI
  refine z_gVi (b := ad 0) (rest := rest) F (hM u J1) hg hw hd hR hK hT hP hS (fpO hP hD hS hA) 0 4 rfl rfl (bX_0 cy ad u) hn hsz hst hcat hdg hcs (fun r u' H1 locs1 hp hP hD hS => ?_)
  obtain ⟨e, J⟩ := hp
  subst e
  exact kk H1 locs1 ⟨u', J, hP, hD⟩ hS
theorem pS1 (F : CallFix p m c cc nL s args Ts own) (hM : XNi l D cy ad y ws fr lo k As S v S') (hg : GoodIn Ts (va_wsS own index y ws)) (hw : ws = Cond.codeWith y bytes maxL ret hh :: ws0)
    (hd : y.cls ≠ "java/lang/invoke/MethodHandle" ∧ y.cls ≠ "java/lang/invoke/VarHandle" ∧ (parseMethodDescriptor y.desc).map (fun d => d.parameters.length) = some n) (hR : fr + 1 ≤ R.frames ∧ 8 + (maxL + 11) + lo ≤ R.locals)
    (hK : va_K D vwCl (tysA cy) s) (hT : TB s) (hC0 : TC s) (hZ : SZ A s s.heap) (hA : ∀ q : Nat, s.heap.size ≤ q → A q) (hn : (Value.ref (ad 0) :: As).length = n) (hsz : ls.size = nL) (hst : st0 = (Value.ref (ad 0) :: As).reverse ++ rest) (hcat : (rest.map fun v => v.category).sum ≤ 8)
    (hdg : decode cc pc = .ok (.invokestatic index, 3)) (hcs : cells + k ≤ R.cells ∧ slots + 6 * k ≤ R.slots) (hI : PR D cy A ad ae S T H) (hS : va_S A s.heap H locs)
    (kk : ∀ (H1 : Heap) (locs1 : List Loc), PR D cy A ad ae S' T H1 → va_S A s.heap H1 locs1 → W p l e R s m args below meth c H1 locs1 (cells + k) (slots + 6 * k) Q (F0 m (pc + 3) ls (.int v :: rest))) : W p l e R s m args below meth c H locs cells slots Q (F0 m pc ls st0) := by
  obtain ⟨u, w, J1, J2, hP, hD⟩ := hI
  refine z_hSi (rest := rest) F (hM u J1) hg hw hd hR hK hT hC0 hZ hS (fpA hP hD hS hA) hn hsz hst hcat hdg hcs (fun r u' H1 locs1 hp hP hD hS => ?_)
  obtain ⟨e, J⟩ := hp
  subst e
  exact kk H1 locs1 ⟨u', w, J, J2, hP, hD⟩ hS
theorem pS2 (F : CallFix p m c cc nL s args Ts own) (hM : XNi l D cy ae y ws fr lo k As T v T') (hg : GoodIn Ts (va_wsS own index y ws)) (hw : ws = Cond.codeWith y bytes maxL ret hh :: ws0)
    (hd : y.cls ≠ "java/lang/invoke/MethodHandle" ∧ y.cls ≠ "java/lang/invoke/VarHandle" ∧ (parseMethodDescriptor y.desc).map (fun d => d.parameters.length) = some n) (hR : fr + 1 ≤ R.frames ∧ 8 + (maxL + 11) + lo ≤ R.locals)
    (hK : va_K D vwCl (tysA cy) s) (hT : TB s) (hC0 : TC s) (hZ : SZ A s s.heap) (hA : ∀ q : Nat, s.heap.size ≤ q → A q) (hn : (Value.ref (ae 0) :: As).length = n) (hsz : ls.size = nL) (hst : st0 = (Value.ref (ae 0) :: As).reverse ++ rest) (hcat : (rest.map fun v => v.category).sum ≤ 8)
    (hdg : decode cc pc = .ok (.invokestatic index, 3)) (hcs : cells + k ≤ R.cells ∧ slots + 6 * k ≤ R.slots) (hI : PR D cy A ad ae S T H) (hS : va_S A s.heap H locs)
    (kk : ∀ (H1 : Heap) (locs1 : List Loc), PR D cy A ad ae S T' H1 → va_S A s.heap H1 locs1 → W p l e R s m args below meth c H1 locs1 (cells + k) (slots + 6 * k) Q (F0 m (pc + 3) ls (.int v :: rest))) : W p l e R s m args below meth c H locs cells slots Q (F0 m pc ls st0) := by
  obtain ⟨u, w, J1, J2, hP, hD⟩ := hI
  refine z_hSi (rest := rest) F (hM w J2) hg hw hd hR hK hT hC0 hZ hS (fpB hP hD hS hA) hn hsz hst hcat hdg hcs (fun r u' H1 locs1 hp hP hD hS => ?_)
  obtain ⟨e, J⟩ := hp
  subst e
  exact kk H1 locs1 ⟨u, u', J1, J, hP, hD⟩ hS
theorem sS1 (F : CallFix p m c cc nL s args Ts own) (hM : XNi l D cy ad y ws fr lo k As S v S') (hg : GoodIn Ts (va_wsS own index y ws)) (hw : ws = Cond.codeWith y bytes maxL ret hh :: ws0)
    (hd : y.cls ≠ "java/lang/invoke/MethodHandle" ∧ y.cls ≠ "java/lang/invoke/VarHandle" ∧ (parseMethodDescriptor y.desc).map (fun d => d.parameters.length) = some n) (hR : fr + 1 ≤ R.frames ∧ 8 + (maxL + 11) + lo ≤ R.locals)
    (hK : va_K D vwCl (tysA cy) s) (hT : TB s) (hC0 : TC s) (hZ : SZ A s s.heap) (hA : ∀ q : Nat, s.heap.size ≤ q → A q) (hn : (Value.ref (ad 0) :: As).length = n) (hsz : ls.size = nL) (hst : st0 = (Value.ref (ad 0) :: As).reverse ++ rest) (hcat : (rest.map fun v => v.category).sum ≤ 8)
    (hdg : decode cc pc = .ok (.invokestatic index, 3)) (hcs : cells + k ≤ R.cells ∧ slots + 6 * k ≤ R.slots) (hI : SR D cy A ad S H) (hS : va_S A s.heap H locs)
    (kk : ∀ (H1 : Heap) (locs1 : List Loc), SR D cy A ad S' H1 → va_S A s.heap H1 locs1 → W p l e R s m args below meth c H1 locs1 (cells + k) (slots + 6 * k) Q (F0 m (pc + 3) ls (.int v :: rest))) : W p l e R s m args below meth c H locs cells slots Q (F0 m pc ls st0) := by
  obtain ⟨u, J1, hP, hD⟩ := hI
  refine z_hSi (rest := rest) F (hM u J1) hg hw hd hR hK hT hC0 hZ hS (fpO hP hD hS hA) hn hsz hst hcat hdg hcs (fun r u' H1 locs1 hp hP hD hS => ?_)
  obtain ⟨e, J⟩ := hp
  subst e
  exact kk H1 locs1 ⟨u', J, hP, hD⟩ hS
/-- the same, of a method without a table -/
theorem pN1 (F : CallFix p m c cc nL s args Ts own) (hM : XNi l D cy ad y ws fr lo k As S v S') (hg : GoodIn Ts (va_wsS own index y ws)) (hw : ws = Cond.code y bytes maxL ret :: ws0)
    (hd : y.cls ≠ "java/lang/invoke/MethodHandle" ∧ y.cls ≠ "java/lang/invoke/VarHandle" ∧ (parseMethodDescriptor y.desc).map (fun d => d.parameters.length) = some n) (hR : fr + 1 ≤ R.frames ∧ 8 + (maxL + 11) + lo ≤ R.locals)
    (hK : va_K D vwCl (tysA cy) s) (hT : TB s) (hC0 : TC s) (hZ : SZ A s s.heap) (hA : ∀ q : Nat, s.heap.size ≤ q → A q) (hn : (Value.ref (ad 0) :: As).length = n) (hsz : ls.size = nL) (hst : st0 = (Value.ref (ad 0) :: As).reverse ++ rest) (hcat : (rest.map fun v => v.category).sum ≤ 8)
    (hdg : decode cc pc = .ok (.invokestatic index, 3)) (hcs : cells + k ≤ R.cells ∧ slots + 6 * k ≤ R.slots) (hI : PR D cy A ad ae S T H) (hS : va_S A s.heap H locs)
    (kk : ∀ (H1 : Heap) (locs1 : List Loc), PR D cy A ad ae S' T H1 → va_S A s.heap H1 locs1 → W p l e R s m args below meth c H1 locs1 (cells + k) (slots + 6 * k) Q (F0 m (pc + 3) ls (.int v :: rest))) : W p l e R s m args below meth c H locs cells slots Q (F0 m pc ls st0) := by
  obtain ⟨u, w, J1, J2, hP, hD⟩ := hI
  refine z_nSi (rest := rest) F (hM u J1) hg hw hd hR hK hT hC0 hZ hS (fpA hP hD hS hA) hn hsz hst hcat hdg hcs (fun r u' H1 locs1 hp hP hD hS => ?_)
  obtain ⟨e, J⟩ := hp
  subst e
  exact kk H1 locs1 ⟨u', w, J, J2, hP, hD⟩ hS
theorem pN2 {P : Int32 → SS → SS → Prop} (F : CallFix p m c cc nL s args Ts own) (hM : YNi l D cy ad ae y ws fr lo k As S T P) (hg : GoodIn Ts (va_wsS own index y ws)) (hw : ws = Cond.code y bytes maxL ret :: ws0)
    (hd : y.cls ≠ "java/lang/invoke/MethodHandle" ∧ y.cls ≠ "java/lang/invoke/VarHandle" ∧ (parseMethodDescriptor y.desc).map (fun d => d.parameters.length) = some n) (hR : fr + 1 ≤ R.frames ∧ 8 + (maxL + 11) + lo ≤ R.locals)
    (hK : va_K D vwCl (tysA cy) s) (hT : TB s) (hC0 : TC s) (hZ : SZ A s s.heap) (hA : ∀ q : Nat, s.heap.size ≤ q → A q) (hn : (Value.ref (ad 0) :: Value.ref (ae 0) :: As).length = n) (hsz : ls.size = nL) (hst : st0 = (Value.ref (ad 0) :: Value.ref (ae 0) :: As).reverse ++ rest) (hcat : (rest.map fun v => v.category).sum ≤ 8)
    (hdg : decode cc pc = .ok (.invokestatic index, 3)) (hcs : cells + k ≤ R.cells ∧ slots + 6 * k ≤ R.slots) (hI : PR D cy A ad ae S T H) (hS : va_S A s.heap H locs)
    (kk : ∀ (r : Int32) (S1 T1 : SS) (H1 : Heap) (locs1 : List Loc), P r S1 T1 → PR D cy A ad ae S1 T1 H1 → va_S A s.heap H1 locs1 → W p l e R s m args below meth c H1 locs1 (cells + k) (slots + 6 * k) Q (F0 m (pc + 3) ls (.int r :: rest))) : W p l e R s m args below meth c H locs cells slots Q (F0 m pc ls st0) := by
  obtain ⟨u, w, J1, J2, hP, hD⟩ := hI
  refine z_nSi (rest := rest) F (hM u w J1 J2) hg hw hd hR hK hT hC0 hZ hS (fpAB hP hD hS hA) hn hsz hst hcat hdg hcs (fun r u' H1 locs1 hp hP hD hS => ?_)
  obtain ⟨S1, T1, h1, j1, j2⟩ := hp
  exact kk r S1 T1 H1 locs1 h1 ⟨u'.1, u'.2, j1, j2, hP, hD⟩ hS
/-- a call that touches nothing -/
theorem pU {Z : Type} {post : Int32 → Z → Prop} (F : CallFix p m c cc nL s args Ts own) (hM : Ci l D cy y ws fr lo As [] post (fun _ => [])) (hg : GoodIn Ts (va_wsS own index y ws)) (hw : ws = Cond.code y bytes maxL ret :: ws0)
    (hd : y.cls ≠ "java/lang/invoke/MethodHandle" ∧ y.cls ≠ "java/lang/invoke/VarHandle" ∧ (parseMethodDescriptor y.desc).map (fun d => d.parameters.length) = some n) (hR : fr + 1 ≤ R.frames ∧ 8 + (maxL + 11) + lo ≤ R.locals)
    (hK : va_K D vwCl (tysA cy) s) (hT : TB s) (hA : ∀ q : Nat, s.heap.size ≤ q → A q) (hn : As.length = n) (hsz : ls.size = nL) (hst : st0 = As.reverse ++ rest) (hcat : (rest.map fun v => v.category).sum ≤ 8)
    (hdg : decode cc pc = .ok (.invokestatic index, 3)) (hcs : cells ≤ R.cells ∧ slots ≤ R.slots) (hI : PR D cy A ad ae S T H) (hS : va_S A s.heap H locs)
    (kk : ∀ (r : Int32) (z : Z) (H1 : Heap) (locs1 : List Loc), post r z → PR D cy A ad ae S T H1 → va_S A s.heap H1 locs1 → W p l e R s m args below meth c H1 locs1 cells slots Q (F0 m (pc + 3) ls (.int r :: rest))) : W p l e R s m args below meth c H locs cells slots Q (F0 m pc ls st0) := by
  obtain ⟨u, w, J1, J2, hP, hD⟩ := hI
  refine z_gSi (rest := rest) F hM hg hw hd hR hK hT hS (Fp.same hP hD hS hA [] rfl rfl (fun _ => rfl)) hn hsz hst hcat hdg hcs (fun r z H1 locs1 hp hP hD hS => ?_)
  exact kk r z H1 locs1 hp ⟨u, w, J1, J2, hP, hD⟩ hS
end PRW
