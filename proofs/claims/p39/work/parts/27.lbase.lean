/-! methods that catch: contracts that always return -/
theorem Ni_of {l : Launch} {D : va_G} {cy : Nat → ClassId} {y : MethodName} {ws ws0 : List Cond} {fr lo maxL k : Nat} {av : List Value} {w : va_W} {S : Type} {post : Int32 → S → Prop} {w' : S → va_W} {cc : ByteArray} {ret : Option FieldType} {hh : List (Nat × Nat × Nat × Nat)}
    (hy : plainName y.cls = true) (hw : ws = Cond.codeWith y cc maxL ret hh :: ws0) (hle : Nat.ble (lg_sl av).length maxL = true)
    (body : ∀ (p : Program) (e : Env) (s : State) (m : MethodId) (args : Array Value) (below : List Frame) (meth : Method) (c : Code) (A : Nat → Prop), p.tables.exec = Jvm.exec → c.code = cc → meth.sig.returnType = ret → (∀ w ∈ ws, w.before args s = true) → s.vm.findClass y.cls = some m.cls → meth.locks = false → c.maxLocals = maxL → c.exceptionTable.toList = tableOf hh →
      va_P D vwCl w s.heap → va_K D vwCl (tysA cy) s → va_D A w → TB s → TC s → SZ A s s.heap → (∀ q : Nat, s.heap.size ≤ q → A q) → ∀ ls : Array Slot, lv_has ls maxL (lv_args 0 av) →
      W p l e ({ frames := fr, cells := k, slots := 6 * k, locals := lo } : Room) s m args below meth c s.heap [] 0 0 (MQ below (va_Qi post (fun u t => va_P D vwCl (w' u) t.heap) A) args s k (6 * k) A) (F0 m 0 ls [])) :
    Ni l D cy y ws fr lo k av w post w' := by
  intro sz
  refine va_MetW (cc := cc) (maxL := maxL) (ret := ret) hy hw ?_
  intro p e s m args below meth c s₁ B hml hv
  obtain ⟨rfl, hsz, hP, hK, hD0, hT, hC, hZ⟩ := hv
  have hts := atoms_spec (ws := ws) B.pre
  have hl := lv_entry av (n := maxL) (Nat.le_of_ble_eq_true hle)
  have htab : c.exceptionTable.toList = tableOf hh := vx_table (x := y) B (hts _ (by rw [hw]; exact List.mem_cons_self))
  rw [lg_entry_eq]
  exact body p e s m _ below meth c _ B.exec B.bytes B.returns hts (findClass_of_methodNamed B.named) B.notSynchronized hml htab hP hK hD0.self hT hC hZ (fun q h => Or.inr (by rw [← hsz]; exact h)) _ hl
section ZH
variable {p : Program} {l : Launch} {e : Env} {R : Room} {s : State} {m : MethodId} {args : Array Value} {below : List Frame} {meth : Method} {c : Code} {H : Heap} {locs : List Loc} {cells slots : Nat} {Q : State → Prop}
variable {cc : ByteArray} {pc : Nat} {ls : Array Slot} {rest st0 : List Value} {D : va_G} {cy : Nat → ClassId} {A A0 : Nat → Prop} {H0 : Heap} {W0 w : va_W} {mc ms : Nat} {px px' : String → Prop}
variable {y : MethodName} {bytes : ByteArray} {maxL nL n index fr lo k : Nat} {ret : Option FieldType} {ws ws0 Ts : List Cond} {own C : String} {b : Addr} {As : List Value} {S : Type}
theorem h_gVi {post : Int32 → S → Prop} {w' W9 : S → va_W} (F : CallFix p m c cc nL s args Ts own) (hM : Xi l D cy y ws fr lo k (.ref b :: As) w post w' px') (hg : GoodIn Ts (wsV own index C y ws)) (hw : ws = Cond.code y bytes maxL ret :: ws0)
    (hd : y.cls = C ∧ y.cls ≠ "java/lang/invoke/MethodHandle" ∧ y.cls ≠ "java/lang/invoke/VarHandle" ∧ (parseMethodDescriptor y.desc).map (fun d => d.parameters.length) = some n) (hR : fr + 1 ≤ R.frames ∧ 8 + (maxL + 11) + lo ≤ R.locals)
    (hK : va_K D vwCl (tysA cy) s) (hT : TB s) (hC0 : TC s) (hZ : SZ A s s.heap) (hP : va_P D vwCl W0 H) (hS : va_S A s.heap H locs) (hF : Fp D A H w w' W9) (hF0 : Fp D A H w (fun _ : Unit => w) (fun _ : Unit => W0))
    (q0 ci : Nat) {qc : vw_C} {fs : List Value} (hc : vwCl[ci]? = some qc) (hq : qc.1 = C) (he : W0[q0]? = some (b, .inr (ci, fs))) (hn : As.length = n) (hsz : ls.size = nL) (hst : st0 = As.reverse ++ .ref b :: rest) (hcat : (rest.map fun v => v.category).sum ≤ 8)
    (hdg : decode cc pc = .ok (.invokevirtual index, 3)) (hcs : cells + k ≤ R.cells ∧ slots + 6 * k ≤ R.slots)
    (kx : ∀ (E : String) (ce : Cell) (q : Addr) (H1 : Heap) (locs1 : List Loc), px' E → va_P D vwCl W0 H1 → va_D A W0 → va_S A s.heap H1 locs1 → H1[q]? = some ce → ce.vm = .none → s.vm.findClass E = some ce.cls → vx_W p l e R s m args below meth c H1 locs1 (cells + k) (slots + 6 * k) Q (F0 m pc ls rest) q)
    (kk : ∀ (r : Int32) (u : S) (H1 : Heap) (locs1 : List Loc), post r u → va_P D vwCl (W9 u) H1 → va_D A (W9 u) → va_S A s.heap H1 locs1 → W p l e R s m args below meth c H1 locs1 (cells + k) (slots + 6 * k) Q (F0 m (pc + 3) ls (.int r :: rest))) : W p l e R s m args below meth c H locs cells slots Q (F0 m pc ls st0) := by
  refine vx_calli (vx_runV (As := As) (rest := rest) F (hM H.size) (cwV n F.2.2.2.2 hg hw rfl rfl hd hR) ⟨(preX_fp hK hT hC0 hZ hS hF).1, zrecv_of hK hP hc hq he, (preX_fp hK hT hC0 hZ hS hF).2⟩ rfl hn hsz hst (lv_room hcat) hdg hcs) hS (fun q _ h => hF.2.2.1 q h) hF.2.2.1 (fun q _ h => hF.2.2.1 q h)
    (fun E ce q9 u t H1 locs1 ht _ _ hB _ hk1 hS1 hce hcv hcl => ?_) (fun r u t H1 locs1 ht _ hw1 hB _ hk1 hS1 => ?_)
  · have hB2 := hB.2
    rw [ht] at hB2
    obtain ⟨h1, h2⟩ := hF0.2.2.2 () H1 hk1 hB2
    exact kx E ce q9 H1 locs1 hB.1 h1 h2 hS1 hce hcv hcl
  · rw [ht] at hB
    obtain ⟨h1, h2⟩ := hF.2.2.2 u H1 hk1 hB
    exact kk r u H1 locs1 hw1 h1 h2 hS1
end ZH
