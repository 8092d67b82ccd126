section ZL
variable {p : Program} {l : Launch} {e : Env} {R : Room} {s : State} {m : MethodId} {args : Array Value} {below : List Frame} {meth : Method} {c : Code} {H : Heap} {locs : List Loc} {cells slots : Nat} {Q : State → Prop}
variable {cc : ByteArray} {pc : Nat} {ls : Array Slot} {rest st0 : List Value} {D : va_G} {cy : Nat → ClassId} {A A0 : Nat → Prop} {H0 : Heap} {W0 w : va_W} {mc ms : Nat} {px px' : String → Prop}
variable {y : MethodName} {bytes : ByteArray} {maxL nL n index fr lo k : Nat} {ret : Option FieldType} {ws ws0 Ts : List Cond} {own C : String} {b : Addr} {As : List Value} {S : Type}
/-- a static call of a helper that catches -/
theorem z_hSi {post : Int32 → S → Prop} {w' W9 : S → va_W} {hh : List (Nat × Nat × Nat × Nat)} (F : CallFix p m c cc nL s args Ts own) (hM : Ni l D cy y ws fr lo k As w post w') (hg : GoodIn Ts (va_wsS own index y ws)) (hw : ws = Cond.codeWith y bytes maxL ret hh :: ws0)
    (hd : y.cls ≠ "java/lang/invoke/MethodHandle" ∧ y.cls ≠ "java/lang/invoke/VarHandle" ∧ (parseMethodDescriptor y.desc).map (fun d => d.parameters.length) = some n) (hR : fr + 1 ≤ R.frames ∧ 8 + (maxL + 11) + lo ≤ R.locals)
    (hK : va_K D vwCl (tysA cy) s) (hT : TB s) (hC0 : TC s) (hZ : SZ A s s.heap) (hS : va_S A s.heap H locs) (hF : Fp D A H w w' W9) (hn : As.length = n) (hsz : ls.size = nL) (hst : st0 = As.reverse ++ rest) (hcat : (rest.map fun v => v.category).sum ≤ 8)
    (hdg : decode cc pc = .ok (.invokestatic index, 3)) (hcs : cells + k ≤ R.cells ∧ slots + 6 * k ≤ R.slots)
    (kk : ∀ (r : Int32) (u : S) (H1 : Heap) (locs1 : List Loc), post r u → va_P D vwCl (W9 u) H1 → va_D A (W9 u) → va_S A s.heap H1 locs1 → W p l e R s m args below meth c H1 locs1 (cells + k) (slots + 6 * k) Q (F0 m (pc + 3) ls (.int r :: rest))) : W p l e R s m args below meth c H locs cells slots Q (F0 m pc ls st0) := by
  refine va_calli (vx_runSW (As := As) (rest := rest) F (hM H.size) (vx_cwSW n F.2.2.2.2 hg hw rfl rfl hd hR) (preX_fp hK hT hC0 hZ hS hF) rfl hn hsz hst (lv_room hcat) hdg hcs) hS (fun q _ h => hF.2.2.1 q h) hF.2.2.1 (fun r u t H1 locs1 ht _ hw1 hB _ hk1 hS1 => ?_)
  rw [ht] at hB
  obtain ⟨h1, h2⟩ := hF.2.2.2 u H1 hk1 hB
  exact kk r u H1 locs1 hw1 h1 h2 hS1
end ZL
