theorem dL_cell_0 : decode cL_cell 0 = .ok (.iload_n 1, 1) := by decide +kernel
theorem dL_cell_1 : decode cL_cell 1 = .ok (.aload_n 0, 1) := by decide +kernel
theorem dL_cell_2 : decode cL_cell 2 = .ok (.arraylength, 1) := by decide +kernel
theorem dL_cell_3 : decode cL_cell 3 = .ok (.if_icmp .ge 9, 3) := by decide +kernel
theorem dL_cell_6 : decode cL_cell 6 = .ok (.aload_n 0, 1) := by decide +kernel
theorem dL_cell_7 : decode cL_cell 7 = .ok (.iload_n 1, 1) := by decide +kernel
theorem dL_cell_8 : decode cL_cell 8 = .ok (.iaload, 1) := by decide +kernel
theorem dL_cell_9 : decode cL_cell 9 = .ok (.goto 11, 3) := by decide +kernel
theorem dL_cell_12 : decode cL_cell 12 = .ok (.ldc 7, 2) := by decide +kernel
theorem dL_cell_14 : decode cL_cell 14 = .ok (.iload_n 1, 1) := by decide +kernel
theorem dL_cell_15 : decode cL_cell 15 = .ok (.sipush 1913, 3) := by decide +kernel
theorem dL_cell_18 : decode cL_cell 18 = .ok (.iadd, 1) := by decide +kernel
theorem dL_cell_19 : decode cL_cell 19 = .ok (.imul, 1) := by decide +kernel
theorem dL_cell_20 : decode cL_cell 20 = .ok (.ireturn, 1) := by decide +kernel
/-! a word of the script -/
def Cc (l : Launch) (b L : Nat) (xs : Nat → Int32) (D : va_G) (k : Int) : Prop :=
  ∀ sz : Nat, Met l yL_cell wsL_cell { frames := 0, cells := 0, slots := 0, locals := 0 } (va_Pc [.ref b, .int (iI k)] (fun U => U.heap.size = sz ∧ va_X b L xs U U.heap ∧ b < sz)) (va_Qi (fun (_ : Int32) (_ : Unit) => True) (fun (_ : Unit) t => va_P D vwCl [] t.heap) (va_A [] sz)) 0 0 (va_A [] sz)
set_option maxRecDepth 100000 in
theorem c_L_cell (l : Launch) {b L : Nat} {xs : Nat → Int32} {D : va_G} (hL : L ≤ 260) {k : Int} (hk : 0 ≤ k ∧ k < 1000) : Cc l b L xs D k := by
  intro sz
  refine Met.ofW (cc := cL_cell) (maxL := 2) (ret := (some .int)) (by decide) rfl ?_
  intro p e s m args below meth c s₁ B hml hv
  obtain ⟨rfl, hsz, hX, hbz⟩ := hv
  have hts := atoms_spec (ws := wsL_cell) B.pre
  have hl := lv_entry [Value.ref b, Value.int (iI k)] (n := 2) (Nat.le_of_ble_eq_true rfl)
  rw [lg_entry_eq]
  have hx := B.exec
  have hb := B.bytes
  have hr := B.returns
  have hown := findClass_of_methodNamed B.named
  have hlocks := B.notSynchronized
  generalize (lg_sl [Value.ref b, Value.int (iI k)] ++ List.replicate (2 - (lg_sl [Value.ref b, Value.int (iI k)]).length) Slot.unset).toArray = ls at hl ⊢
  have hl : lv_has ls 2 [(0, .ref b), (1, .int (iI k))] := hl
  have hS : va_S (va_A [] sz) s.heap s.heap [] := va_S.rf
  have hbl : b < s.heap.size := by rw [hsz]; exact hbz
  have hbA : ¬ va_A [] sz b := by
    rintro (⟨j, w, hj⟩ | q)
    · simp at hj
    · omega
  have hP : va_P D vwCl [] s.heap := fun j q h => by simp at h
  refine lv_iload_n hx hb dL_cell_0 rfl (lv_at hl 1 rfl) ?_
  refine lv_aload_n hx hb dL_cell_1 rfl (lv_at hl 0 rfl) ?_
  refine va_slen hx hb hX hbl hbA hS dL_cell_2 ?_
  refine z_top (iI_nat L).symm ?_
  refine z_icmp_ge (tgt := 12) hx hb (iI_t (by omega) (by omega)) (iI_t (by omega) (by omega)) dL_cell_3 (by decide) (fun c1 => ?_) (fun c1 => ?_)
  · refine lv_ldc (own := RL) (index := 7) (v := 2145123783) hx hb hown (hts (.constant RL 7 (2145123783)) (by decide +kernel)) dL_cell_12 ?_
    refine lv_iload_n hx hb dL_cell_14 rfl (lv_at hl 1 rfl) ?_
    refine lv_sipush (v := iI 1913) hx hb dL_cell_15 (by decide +kernel) ?_
    refine z_add hx hb dL_cell_18 ?_
    refine lv_imul hx hb dL_cell_19 ?_
    exact z_iret (w' := fun (_ : Unit) => []) hx hb hr hlocks hS () trivial hP dL_cell_20
  · refine lv_aload_n hx hb dL_cell_6 rfl (lv_at hl 0 rfl) ?_
    refine lv_iload_n hx hb dL_cell_7 rfl (lv_at hl 1 rfl) ?_
    refine va_sld hx hb hX hbl hbA hS (iI_in (by omega) (by omega) (by omega)) dL_cell_8 ?_
    refine lv_goto (tgt := 20) hx hb dL_cell_9 (by decide) ?_
    exact z_iret (w' := fun (_ : Unit) => []) hx hb hr hlocks hS () trivial hP dL_cell_20
theorem pC {p : Program} {l : Launch} {e : Env} {R : Room} {s : State} {m : MethodId} {args : Array Value} {below : List Frame} {meth : Method} {c : Code} {H : Heap} {locs : List Loc} {cells slots : Nat} {Q : State → Prop} {cc : ByteArray} {pc : Nat} {ls : Array Slot} {rest st0 : List Value} {D : va_G} {cy : Nat → ClassId} {nL index : Nat} {Ts : List Cond} {own : String} {S T : SS} {ad ae : Nat → Nat} {b L : Nat} {xs : Nat → Int32} {k : Int}
    (F : CallFix p m c cc nL s args Ts own) (hM : Cc l b L xs D k) (hg : GoodIn Ts (va_wsS own index yL_cell wsL_cell)) (hR : 0 + 1 ≤ R.frames ∧ 8 + (2 + 11) + 0 ≤ R.locals) (hX : va_X b L xs s s.heap) (hbl : b < s.heap.size) (hsz : ls.size = nL) (hst : st0 = [Value.ref b, Value.int (iI k)].reverse ++ rest) (hcat : (rest.map fun v => v.category).sum ≤ 8)
    (hdg : decode cc pc = .ok (.invokestatic index, 3)) (hcs : cells ≤ R.cells ∧ slots ≤ R.slots) (hI : PR D cy (fun q : Nat => s.heap.size ≤ q) ad ae S T H) (hS : va_S (fun q : Nat => s.heap.size ≤ q) s.heap H locs)
    (kk : ∀ (r : Int32) (H1 : Heap) (locs1 : List Loc), PR D cy (fun q : Nat => s.heap.size ≤ q) ad ae S T H1 → va_S (fun q : Nat => s.heap.size ≤ q) s.heap H1 locs1 → W p l e R s m args below meth c H1 locs1 cells slots Q (F0 m (pc + 3) ls (.int r :: rest))) : W p l e R s m args below meth c H locs cells slots Q (F0 m pc ls st0) := by
  obtain ⟨u, w, J1, J2, hP, hD⟩ := hI
  have hF : Fp D (fun q : Nat => s.heap.size ≤ q) H [] (fun _ : Unit => []) (fun _ : Unit => (bX cy ad u ++ bX cy ae w).flatten) := Fp.same hP hD hS (fun _ h => h) [] rfl rfl (fun _ => rfl)
  have hbl2 : b < H.size := Nat.lt_of_lt_of_le hbl hS.1
  have hX2 : va_X b L xs s H := hX.kept (hS.2.1 b hbl (Nat.not_le.mpr hbl))
  refine va_calli (va_runS (As := [Value.ref b, Value.int (iI k)]) (rest := rest) F (hM H.size) (va_cwS 2 F.2.2.2.2 hg rfl rfl rfl (by decide +kernel) hR) ⟨fun a U g mk q => ⟨q.1, q.2.1, va_X.moved (u := U) (U := U.calling g mk a) (Vm.Alike.refl U.vm) q.2.2.1, q.2.2.2⟩, fun U hU hW => ⟨rfl, by rw [hU], by rw [hU]; exact va_X.moved hW.alike hX2, hbl2⟩⟩ rfl rfl hsz hst (lv_room hcat) hdg hcs) hS (fun q _ h => hF.2.2.1 q h) hF.2.2.1 (fun r z t H1 locs1 ht _ hw1 hB _ hk1 hS1 => ?_)
  rw [ht] at hB
  obtain ⟨h1, h2⟩ := hF.2.2.2 () H1 hk1 hB
  exact kk r H1 locs1 ⟨u, w, J1, J2, h1, h2⟩ hS1

/-! THE CLAIM OUT OF ONE WALK OF THE LAW'S BODY. Your part is whole_start (and what it stands on); all else here is the same for every law, but numbers. -/
def R_law : String := "BackwardSearchLaw"
def lw_P (b : Addr) (xs : List Int32) (args : Array Value) (s : State) : Prop := args = #[.ref b] ∧ s.IntsAt b xs ∧ xs.length ≤ 260 ∧ (Jvm.Cond.and given_1 narrow_1).before args s = true
def lw_Q (_ : Array Value) (s : State) (o : Outcome) (t : State) : Prop := o = .returned (some (.int 1)) ∧ Framed s o t [] 600172 7300668
def lw_Z (below : List Frame) (a : Array Value) (s : State) : State → Prop := fun t => ∃ o, t.status = .running ∧ Ended t below o ∧ lw_Q a s o t
/-- the law's own end, with 1 on the stack, nothing written that was there before, its room as the claim has it -/
theorem lw_ret {p : Program} {l : Launch} {e : Env} {s : State} {m : MethodId} {below : List Frame} {meth : Method} {c : Code} {b : Nat} (hx : p.tables.exec = Jvm.exec) (hb : c.code = code) (hr : meth.sig.returnType = ret) (hlocks : meth.locks = false) {pc : Nat} {H : Heap} {ls : Array Slot} (hdg : decode code pc = .ok (.ireturn, 1)) : W p l e room_1 s m #[Value.ref b] below meth c H [] 600172 7300668 (lw_Z below #[Value.ref b] s) (F0 m pc ls [.int 1]) := by
  intro T hT X
  obtain ⟨fs, hret, hrun, hended, hW, hframe⟩ := X.leave (v := some (.int 1)) (hlocks := hlocks) (fun h => by rw [hr] at h; cases h)
  have hmeth' : T.vm.method? m = some meth := X.method'
  refine ⟨T.setFrames fs, ?_, .returned (some (.int 1)), hrun, hended, rfl, ⟨_, rfl⟩, hW, hframe⟩
  jvm_step X.here [X.here.top, hx, hb, hdg, hmeth', hr, ret, narrow_b1]
  (try refine ⟨rfl, ?_⟩); (try refine ⟨rfl, ?_⟩)
  first | (intro acts; rw [hret _ acts rfl rfl rfl]) | rw [hret _ _ rfl rfl rfl]
  exact Steps.refl _
/-- what holds at the law's entry: the machine, the code, the tables' words (any of lw_tbl by 'hts w (by decide +kernel)'), the script of L ints xs at the cell b, what the Statement gives of the start (any of its parts by flat_of_before) -/
def lw_At (p : Program) (s : State) (m : MethodId) (meth : Method) (c : Code) (b L : Nat) (xs : Nat → Int32) : Prop :=
  p.tables.exec = Jvm.exec ∧ c.code = code ∧ meth.sig.returnType = ret ∧ c.maxLocals = 5 ∧ s.vm.findClass R_law = some m.cls ∧ (∀ w ∈ lw_tbl, w.before #[Value.ref b] s = true) ∧ va_X b L xs s s.heap ∧ b < s.heap.size ∧ meth.locks = false ∧ (Jvm.Cond.and given_1 narrow_1).before #[Value.ref b] s = true
/-! the law: its loop, its start -/
def LC (p : Program) (l : Launch) (s : State) (m : MethodId) (meth : Method) (c : Code) (b L : Nat) (xs : Nat → Int32) (D : va_G) (cy : Nat → ClassId) : Prop :=
  p.tables.exec = Jvm.exec ∧ c.code = code ∧ meth.sig.returnType = ret ∧ meth.locks = false ∧ c.maxLocals = 5 ∧ s.vm.findClass RL = some m.cls ∧ (∀ w ∈ wsL_law, w.before #[Value.ref b] s = true) ∧ va_X b L xs s s.heap ∧ b < s.heap.size ∧ va_K D vwCl (tysA cy) s ∧ TB s ∧ TC s ∧ SZ (fun q : Nat => s.heap.size ≤ q) s s.heap ∧ l.stackTraces = false ∧ L ≤ 260
set_option maxHeartbeats 8000000 in
set_option maxRecDepth 100000 in
theorem law_loop {p : Program} {l : Launch} {e : Env} {s : State} {m : MethodId} {below : List Frame} {meth : Method} {c : Code} {D : va_G} {cy : Nat → ClassId} {b L : Nat} {xs : Nat → Int32} {ad ae : Nat → Nat} (C : LC p l s m meth c b L xs D cy) :
    ∀ (n : Nat) (k : Int) (cl sl0 : Nat) (M : MS) (h : List MS) (sl : Nat → Option MS), IS M h sl → 0 ≤ k ∧ k ≤ 70 → 70 - k < (n : Int) → cl + 600 * n ≤ 590000 ∧ sl0 + 3600 * n ≤ 7200000 → ∀ (H : Heap) (locs : List Loc) (ls : Array Slot), PR D cy (fun q : Nat => s.heap.size ≤ q) ad ae (M, h, sl, []) (mirM M, h.map mirM, mirS sl, []) H → va_S (fun q : Nat => s.heap.size ≤ q) s.heap H locs → lv_has ls 5 [(4, .int (iI k)), (3, .int (iI 1)), (2, .ref (ae 0)), (1, .ref (ad 0)), (0, .ref b)] → W p l e room_1 s m #[.ref b] below meth c H locs cl sl0 (lw_Z below #[Value.ref b] s) (F0 m 21 ls []) := by
  obtain ⟨hx, hb, hr, hlocks, hml, hown, hts, hX, hbl, hK, hT, hC, hZ, hfl, hL⟩ := id C
  have hA : ∀ q : Nat, s.heap.size ≤ q → (fun q : Nat => s.heap.size ≤ q) q := fun _ h => h
  intro n
  induction n with
  | zero =>
    intro k cl sl0 M h sl I hk hm
    exact absurd hm (by omega)
  | succ n ih =>
    intro k cl sl0 M h sl I hk hm hro H locs ls hI hS hl
    refine lv_iload hx hb dL_law_21 (lv_at hl 0 rfl) ?_
    refine lv_bipush (v := iI 70) hx hb dL_law_23 (by decide +kernel) ?_
    refine z_icmp_ge (tgt := 82) hx hb (iI_t (by omega) (by omega)) (iI_t (by omega) (by omega)) dL_law_25 (by decide) (fun c1 => ?_) (fun c1 => ?_)
    · --
      refine lv_iload_n hx hb dL_law_82 rfl (lv_at hl 1 rfl) ?_
      refine z_if_eq (tgt := 105) hx hb (iI_t (by omega) (by omega)) dL_law_83 (by decide) (fun c2 => absurd c2 (by omega)) (fun _ => ?_)
      refine lv_aload_n hx hb dL_law_86 rfl (lv_at hl 3 rfl) ?_
      refine pN1 (n := 1) (As := []) (rest := []) ⟨hx, hb, hml, hown, hts⟩ (c_L_isWell l hfl D cy ad M h sl ([] : List Int32) I.1) gL_law_L_isWell rfl (by decide +kernel) ⟨Nat.le_of_ble_eq_true rfl, Nat.le_of_ble_eq_true rfl⟩ hK hT hC hZ hA rfl hl.1 rfl (Nat.le_of_ble_eq_true rfl) dL_law_87 ⟨show cl + 400 ≤ 600172 by omega, show sl0 + 6 * 400 ≤ 7300668 by omega⟩ hI hS (fun H locs hI hS => ?_)
      have hI : PR D cy (fun q : Nat => s.heap.size ≤ q) ad ae (M, h, sl, ([] : List Int32)) (mirM M, h.map mirM, mirS sl, ([] : List Int32)) H := hI
      refine z_if_eq (tgt := 105) hx hb (iI_t (by omega) (by omega)) dL_law_90 (by decide) (fun c4 => absurd c4 (by omega)) (fun _ => ?_)
      refine lv_aload_n hx hb dL_law_93 rfl (lv_at hl 3 rfl) ?_
      refine lv_aload_n hx hb dL_law_94 rfl (lv_at hl 2 rfl) ?_
      refine pN2 (n := 2) (As := []) (rest := []) ⟨hx, hb, hml, hown, hts⟩ (c_L_areAlike l hfl D cy ad ae M h sl I.1) gL_law_L_areAlike rfl (by decide +kernel) ⟨Nat.le_of_ble_eq_true rfl, Nat.le_of_ble_eq_true rfl⟩ hK hT hC hZ hA rfl hl.1 rfl (Nat.le_of_ble_eq_true rfl) dL_law_95 ⟨show (cl + 400) + 600 ≤ 600172 by omega, show (sl0 + 6 * 400) + 6 * 600 ≤ 7300668 by omega⟩ hI hS (fun r_5 S_5 T_5 H locs hw_5 hI hS => ?_)
      have hw_5 : r_5 = iI 1 := hw_5
      subst hw_5
      have hP9 := hI
      refine z_if_eq (tgt := 105) hx hb (iI_t (by omega) (by omega)) dL_law_98 (by decide) (fun c6 => absurd c6 (by omega)) (fun _ => ?_)
      refine lv_iconst (v := iI 1) hx hb dL_law_101 rfl ?_
      refine lv_goto (tgt := 106) hx hb dL_law_102 (by decide) ?_
      refine z_top (show iI 1 = 1 from by decide +kernel) ?_
      refine va_forget (fun q h => hS.2.2 q h) ?_
      refine W.widen (k := 600172) (n := 7300668) (by omega) (by omega) ?_
      exact lw_ret hx hb hr hlocks dL_law_106
    · --
      refine lv_iload_n hx hb dL_law_28 rfl (lv_at hl 1 rfl) ?_
      refine z_if_eq (tgt := 82) hx hb (iI_t (by omega) (by omega)) dL_law_29 (by decide) (fun c7 => absurd c7 (by omega)) (fun _ => ?_)
      refine lv_aload_n hx hb dL_law_32 rfl (lv_at hl 3 rfl) ?_
      refine lv_aload_n hx hb dL_law_33 rfl (lv_at hl 2 rfl) ?_
      refine lv_aload_n hx hb dL_law_34 rfl (lv_at hl 4 rfl) ?_
      refine lv_iload hx hb dL_law_35 (lv_at hl 0 rfl) ?_
      refine pC (rest := [.ref (ae 0), .ref (ad 0)]) ⟨hx, hb, hml, hown, hts⟩ (c_L_cell l (by omega) (k := k) (by omega)) gL_law_L_cell ⟨Nat.le_of_ble_eq_true rfl, Nat.le_of_ble_eq_true rfl⟩ hX hbl hl.1 rfl (Nat.le_of_ble_eq_true rfl) dL_law_37 ⟨show cl ≤ 600172 by omega, show sl0 ≤ 7300668 by omega⟩ hI hS (fun r_8 H locs hI hS => ?_)
      have hI : PR D cy (fun q : Nat => s.heap.size ≤ q) ad ae (M, h, sl, ([] : List Int32)) (mirM M, h.map mirM, mirS sl, ([] : List Int32)) H := hI
      refine lv_aload_n hx hb dL_law_40 rfl (lv_at hl 4 rfl) ?_
      refine lv_iload hx hb dL_law_41 (lv_at hl 0 rfl) ?_
      refine lv_iconst (v := iI 1) hx hb dL_law_43 rfl ?_
      refine z_add hx hb dL_law_44 ?_
      refine pC (rest := [.int r_8, .ref (ae 0), .ref (ad 0)]) ⟨hx, hb, hml, hown, hts⟩ (c_L_cell l (by omega) (k := (k + 1)) (by omega)) gL_law_L_cell ⟨Nat.le_of_ble_eq_true rfl, Nat.le_of_ble_eq_true rfl⟩ hX hbl hl.1 rfl (Nat.le_of_ble_eq_true rfl) dL_law_45 ⟨show cl ≤ 600172 by omega, show sl0 ≤ 7300668 by omega⟩ hI hS (fun r_9 H locs hI hS => ?_)
      have hI : PR D cy (fun q : Nat => s.heap.size ≤ q) ad ae (M, h, sl, ([] : List Int32)) (mirM M, h.map mirM, mirS sl, ([] : List Int32)) H := hI
      refine lv_iconst (v := iI 2) hx hb dL_law_48 rfl ?_
      refine lv_ishr hx hb dL_law_49 ?_
      refine lv_topi (fun w_10 _ => ?_)
      refine pN2 (n := 4) (As := [.int r_8, .int w_10]) (rest := []) ⟨hx, hb, hml, hown, hts⟩ (c_L_isStep l hfl D cy ad ae M h sl I r_8 w_10) gL_law_L_isStep rfl (by decide +kernel) ⟨Nat.le_of_ble_eq_true rfl, Nat.le_of_ble_eq_true rfl⟩ hK hT hC hZ hA rfl hl.1 rfl (Nat.le_of_ble_eq_true rfl) dL_law_50 ⟨show cl + 200 ≤ 600172 by omega, show sl0 + 6 * 200 ≤ 7300668 by omega⟩ hI hS (fun r_11 S_11 T_11 H locs hw_11 hI hS => ?_)
      obtain ⟨er_11, M, h, sl, I, eS_11, eT_11⟩ := hw_11
      subst er_11
      subst eS_11
      subst eT_11
      have hI : PR D cy (fun q : Nat => s.heap.size ≤ q) ad ae (M, h, sl, ([] : List Int32)) (mirM M, h.map mirM, mirS sl, ([] : List Int32)) H := hI
      refine z_if_eq (tgt := 74) hx hb (iI_t (by omega) (by omega)) dL_law_53 (by decide) (fun c12 => absurd c12 (by omega)) (fun _ => ?_)
      refine lv_iload hx hb dL_law_56 (lv_at hl 0 rfl) ?_
      refine lv_iconst (v := iI 5) hx hb dL_law_58 rfl ?_
      refine lv_irem hx hb dL_law_59 (by decide +kernel) ?_
      refine lv_topi (fun w_13 _ => ?_)
      refine z_if_gt (tgt := 70) hx hb rfl dL_law_60 (by decide) (fun c14 => ?_) (fun c14 => ?_)
      · --
        refine lv_iconst (v := iI 1) hx hb dL_law_70 rfl ?_
        refine lv_goto (tgt := 75) hx hb dL_law_71 (by decide) ?_
        refine lv_istore_n (lv' := [(3, .int (iI 1)), (4, .int (iI k)), (2, .ref (ae 0)), (1, .ref (ad 0)), (0, .ref b)]) hx hb dL_law_75 rfl hl (by decide) rfl (fun ls hl => ?_)
        refine z_iinc (lv' := [(4, .int (iI (k + 1))), (3, .int (iI 1)), (2, .ref (ae 0)), (1, .ref (ad 0)), (0, .ref b)]) hx hb dL_law_76 hl (k := 1) rfl (by decide) rfl (fun ls hl => ?_)
        refine lv_goto (tgt := 21) hx hb dL_law_79 (by decide) ?_
        exact ih (k + 1) (cl + 200) (sl0 + 6 * 200) M h sl I (by omega) (by omega) (by omega) _ _ _ hI hS (lv_sub hl [0, 1, 2, 3, 4] rfl)
      · --
        refine lv_aload_n hx hb dL_law_63 rfl (lv_at hl 3 rfl) ?_
        refine pN1 (n := 1) (As := []) (rest := []) ⟨hx, hb, hml, hown, hts⟩ (c_L_isWell l hfl D cy ad M h sl ([] : List Int32) I.1) gL_law_L_isWell rfl (by decide +kernel) ⟨Nat.le_of_ble_eq_true rfl, Nat.le_of_ble_eq_true rfl⟩ hK hT hC hZ hA rfl hl.1 rfl (Nat.le_of_ble_eq_true rfl) dL_law_64 ⟨show (cl + 200) + 400 ≤ 600172 by omega, show (sl0 + 6 * 200) + 6 * 400 ≤ 7300668 by omega⟩ hI hS (fun H locs hI hS => ?_)
        have hI : PR D cy (fun q : Nat => s.heap.size ≤ q) ad ae (M, h, sl, ([] : List Int32)) (mirM M, h.map mirM, mirS sl, ([] : List Int32)) H := hI
        refine z_if_eq (tgt := 74) hx hb (iI_t (by omega) (by omega)) dL_law_67 (by decide) (fun c16 => absurd c16 (by omega)) (fun _ => ?_)
        refine lv_iconst (v := iI 1) hx hb dL_law_70 rfl ?_
        refine lv_goto (tgt := 75) hx hb dL_law_71 (by decide) ?_
        refine lv_istore_n (lv' := [(3, .int (iI 1)), (4, .int (iI k)), (2, .ref (ae 0)), (1, .ref (ad 0)), (0, .ref b)]) hx hb dL_law_75 rfl hl (by decide) rfl (fun ls hl => ?_)
        refine z_iinc (lv' := [(4, .int (iI (k + 1))), (3, .int (iI 1)), (2, .ref (ae 0)), (1, .ref (ad 0)), (0, .ref b)]) hx hb dL_law_76 hl (k := 1) rfl (by decide) rfl (fun ls hl => ?_)
        refine lv_goto (tgt := 21) hx hb dL_law_79 (by decide) ?_
        exact ih (k + 1) ((cl + 200) + 400) ((sl0 + 6 * 200) + 6 * 400) M h sl I (by omega) (by omega) (by omega) _ _ _ hI hS (lv_sub hl [0, 1, 2, 3, 4] rfl)
set_option maxHeartbeats 8000000 in
set_option maxRecDepth 100000 in
theorem whole_start {p : Program} {e : Env} {s : State} {m : MethodId} {below : List Frame} {meth : Method} {c : Code} (l : Launch) (hflags : l.flags = flags0) {b L : Nat} {xs : Nat → Int32} (hL : L ≤ 260) (C0 : lw_At p s m meth c b L xs) : W p l e room_1 s m #[Value.ref b] below meth c s.heap [] 0 0 (lw_Z below #[Value.ref b] s) (entryFrame m ([Value.ref b] : List Value).toArray 5) := by
  obtain ⟨hx, hb, hr, hml, hown, htt, hX, hbl, hlocks, hgv⟩ := id C0
  obtain ⟨D, cy, hK⟩ := law_K htt
  have hts : ∀ w ∈ wsL_law, w.before #[Value.ref b] s = true := fun w h => htt w (wsL_law_in w h)
  have hT := law_TB htt hgv
  have hC := law_TC htt hgv
  have hZ := law_SZ htt hgv
  have hO := law_AO htt
  have hfl : l.stackTraces = false := by
    unfold Launch.stackTraces
    rw [hflags]
    decide +kernel
  have C : LC p l s m meth c b L xs D cy := ⟨hx, hb, hr, hlocks, hml, hown, hts, hX, hbl, hK, hT, hC, hZ, hfl, hL⟩
  have hA : ∀ q : Nat, s.heap.size ≤ q → (fun q : Nat => s.heap.size ≤ q) q := fun _ h => h
  have hS : va_S (fun q : Nat => s.heap.size ≤ q) s.heap s.heap [] := va_S.rf
  have hP : va_P D vwCl [] s.heap := fun k q h => by simp at h
  have hD : va_D (fun q : Nat => s.heap.size ≤ q) [] := ⟨fun i j p q h => by simp at h, fun k q h => by simp at h⟩
  have hl := lv_entry ([.ref b]) (n := 5) (Nat.le_of_ble_eq_true rfl)
  rw [lg_entry_eq]
  generalize (lg_sl ([.ref b]) ++ List.replicate (5 - (lg_sl ([.ref b])).length) Slot.unset).toArray = ls at hl ⊢
  have hl : lv_has ls 5 [(0, .ref b)] := hl
  refine va_new (ci := 4) (fs := [.null, .null, .null, .null, .null, .null, .null]) (C := RX4) (T := TX4) (N := 7) hx hb hts inlX4 tyX4 tyX4_ok hown (hts (.classLink RL 10 RX4) (by decide +kernel)) (hts (.instantiable RX4 7) (by decide +kernel)) (hts (.initialized RX4) (by decide +kernel)) hK hP hD hS hA rfl (fun j hj => by rcases (show j = 0 ∨ j = 1 ∨ j = 2 ∨ j = 3 ∨ j = 4 ∨ j = 5 ∨ j = 6 by omega) with rfl | rfl | rfl | rfl | rfl | rfl | rfl <;> rfl) (Nat.le_of_ble_eq_true rfl) (Nat.le_of_ble_eq_true rfl) dL_law_0 (fun d0 H hP hD hS => ?_)
  have hP : va_P D vwCl [(d0, .inr (4, [.null, .null, .null, .null, .null, .null, .null]))] H := hP
  have hD : va_D (fun q : Nat => s.heap.size ≤ q) [(d0, .inr (4, [.null, .null, .null, .null, .null, .null, .null]))] := hD
  refine lv_dup hx hb dL_law_3 rfl ?_
  refine zi_call (wr := []) (b := d0) (As := []) (rest := [.ref d0]) ⟨hx, hb, hml, hown, hts⟩ (c_X4_init l D cy d0) (cwI 0 hts gL_law_X4_init rfl rfl rfl (hts (.initialized RX4) (by decide +kernel)) (hts (.methodLink RL 179 yX4_init) (by decide +kernel)) (hts (.instanceMethod yX4_init) (by decide +kernel)) rfl (by decide +kernel) ⟨Nat.le_of_ble_eq_true rfl, Nat.le_of_ble_eq_true rfl⟩) hK hT hO hP hD hS hA [0] [] rfl rfl rfl rfl (by decide) rfl hl.1 rfl (Nat.le_of_ble_eq_true rfl) dL_law_4 ⟨(Nat.le_of_ble_eq_true rfl), (Nat.le_of_ble_eq_true rfl)⟩ (fun u_1 H locs hw_1 hP hD hS => ?_)
  obtain ⟨d1, d2, d3, d4, d5, d6, d7, d8, d9, d10, d11, d12, d13, d14, d15, d16, d17, d18, d19, d20, d21, d22, d23, d24, d25, d26, d27, d28, d29, d30, d31, d32, d33, d34, d35, d36, d37, d38, d39, d40, d41, d42, d43, d44, d45, d46, d47, d48, d49, d50, d51, d52, d53, d54, d55, d56, d57, d58, d59, d60, d61, d62, d63, d64, d65, d66, d67, d68, d69, d70, d71, d72, d73, d74, d75, d76, d77, d78, d79⟩ := u_1
  obtain ⟨ad, e0, hP3, hf3⟩ := x4_blocks (D := D) (cy := cy) (H := H) (d0 := d0) (d1 := d1) (d2 := d2) (d3 := d3) (d4 := d4) (d5 := d5) (d6 := d6) (d7 := d7) (d8 := d8) (d9 := d9) (d10 := d10) (d11 := d11) (d12 := d12) (d13 := d13) (d14 := d14) (d15 := d15) (d16 := d16) (d17 := d17) (d18 := d18) (d19 := d19) (d20 := d20) (d21 := d21) (d22 := d22) (d23 := d23) (d24 := d24) (d25 := d25) (d26 := d26) (d27 := d27) (d28 := d28) (d29 := d29) (d30 := d30) (d31 := d31) (d32 := d32) (d33 := d33) (d34 := d34) (d35 := d35) (d36 := d36) (d37 := d37) (d38 := d38) (d39 := d39) (d40 := d40) (d41 := d41) (d42 := d42) (d43 := d43) (d44 := d44) (d45 := d45) (d46 := d46) (d47 := d47) (d48 := d48) (d49 := d49) (d50 := d50) (d51 := d51) (d52 := d52) (d53 := d53) (d54 := d54) (d55 := d55) (d56 := d56) (d57 := d57) (d58 := d58) (d59 := d59) (d60 := d60) (d61 := d61) (d62 := d62) (d63 := d63) (d64 := d64) (d65 := d65) (d66 := d66) (d67 := d67) (d68 := d68) (d69 := d69) (d70 := d70) (d71 := d71) (d72 := d72) (d73 := d73) (d74 := d74) (d75 := d75) (d76 := d76) (d77 := d77) (d78 := d78) (d79 := d79) hP
  have hD3 : va_D (fun q : Nat => s.heap.size ≤ q) (bX cy ad uN).flatten := va_D_fst (hf3.trans rfl) hD
  subst e0
  refine lv_astore_n (lv' := [(1, .ref (ad 0)), (0, .ref b)]) hx hb dL_law_7 rfl hl (by decide) rfl (fun ls hl => ?_)
  have hP := hP3
  have hD := hD3
  refine va_new (ci := 4) (fs := [.null, .null, .null, .null, .null, .null, .null]) (C := RX4) (T := TX4) (N := 7) hx hb hts inlX4 tyX4 tyX4_ok hown (hts (.classLink RL 10 RX4) (by decide +kernel)) (hts (.instantiable RX4 7) (by decide +kernel)) (hts (.initialized RX4) (by decide +kernel)) hK hP hD hS hA rfl (fun j hj => by rcases (show j = 0 ∨ j = 1 ∨ j = 2 ∨ j = 3 ∨ j = 4 ∨ j = 5 ∨ j = 6 by omega) with rfl | rfl | rfl | rfl | rfl | rfl | rfl <;> rfl) (Nat.le_of_ble_eq_true rfl) (Nat.le_of_ble_eq_true rfl) dL_law_8 (fun q0 H hP hD hS => ?_)
  refine lv_dup hx hb dL_law_11 rfl ?_
  refine zi_call (wc := [(q0, .inr (4, [.null, .null, .null, .null, .null, .null, .null]))]) (wr := (bX cy ad uN).flatten) (b := q0) (As := []) (rest := [.ref q0]) ⟨hx, hb, hml, hown, hts⟩ (c_X4_init l D cy q0) (cwI 0 hts gL_law_X4_init rfl rfl rfl (hts (.initialized RX4) (by decide +kernel)) (hts (.methodLink RL 179 yX4_init) (by decide +kernel)) (hts (.instanceMethod yX4_init) (by decide +kernel)) rfl (by decide +kernel) ⟨Nat.le_of_ble_eq_true rfl, Nat.le_of_ble_eq_true rfl⟩) hK hT hO hP hD hS hA [80] [0, 1, 2, 3, 4, 5, 6, 7, 8, 9, 10, 11, 12, 13, 14, 15, 16, 17, 18, 19, 20, 21, 22, 23, 24, 25, 26, 27, 28, 29, 30, 31, 32, 33, 34, 35, 36, 37, 38, 39, 40, 41, 42, 43, 44, 45, 46, 47, 48, 49, 50, 51, 52, 53, 54, 55, 56, 57, 58, 59, 60, 61, 62, 63, 64, 65, 66, 67, 68, 69, 70, 71, 72, 73, 74, 75, 76, 77, 78, 79] rfl rfl rfl rfl (by decide) rfl hl.1 rfl (Nat.le_of_ble_eq_true rfl) dL_law_12 ⟨(Nat.le_of_ble_eq_true rfl), (Nat.le_of_ble_eq_true rfl)⟩ (fun u_2 H locs hw_2 hP hD hS => ?_)
  obtain ⟨q1, q2, q3, q4, q5, q6, q7, q8, q9, q10, q11, q12, q13, q14, q15, q16, q17, q18, q19, q20, q21, q22, q23, q24, q25, q26, q27, q28, q29, q30, q31, q32, q33, q34, q35, q36, q37, q38, q39, q40, q41, q42, q43, q44, q45, q46, q47, q48, q49, q50, q51, q52, q53, q54, q55, q56, q57, q58, q59, q60, q61, q62, q63, q64, q65, q66, q67, q68, q69, q70, q71, q72, q73, q74, q75, q76, q77, q78, q79⟩ := u_2
  have hPa : va_P D vwCl (bX cy ad uN).flatten H := vaP_mem.mpr (fun q hq => vaP_mem.mp hP q (List.mem_append_left _ hq))
  have hPb := vaP_mem.mpr (fun q hq => vaP_mem.mp hP q (List.mem_append_right _ hq))
  obtain ⟨ae, e1, hP4, hf4⟩ := x4_blocks (D := D) (cy := cy) (H := H) (d0 := q0) (d1 := q1) (d2 := q2) (d3 := q3) (d4 := q4) (d5 := q5) (d6 := q6) (d7 := q7) (d8 := q8) (d9 := q9) (d10 := q10) (d11 := q11) (d12 := q12) (d13 := q13) (d14 := q14) (d15 := q15) (d16 := q16) (d17 := q17) (d18 := q18) (d19 := q19) (d20 := q20) (d21 := q21) (d22 := q22) (d23 := q23) (d24 := q24) (d25 := q25) (d26 := q26) (d27 := q27) (d28 := q28) (d29 := q29) (d30 := q30) (d31 := q31) (d32 := q32) (d33 := q33) (d34 := q34) (d35 := q35) (d36 := q36) (d37 := q37) (d38 := q38) (d39 := q39) (d40 := q40) (d41 := q41) (d42 := q42) (d43 := q43) (d44 := q44) (d45 := q45) (d46 := q46) (d47 := q47) (d48 := q48) (d49 := q49) (d50 := q50) (d51 := q51) (d52 := q52) (d53 := q53) (d54 := q54) (d55 := q55) (d56 := q56) (d57 := q57) (d58 := q58) (d59 := q59) (d60 := q60) (d61 := q61) (d62 := q62) (d63 := q63) (d64 := q64) (d65 := q65) (d66 := q66) (d67 := q67) (d68 := q68) (d69 := q69) (d70 := q70) (d71 := q71) (d72 := q72) (d73 := q73) (d74 := q74) (d75 := q75) (d76 := q76) (d77 := q77) (d78 := q78) (d79 := q79) hPb
  have hP5 : va_P D vwCl (bX cy ad uN ++ bX cy ae uN).flatten H := by
    rw [List.flatten_append]
    exact vaP_mem.mpr (fun q hq => (List.mem_append.mp hq).elim (fun h => vaP_mem.mp hPa q h) (fun h => vaP_mem.mp hP4 q h))
  have hD5 : va_D (fun q : Nat => s.heap.size ≤ q) (bX cy ad uN ++ bX cy ae uN).flatten := by
    rw [List.flatten_append]
    refine va_D_fst ?_ hD
    rw [List.map_append, List.map_append, hf4]
    rfl
  subst e1
  refine lv_astore_n (lv' := [(2, .ref (ae 0)), (1, .ref (ad 0)), (0, .ref b)]) hx hb dL_law_15 rfl hl (by decide) rfl (fun ls hl => ?_)
  refine lv_iconst (v := iI 1) hx hb dL_law_16 rfl ?_
  refine lv_istore_n (lv' := [(3, .int (iI 1)), (2, .ref (ae 0)), (1, .ref (ad 0)), (0, .ref b)]) hx hb dL_law_17 rfl hl (by decide) rfl (fun ls hl => ?_)
  refine lv_iconst (v := iI 0) hx hb dL_law_18 rfl ?_
  refine lv_istore (lv' := [(4, .int (iI 0)), (3, .int (iI 1)), (2, .ref (ae 0)), (1, .ref (ad 0)), (0, .ref b)]) hx hb dL_law_19 hl (by decide) rfl (fun ls hl => ?_)
  have hI : PR D cy (fun q : Nat => s.heap.size ≤ q) ad ae (M0, [], fun _ => none, []) (mirM M0, ([] : List MS).map mirM, mirS (fun _ => none), []) H := ⟨uN, uN, Jx_start, Jx_start, hP5, hD5⟩
  exact law_loop C 71 0 _ _ M0 [] (fun _ => none) IS_start (by omega) (by omega) ⟨by first | omega | (dsimp only; omega) | decide, by first | omega | (dsimp only; omega) | decide⟩ _ _ _ hI hS hl
