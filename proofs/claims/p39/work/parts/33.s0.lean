/-! isStep: its cases -/
def KC (p : Program) (l : Launch) (s : State) (m : MethodId) (args : Array Value) (c : Code) (A : Nat → Prop) (D : va_G) (cy : Nat → ClassId) : Prop :=
  p.tables.exec = Jvm.exec ∧ c.code = cL_isStep ∧ c.maxLocals = 11 ∧ s.vm.findClass RL = some m.cls ∧ (∀ w ∈ wsL_isStep, w.before args s = true) ∧ va_K D vwCl (tysA cy) s ∧ TB s ∧ TC s ∧ SZ A s s.heap ∧ (∀ q : Nat, s.heap.size ≤ q → A q) ∧ l.stackTraces = false
def KE (p : Program) (l : Launch) (e : Env) (s : State) (m : MethodId) (args : Array Value) (below : List Frame) (meth : Method) (c : Code) (A : Nat → Prop) (Q : State → Prop) (D : va_G) (cy : Nat → ClassId) (ad ae : Nat → Nat) : Prop :=
  ∀ (pc : Nat) (ls : Array Slot) (H : Heap) (locs : List Loc) (c1 s1 : Nat) (M : MS) (h : List MS) (sl : Nat → Option MS), decode cL_isStep pc = .ok (.ireturn, 1) → PR D cy A ad ae (M, h, sl, []) (mirM M, h.map mirM, mirS sl, []) H → IS M h sl → va_S A s.heap H locs → c1 ≤ 200 → s1 ≤ 1200 → W p l e ({ frames := 10, cells := 200, slots := 6 * 200, locals := 300 } : Room) s m args below meth c H locs c1 s1 Q (F0 m pc ls [.int (iI 1)])
theorem gl_last {l : List Int32} {a : Int32} {j : Nat} (h : j < l.length + 1) : gl (l ++ [a]) j = if j < l.length then gl l j else a := by
  unfold gl
  rw [List.getD_eq_getElem?_getD, List.getD_eq_getElem?_getD]
  split
  · rename_i q
    rw [List.getElem?_append_left q]
  · rename_i q
    rw [List.getElem?_append_right (by omega), show j - l.length = 0 by omega]
    rfl
theorem fr_snoc {cur L : List Int32} {fr k : Int} (h : ∀ j : Nat, j < cur.length → gl (cur.map (fun x => x - iI 97)) j = gl L (fr.toNat + j)) (hk : (cur.length : Int) = k ∧ 0 ≤ fr) : ∀ j : Nat, j < (cur ++ [iI (97 + (gl L (fr + k).toNat).toInt)]).length → gl ((cur ++ [iI (97 + (gl L (fr + k).toNat).toInt)]).map (fun x => x - iI 97)) j = gl L (fr.toNat + j) := by
  intro j hj
  rw [List.length_append, List.length_singleton] at hj
  rw [List.map_append, List.map_cons, List.map_nil, gl_last (by rw [List.length_map]; exact hj), List.length_map, iI_sub, show 97 + (gl L (fr + k).toNat).toInt - 97 = (gl L (fr + k).toNat).toInt by omega, iI_of]
  split
  · rename_i q
    exact h j q
  · rename_i q
    rw [show (fr + k).toNat = fr.toNat + j by omega]
theorem sk_per {M : MS} {pl d : Int} (hd : d = -1) : mSk M pl d = (perF M.2.1.length (gl M.2.1) : Int) := by
  rw [hd]
  rfl
theorem sk_rng {M : MS} {pl : Int} (hm : 0 < M.2.1.length ∧ M.2.1.length ≤ 16) : 1 ≤ mSk M pl (mD M pl) ∧ mSk M pl (mD M pl) ≤ 17 := by
  have hd := mD_rng M pl
  exact skS_rng hm hd.1 hd.2
theorem per_rng {M : MS} (hm : 0 < M.2.1.length) : 1 ≤ (perF M.2.1.length (gl M.2.1) : Int) ∧ (perF M.2.1.length (gl M.2.1) : Int) ≤ (M.2.1.length : Int) := by
  have a := perF_spec (W := gl M.2.1) hm
  have b := a.2.1
  have c := a.2.2.1
  omega
set_option maxHeartbeats 8000000 in
set_option maxRecDepth 100000 in
theorem st_112 {p : Program} {l : Launch} {e : Env} {s : State} {m : MethodId} {args : Array Value} {below : List Frame} {meth : Method} {c : Code} {A : Nat → Prop} {Q : State → Prop} {D : va_G} {cy : Nat → ClassId} {ad ae : Nat → Nat} (C : KC p l s m args c A D cy) (kend : KE p l e s m args below meth c A Q D cy ad ae) {M : MS} {h : List MS} {sl : Nat → Option MS} (I : IS M h sl) {x y w4 : Int32} {kd : Int} (hkd : 1 ≤ kd ∧ kd ≤ 26) {H : Heap} {locs : List Loc} {ls : Array Slot} (hI : PR D cy A ad ae (M, h, sl, ([] : List Int32)) (mirM M, h.map mirM, mirS sl, ([] : List Int32)) H) (hS : va_S A s.heap H locs) (hl : lv_has ls 11 [(0, .ref (ad 0)), (1, .ref (ae 0)), (2, .int x), (3, .int y), (4, .int w4), (5, .int (iI kd)), (6, .int (iI (M.1.length : Int)))]) : W p l e ({ frames := 10, cells := 200, slots := 6 * 200, locals := 300 } : Room) s m args below meth c H locs 0 0 Q (F0 m 112 ls []) := by
  obtain ⟨hx, hb, hml, hown, hts, hK, hT, hC, hZ, hA, hfl⟩ := id C
  have hMI := I.1
  have hM := hMI.1
  have hn := hM.nums
  have hmL : (mirM M).1.length = M.1.length := mirL_len _
  have hmW : (mirM M).2.1.length = M.2.1.length := mirL_len _
  have hM2 := MOk_mir hM
  refine lv_iload_n hx hb dL_isStep_112 rfl (lv_at hl 3 rfl) ?_
  refine lv_bipush (v := iI 61) hx hb dL_isStep_113 (by decide +kernel) ?_
  refine pU (n := 2) (rest := []) ⟨hx, hb, hml, hown, hts⟩ (c_L_up l D cy y (61 : Int) (by omega)) gL_isStep_L_up rfl (by decide +kernel) ⟨Nat.le_of_ble_eq_true rfl, Nat.le_of_ble_eq_true rfl⟩ hK hT hA rfl hl.1 rfl (Nat.le_of_ble_eq_true rfl) dL_isStep_115 ⟨show 0 ≤ 200 by omega, show 0 ≤ 1200 by omega⟩ hI hS (fun r_1 t_1 H locs hw_1 hI hS => ?_)
  obtain ⟨a_1, b_1, er_1⟩ := hw_1
  have b_1 : t_1 < (61 : Int) := b_1
  subst er_1
  have hI : PR D cy A ad ae (M, h, sl, ([] : List Int32)) (mirM M, h.map mirM, mirS sl, ([] : List Int32)) H := hI
  refine lv_istore (lv' := [(7, .int (iI t_1)), (0, .ref (ad 0)), (1, .ref (ae 0)), (2, .int x), (3, .int y), (4, .int w4), (5, .int (iI kd)), (6, .int (iI (M.1.length : Int)))]) hx hb dL_isStep_118 hl (by decide) rfl (fun ls hl => ?_)
  refine lv_aload_n hx hb dL_isStep_120 rfl (lv_at hl 1 rfl) ?_
  refine pV1 (n := 0) (As := []) (rest := []) ⟨hx, hb, hml, hown, hts⟩ (x_clearText l D cy ad M h sl ([] : List Int32)  ) gL_isStep_X4_clearText rfl (by decide +kernel) ⟨Nat.le_of_ble_eq_true rfl, Nat.le_of_ble_eq_true rfl⟩ hK hT hA rfl hl.1 rfl (Nat.le_of_ble_eq_true rfl) dL_isStep_121 ⟨show 0 ≤ 200 by omega, show 0 ≤ 1200 by omega⟩ hI hS (fun H locs hI hS => ?_)
  have hI : PR D cy A ad ae (M, h, sl, []) (mirM M, h.map mirM, mirS sl, ([] : List Int32)) H := hI
  refine z_top (show (iI (([] : List Int32).length : Int)) = iI 0 from rfl) ?_
  refine lv_aload_n hx hb dL_isStep_124 rfl (lv_at hl 2 rfl) ?_
  refine pV2 (n := 0) (As := []) (rest := [.int (iI 0)]) ⟨hx, hb, hml, hown, hts⟩ (x_clearText l D cy ae (mirM M) (h.map mirM) (mirS sl) ([] : List Int32)  ) gL_isStep_X4_clearText rfl (by decide +kernel) ⟨Nat.le_of_ble_eq_true rfl, Nat.le_of_ble_eq_true rfl⟩ hK hT hA rfl hl.1 rfl (Nat.le_of_ble_eq_true rfl) dL_isStep_125 ⟨show 0 ≤ 200 by omega, show 0 ≤ 1200 by omega⟩ hI hS (fun H locs hI hS => ?_)
  have hI : PR D cy A ad ae (M, h, sl, []) (mirM M, h.map mirM, mirS sl, []) H := hI
  refine z_top (show (iI (([] : List Int32).length : Int)) = iI 0 from rfl) ?_
  refine z_icmp_ne (tgt := 135) hx hb (iI_t (by omega) (by omega)) (iI_t (by omega) (by omega)) dL_isStep_128 (by decide) (fun c4 => absurd c4 (by omega)) (fun _ => ?_)
  refine lv_iconst (v := iI 1) hx hb dL_isStep_131 rfl ?_
  refine lv_goto (tgt := 136) hx hb dL_isStep_132 (by decide) ?_
  refine lv_istore (lv' := [(8, .int (iI 1)), (7, .int (iI t_1)), (0, .ref (ad 0)), (1, .ref (ae 0)), (2, .int x), (3, .int y), (4, .int w4), (5, .int (iI kd)), (6, .int (iI (M.1.length : Int)))]) hx hb dL_isStep_136 hl (by decide) rfl (fun ls hl => ?_)
  refine lv_iconst (v := iI 0) hx hb dL_isStep_138 rfl ?_
  refine lv_istore (lv' := [(9, .int (iI 0)), (8, .int (iI 1)), (7, .int (iI t_1)), (0, .ref (ad 0)), (1, .ref (ae 0)), (2, .int x), (3, .int y), (4, .int w4), (5, .int (iI kd)), (6, .int (iI (M.1.length : Int)))]) hx hb dL_isStep_139 hl (by decide) rfl (fun ls hl => ?_)
  have hloop5 : ∀ (n5 cl5 sl5 : Nat) (k : Int) (cur : List Int32) (hk : 0 ≤ k ∧ k ≤ t_1) (hcur : (cur.length : Int) = k) (hlet : LetT cur) (hcl5 : cl5 + 2 * n5 ≤ 190 ∧ sl5 + 12 * n5 ≤ 1140) (hm5 : t_1 - k < (n5 : Int)) (H : Heap) (locs : List Loc) (ls : Array Slot) (hI : PR D cy A ad ae (M, h, sl, cur) (mirM M, h.map mirM, mirS sl, mirT cur) H) (hS : va_S A s.heap H locs) (hl : lv_has ls 11 [(9, .int (iI k)), (8, .int (iI 1)), (7, .int (iI t_1)), (0, .ref (ad 0)), (1, .ref (ae 0)), (2, .int x), (3, .int y), (4, .int w4), (5, .int (iI kd)), (6, .int (iI (M.1.length : Int)))]), W p l e ({ frames := 10, cells := 200, slots := 6 * 200, locals := 300 } : Room) s m args below meth c H locs cl5 sl5 Q (F0 m 141 ls []) := by
    intro n5
    induction n5 with
    | zero =>
      intro cl5 sl5 k cur hk hcur hlet hcl5 hm5; exact absurd hm5 (by omega)
    | succ n5 ih5 =>
      intro cl5 sl5 k cur hk hcur hlet hcl5 hm5 H locs ls hI hS hl
      have hml2 := mirT_len cur
      refine lv_iload hx hb dL_isStep_141 (lv_at hl 0 rfl) ?_
      refine lv_iload hx hb dL_isStep_143 (lv_at hl 2 rfl) ?_
      refine z_icmp_ge (tgt := 195) hx hb (iI_t (by omega) (by omega)) (iI_t (by omega) (by omega)) dL_isStep_145 (by decide) (fun c6 => ?_) (fun c6 => ?_)
      · --
        refine lv_iload hx hb dL_isStep_195 (lv_at hl 1 rfl) ?_
        refine z_if_eq (tgt := 236) hx hb (iI_t (by omega) (by omega)) dL_isStep_197 (by decide) (fun c7 => absurd c7 (by omega)) (fun _ => ?_)
        refine lv_aload_n hx hb dL_isStep_200 rfl (lv_at hl 3 rfl) ?_
        refine pS1 (n := 1) (As := []) (rest := []) ⟨hx, hb, hml, hown, hts⟩ (x_takeLine l hfl D cy ad M h sl cur  (hlet.err 0) (by omega)) gL_isStep_L_takeLine rfl (by decide +kernel) ⟨Nat.le_of_ble_eq_true rfl, Nat.le_of_ble_eq_true rfl⟩ hK hT hC hZ hA rfl hl.1 rfl (Nat.le_of_ble_eq_true rfl) dL_isStep_201 ⟨show cl5 + 1 ≤ 200 by omega, show sl5 + 6 * 1 ≤ 1200 by omega⟩ hI hS (fun H locs hI hS => ?_)
        have hI : PR D cy A ad ae (mTakeL M cur, pushH h M, sl, []) (mirM M, h.map mirM, mirS sl, mirT cur) H := hI
        refine z_top (show (iI (cur.length : Int)) = iI t_1 from congrArg iI (by omega)) ?_
        refine lv_iload hx hb dL_isStep_204 (lv_at hl 2 rfl) ?_
        refine z_icmp_ne (tgt := 236) hx hb (iI_t (by omega) (by omega)) (iI_t (by omega) (by omega)) dL_isStep_206 (by decide) (fun c9 => absurd c9 (by omega)) (fun c9 => ?_)
        refine lv_aload_n hx hb dL_isStep_209 rfl (lv_at hl 4 rfl) ?_
        refine pS2 (n := 1) (As := []) (rest := []) ⟨hx, hb, hml, hown, hts⟩ (x_takeLine l hfl D cy ae (mirM M) (h.map mirM) (mirS sl) (mirT cur)  (hlet.mir.err 0) (by omega)) gL_isStep_L_takeLine rfl (by decide +kernel) ⟨Nat.le_of_ble_eq_true rfl, Nat.le_of_ble_eq_true rfl⟩ hK hT hC hZ hA rfl hl.1 rfl (Nat.le_of_ble_eq_true rfl) dL_isStep_210 ⟨show (cl5 + 1) + 1 ≤ 200 by omega, show (sl5 + 6 * 1) + 6 * 1 ≤ 1200 by omega⟩ hI hS (fun H locs hI hS => ?_)
        have hI : PR D cy A ad ae (mTakeL M cur, pushH h M, sl, []) (mTakeL (mirM M) (mirT cur), pushH (h.map mirM) (mirM M), mirS sl, []) H := hI
        refine z_top (show (iI ((mirT cur).length : Int)) = iI t_1 from congrArg iI (by omega)) ?_
        refine lv_iload hx hb dL_isStep_213 (lv_at hl 2 rfl) ?_
        refine z_icmp_ne (tgt := 236) hx hb (iI_t (by omega) (by omega)) (iI_t (by omega) (by omega)) dL_isStep_215 (by decide) (fun c11 => absurd c11 (by omega)) (fun c11 => ?_)
        refine lv_aload_n hx hb dL_isStep_218 rfl (lv_at hl 3 rfl) ?_
        refine pV1 (n := 0) (As := []) (rest := []) ⟨hx, hb, hml, hown, hts⟩ (x_place l D cy ad (mTakeL M cur) (pushH h M) sl ([])  ) gL_isStep_X4_place rfl (by decide +kernel) ⟨Nat.le_of_ble_eq_true rfl, Nat.le_of_ble_eq_true rfl⟩ hK hT hA rfl hl.1 rfl (Nat.le_of_ble_eq_true rfl) dL_isStep_219 ⟨show ((cl5 + 1) + 1) ≤ 200 by omega, show ((sl5 + 6 * 1) + 6 * 1) ≤ 1200 by omega⟩ hI hS (fun H locs hI hS => ?_)
        have hI : PR D cy A ad ae (mTakeL M cur, pushH h M, sl, []) (mTakeL (mirM M) (mirT cur), pushH (h.map mirM) (mirM M), mirS sl, []) H := hI
        refine z_top (show (iI (mTakeL M cur).2.2.2.2.2.1) = iI 0 from rfl) ?_
        refine z_if_ne (tgt := 236) hx hb (iI_t (by omega) (by omega)) dL_isStep_222 (by decide) (fun c13 => absurd c13 (by omega)) (fun _ => ?_)
        refine lv_aload_n hx hb dL_isStep_225 rfl (lv_at hl 3 rfl) ?_
        refine pV1 (n := 0) (As := []) (rest := []) ⟨hx, hb, hml, hown, hts⟩ (x_lookCount l D cy ad (mTakeL M cur) (pushH h M) sl ([])  ) gL_isStep_X4_lookCount rfl (by decide +kernel) ⟨Nat.le_of_ble_eq_true rfl, Nat.le_of_ble_eq_true rfl⟩ hK hT hA rfl hl.1 rfl (Nat.le_of_ble_eq_true rfl) dL_isStep_226 ⟨show ((cl5 + 1) + 1) ≤ 200 by omega, show ((sl5 + 6 * 1) + 6 * 1) ≤ 1200 by omega⟩ hI hS (fun H locs hI hS => ?_)
        have hI : PR D cy A ad ae (mTakeL M cur, pushH h M, sl, []) (mTakeL (mirM M) (mirT cur), pushH (h.map mirM) (mirM M), mirS sl, []) H := hI
        refine z_top (show (iI (mTakeL M cur).2.2.2.2.2.2.1) = iI 0 from rfl) ?_
        refine z_if_ne (tgt := 236) hx hb (iI_t (by omega) (by omega)) dL_isStep_229 (by decide) (fun c15 => absurd c15 (by omega)) (fun _ => ?_)
        refine lv_iconst (v := iI 1) hx hb dL_isStep_232 rfl ?_
        refine lv_goto (tgt := 237) hx hb dL_isStep_233 (by decide) ?_
        have hI : PR D cy A ad ae (mTakeL M cur, pushH h M, sl, []) (mirM (mTakeL M cur), (pushH h M).map mirM, mirS sl, ([] : List Int32)) H := by rw [← mTakeL_mir, push_mir]; exact hI
        exact kend 237 _ _ _ _ _ (mTakeL M cur) (pushH h M) sl dL_isStep_237 hI (I.push (hMI.takeL hlet (by omega))) hS (by omega) (by omega)
      · --
        refine lv_iload hx hb dL_isStep_148 (lv_at hl 1 rfl) ?_
        refine z_if_eq (tgt := 186) hx hb (iI_t (by omega) (by omega)) dL_isStep_150 (by decide) (fun c16 => absurd c16 (by omega)) (fun _ => ?_)
        refine lv_aload_n hx hb dL_isStep_153 rfl (lv_at hl 3 rfl) ?_
        refine lv_aload_n hx hb dL_isStep_154 rfl (lv_at hl 4 rfl) ?_
        refine lv_iload_n hx hb dL_isStep_155 rfl (lv_at hl 6 rfl) ?_
        refine lv_iload hx hb dL_isStep_156 (lv_at hl 0 rfl) ?_
        refine lv_bipush (v := iI 17) hx hb dL_isStep_158 (by decide +kernel) ?_
        refine lv_irem hx hb dL_isStep_160 (by decide +kernel) ?_
        refine lv_topi (fun w_17 _ => ?_)
        refine lv_ishr hx hb dL_isStep_161 ?_
        refine lv_topi (fun w_18 _ => ?_)
        refine lv_iload hx hb dL_isStep_162 (lv_at hl 7 rfl) ?_
        refine lv_iload hx hb dL_isStep_164 (lv_at hl 0 rfl) ?_
        refine lv_bipush (v := iI 23) hx hb dL_isStep_166 (by decide +kernel) ?_
        refine lv_irem hx hb dL_isStep_168 (by decide +kernel) ?_
        refine lv_topi (fun w_19 _ => ?_)
        refine lv_ishr hx hb dL_isStep_169 ?_
        refine lv_topi (fun w_20 _ => ?_)
        refine lv_ixor hx hb dL_isStep_170 ?_
        refine lv_topi (fun w_21 _ => ?_)
        refine lv_iload hx hb dL_isStep_171 (lv_at hl 8 rfl) ?_
        refine pU (n := 2) (rest := [.ref (ae 0), .ref (ad 0)]) ⟨hx, hb, hml, hown, hts⟩ (c_L_up l D cy w_21 kd (by omega)) gL_isStep_L_up rfl (by decide +kernel) ⟨Nat.le_of_ble_eq_true rfl, Nat.le_of_ble_eq_true rfl⟩ hK hT hA rfl hl.1 rfl (Nat.le_of_ble_eq_true rfl) dL_isStep_173 ⟨show cl5 ≤ 200 by omega, show sl5 ≤ 1200 by omega⟩ hI hS (fun r_22 t_22 H locs hw_22 hI hS => ?_)
        obtain ⟨a_22, b_22, er_22⟩ := hw_22
        have b_22 : t_22 < kd := b_22
        subst er_22
        have hI : PR D cy A ad ae (M, h, sl, cur) (mirM M, h.map mirM, mirS sl, mirT cur) H := hI
        refine pN2 (n := 3) (As := [.int (iI t_22)]) (rest := []) ⟨hx, hb, hml, hown, hts⟩ (c_L_both l hfl D cy ad ae M h sl cur (mirM M) (h.map mirM) (mirS sl) (mirT cur) t_22 (by omega) (by omega)) gL_isStep_L_both rfl (by decide +kernel) ⟨Nat.le_of_ble_eq_true rfl, Nat.le_of_ble_eq_true rfl⟩ hK hT hC hZ hA rfl hl.1 rfl (Nat.le_of_ble_eq_true rfl) dL_isStep_176 ⟨show cl5 + 2 ≤ 200 by omega, show sl5 + 6 * 2 ≤ 1200 by omega⟩ hI hS (fun r_23 S_23 T_23 H locs hw_23 hI hS => ?_)
        obtain ⟨er_23, eS_23, eT_23⟩ := hw_23
        subst er_23
        subst eS_23
        subst eT_23
        have hI : PR D cy A ad ae (M, h, sl, cur ++ [iI (97 + t_22)]) (mirM M, h.map mirM, mirS sl, mirT cur ++ [iI (122 - t_22)]) H := hI
        refine z_if_eq (tgt := 186) hx hb (iI_t (by omega) (by omega)) dL_isStep_179 (by decide) (fun c24 => absurd c24 (by omega)) (fun _ => ?_)
        refine lv_iconst (v := iI 1) hx hb dL_isStep_182 rfl ?_
        refine lv_goto (tgt := 187) hx hb dL_isStep_183 (by decide) ?_
        refine lv_istore (lv' := [(8, .int (iI 1)), (9, .int (iI k)), (7, .int (iI t_1)), (0, .ref (ad 0)), (1, .ref (ae 0)), (2, .int x), (3, .int y), (4, .int w4), (5, .int (iI kd)), (6, .int (iI (M.1.length : Int)))]) hx hb dL_isStep_187 hl (by decide) rfl (fun ls hl => ?_)
        refine z_iinc (lv' := [(9, .int (iI (k + 1))), (8, .int (iI 1)), (7, .int (iI t_1)), (0, .ref (ad 0)), (1, .ref (ae 0)), (2, .int x), (3, .int y), (4, .int w4), (5, .int (iI kd)), (6, .int (iI (M.1.length : Int)))]) hx hb dL_isStep_189 hl (k := 1) rfl (by decide) rfl (fun ls hl => ?_)
        refine lv_goto (tgt := 141) hx hb dL_isStep_192 (by decide) ?_
        have hI : PR D cy A ad ae (M, h, sl, cur ++ [iI (97 + t_22)]) (mirM M, h.map mirM, mirS sl, mirT (cur ++ [iI (97 + t_22)])) H := by rw [mirT_snoc]; exact hI
        exact ih5 (cl5 + 2) (sl5 + 6 * 2) (k + 1) (cur ++ [iI (97 + t_22)]) (by omega) (by rw [List.length_append, List.length_singleton]; omega) (hlet.snoc (by omega)) (by omega) (by omega) _ _ _ hI hS (lv_sub hl [0, 1, 2, 3, 4, 5, 6, 7, 8, 9] rfl)
  exact hloop5 (Int.toNat (t_1 - 0) + 1) 0 0 0 ([] : List Int32) (by omega) (rfl) (LetT.no) (by omega) (by omega) _ _ _ hI hS (lv_sub hl [0, 1, 2, 3, 4, 5, 6, 7, 8, 9] rfl)
set_option maxHeartbeats 8000000 in
set_option maxRecDepth 100000 in
theorem st_293 {p : Program} {l : Launch} {e : Env} {s : State} {m : MethodId} {args : Array Value} {below : List Frame} {meth : Method} {c : Code} {A : Nat → Prop} {Q : State → Prop} {D : va_G} {cy : Nat → ClassId} {ad ae : Nat → Nat} (C : KC p l s m args c A D cy) (kend : KE p l e s m args below meth c A Q D cy ad ae) {M : MS} {h : List MS} {sl : Nat → Option MS} (I : IS M h sl) {x y w4 : Int32} {kd : Int} (hkd : 1 ≤ kd ∧ kd ≤ 26) {t fr : Int} (ht : 0 ≤ t ∧ t ≤ 16) (hf : -1 ≤ fr ∧ (0 ≤ fr → fr + t ≤ (M.1.length : Int))) {H : Heap} {locs : List Loc} {ls : Array Slot} (hI : PR D cy A ad ae (M, h, sl, ([] : List Int32)) (mirM M, h.map mirM, mirS sl, ([] : List Int32)) H) (hS : va_S A s.heap H locs) (hl : lv_has ls 11 [(0, .ref (ad 0)), (1, .ref (ae 0)), (2, .int x), (3, .int y), (4, .int w4), (5, .int (iI kd)), (6, .int (iI (M.1.length : Int))), (7, .int (iI t))]) : W p l e ({ frames := 10, cells := 200, slots := 6 * 200, locals := 300 } : Room) s m args below meth c H locs 0 0 Q (F0 m 293 ls [.int (iI fr)]) := by
  obtain ⟨hx, hb, hml, hown, hts, hK, hT, hC, hZ, hA, hfl⟩ := id C
  have hMI := I.1
  have hM := hMI.1
  have hn := hM.nums
  have hmL : (mirM M).1.length = M.1.length := mirL_len _
  have hmW : (mirM M).2.1.length = M.2.1.length := mirL_len _
  have hM2 := MOk_mir hM
  refine lv_istore (lv' := [(8, .int (iI fr)), (0, .ref (ad 0)), (1, .ref (ae 0)), (2, .int x), (3, .int y), (4, .int w4), (5, .int (iI kd)), (6, .int (iI (M.1.length : Int))), (7, .int (iI t))]) hx hb dL_isStep_293 hl (by decide) rfl (fun ls hl => ?_)
  refine lv_aload_n hx hb dL_isStep_295 rfl (lv_at hl 1 rfl) ?_
  refine pV1 (n := 0) (As := []) (rest := []) ⟨hx, hb, hml, hown, hts⟩ (x_clearText l D cy ad M h sl ([] : List Int32)  ) gL_isStep_X4_clearText rfl (by decide +kernel) ⟨Nat.le_of_ble_eq_true rfl, Nat.le_of_ble_eq_true rfl⟩ hK hT hA rfl hl.1 rfl (Nat.le_of_ble_eq_true rfl) dL_isStep_296 ⟨show 0 ≤ 200 by omega, show 0 ≤ 1200 by omega⟩ hI hS (fun H locs hI hS => ?_)
  have hI : PR D cy A ad ae (M, h, sl, []) (mirM M, h.map mirM, mirS sl, ([] : List Int32)) H := hI
  refine z_top (show (iI (([] : List Int32).length : Int)) = iI 0 from rfl) ?_
  refine lv_aload_n hx hb dL_isStep_299 rfl (lv_at hl 2 rfl) ?_
  refine pV2 (n := 0) (As := []) (rest := [.int (iI 0)]) ⟨hx, hb, hml, hown, hts⟩ (x_clearText l D cy ae (mirM M) (h.map mirM) (mirS sl) ([] : List Int32)  ) gL_isStep_X4_clearText rfl (by decide +kernel) ⟨Nat.le_of_ble_eq_true rfl, Nat.le_of_ble_eq_true rfl⟩ hK hT hA rfl hl.1 rfl (Nat.le_of_ble_eq_true rfl) dL_isStep_300 ⟨show 0 ≤ 200 by omega, show 0 ≤ 1200 by omega⟩ hI hS (fun H locs hI hS => ?_)
  have hI : PR D cy A ad ae (M, h, sl, []) (mirM M, h.map mirM, mirS sl, []) H := hI
  refine z_top (show (iI (([] : List Int32).length : Int)) = iI 0 from rfl) ?_
  refine z_icmp_ne (tgt := 310) hx hb (iI_t (by omega) (by omega)) (iI_t (by omega) (by omega)) dL_isStep_303 (by decide) (fun c3 => absurd c3 (by omega)) (fun _ => ?_)
  refine lv_iconst (v := iI 1) hx hb dL_isStep_306 rfl ?_
  refine lv_goto (tgt := 311) hx hb dL_isStep_307 (by decide) ?_
  refine lv_istore (lv' := [(9, .int (iI 1)), (8, .int (iI fr)), (0, .ref (ad 0)), (1, .ref (ae 0)), (2, .int x), (3, .int y), (4, .int w4), (5, .int (iI kd)), (6, .int (iI (M.1.length : Int))), (7, .int (iI t))]) hx hb dL_isStep_311 hl (by decide) rfl (fun ls hl => ?_)
  refine lv_iconst (v := iI 0) hx hb dL_isStep_313 rfl ?_
  refine lv_istore (lv' := [(10, .int (iI 0)), (9, .int (iI 1)), (8, .int (iI fr)), (0, .ref (ad 0)), (1, .ref (ae 0)), (2, .int x), (3, .int y), (4, .int w4), (5, .int (iI kd)), (6, .int (iI (M.1.length : Int))), (7, .int (iI t))]) hx hb dL_isStep_314 hl (by decide) rfl (fun ls hl => ?_)
  have hloop4 : ∀ (n4 cl4 sl4 : Nat) (k : Int) (cur : List Int32) (hk : 0 ≤ k ∧ k ≤ t) (hcur : (cur.length : Int) = k) (hlet : LetT cur) (hfr : 0 ≤ fr → ∀ j : Nat, j < cur.length → gl (cur.map (fun x => x - iI 97)) j = gl M.1 (fr.toNat + j)) (hcl4 : cl4 + 3 * n4 ≤ 180 ∧ sl4 + 18 * n4 ≤ 1080) (hm4 : t - k < (n4 : Int)) (H : Heap) (locs : List Loc) (ls : Array Slot) (hI : PR D cy A ad ae (M, h, sl, cur) (mirM M, h.map mirM, mirS sl, mirT cur) H) (hS : va_S A s.heap H locs) (hl : lv_has ls 11 [(10, .int (iI k)), (9, .int (iI 1)), (8, .int (iI fr)), (0, .ref (ad 0)), (1, .ref (ae 0)), (2, .int x), (3, .int y), (4, .int w4), (5, .int (iI kd)), (6, .int (iI (M.1.length : Int))), (7, .int (iI t))]), W p l e ({ frames := 10, cells := 200, slots := 6 * 200, locals := 300 } : Room) s m args below meth c H locs cl4 sl4 Q (F0 m 316 ls []) := by
    intro n4
    induction n4 with
    | zero =>
      intro cl4 sl4 k cur hk hcur hlet hfr hcl4 hm4; exact absurd hm4 (by omega)
    | succ n4 ih4 =>
      intro cl4 sl4 k cur hk hcur hlet hfr hcl4 hm4 H locs ls hI hS hl
      have hml2 := mirT_len cur
      refine lv_iload hx hb dL_isStep_316 (lv_at hl 0 rfl) ?_
      refine lv_iload hx hb dL_isStep_318 (lv_at hl 10 rfl) ?_
      refine z_icmp_ge (tgt := 387) hx hb (iI_t (by omega) (by omega)) (iI_t (by omega) (by omega)) dL_isStep_320 (by decide) (fun c5 => ?_) (fun c5 => ?_)
      · --
        refine lv_iload hx hb dL_isStep_387 (lv_at hl 1 rfl) ?_
        refine z_if_eq (tgt := 431) hx hb (iI_t (by omega) (by omega)) dL_isStep_389 (by decide) (fun c6 => absurd c6 (by omega)) (fun _ => ?_)
        refine lv_aload_n hx hb dL_isStep_392 rfl (lv_at hl 3 rfl) ?_
        refine pS1 (n := 1) (As := []) (rest := []) ⟨hx, hb, hml, hown, hts⟩ (x_takeWord l hfl D cy ad M h sl cur  (hlet.err 0) (by omega)) gL_isStep_L_takeWord rfl (by decide +kernel) ⟨Nat.le_of_ble_eq_true rfl, Nat.le_of_ble_eq_true rfl⟩ hK hT hC hZ hA rfl hl.1 rfl (Nat.le_of_ble_eq_true rfl) dL_isStep_393 ⟨show cl4 + 1 ≤ 200 by omega, show sl4 + 6 * 1 ≤ 1200 by omega⟩ hI hS (fun H locs hI hS => ?_)
        have hI : PR D cy A ad ae (mTakeW M cur, pushH h M, sl, []) (mirM M, h.map mirM, mirS sl, mirT cur) H := hI
        refine z_top (show (iI (cur.length : Int)) = iI t from congrArg iI (by omega)) ?_
        refine lv_iload hx hb dL_isStep_396 (lv_at hl 10 rfl) ?_
        refine z_icmp_ne (tgt := 431) hx hb (iI_t (by omega) (by omega)) (iI_t (by omega) (by omega)) dL_isStep_398 (by decide) (fun c8 => absurd c8 (by omega)) (fun c8 => ?_)
        refine lv_aload_n hx hb dL_isStep_401 rfl (lv_at hl 4 rfl) ?_
        refine pS2 (n := 1) (As := []) (rest := []) ⟨hx, hb, hml, hown, hts⟩ (x_takeWord l hfl D cy ae (mirM M) (h.map mirM) (mirS sl) (mirT cur)  (hlet.mir.err 0) (by omega)) gL_isStep_L_takeWord rfl (by decide +kernel) ⟨Nat.le_of_ble_eq_true rfl, Nat.le_of_ble_eq_true rfl⟩ hK hT hC hZ hA rfl hl.1 rfl (Nat.le_of_ble_eq_true rfl) dL_isStep_402 ⟨show (cl4 + 1) + 1 ≤ 200 by omega, show (sl4 + 6 * 1) + 6 * 1 ≤ 1200 by omega⟩ hI hS (fun H locs hI hS => ?_)
        have hI : PR D cy A ad ae (mTakeW M cur, pushH h M, sl, []) (mTakeW (mirM M) (mirT cur), pushH (h.map mirM) (mirM M), mirS sl, []) H := hI
        refine z_top (show (iI ((mirT cur).length : Int)) = iI t from congrArg iI (by omega)) ?_
        refine lv_iload hx hb dL_isStep_405 (lv_at hl 10 rfl) ?_
        refine z_icmp_ne (tgt := 431) hx hb (iI_t (by omega) (by omega)) (iI_t (by omega) (by omega)) dL_isStep_407 (by decide) (fun c10 => absurd c10 (by omega)) (fun c10 => ?_)
        refine lv_iload hx hb dL_isStep_410 (lv_at hl 10 rfl) ?_
        refine z_if_eq (tgt := 427) hx hb (iI_t (by omega) (by omega)) dL_isStep_412 (by decide) (fun c11 => ?_) (fun c11 => ?_)
        · --
          refine lv_iconst (v := iI 1) hx hb dL_isStep_427 rfl ?_
          refine lv_goto (tgt := 432) hx hb dL_isStep_428 (by decide) ?_
          have hI : PR D cy A ad ae (mTakeW M cur, pushH h M, sl, []) (mirM (mTakeW M cur), (pushH h M).map mirM, mirS sl, ([] : List Int32)) H := by rw [← mTakeW_mir, push_mir]; exact hI
          exact kend 432 _ _ _ _ _ (mTakeW M cur) (pushH h M) sl dL_isStep_432 hI (I.push (hMI.takeW hlet (by omega))) hS (by omega) (by omega)
        · --
          refine lv_iload hx hb dL_isStep_415 (lv_at hl 2 rfl) ?_
          refine z_if_lt (tgt := 427) hx hb (iI_t (by omega) (by omega)) dL_isStep_417 (by decide) (fun c12 => ?_) (fun c12 => ?_)
          · --
            refine lv_iconst (v := iI 1) hx hb dL_isStep_427 rfl ?_
            refine lv_goto (tgt := 432) hx hb dL_isStep_428 (by decide) ?_
            have hI : PR D cy A ad ae (mTakeW M cur, pushH h M, sl, []) (mirM (mTakeW M cur), (pushH h M).map mirM, mirS sl, ([] : List Int32)) H := by rw [← mTakeW_mir, push_mir]; exact hI
            exact kend 432 _ _ _ _ _ (mTakeW M cur) (pushH h M) sl dL_isStep_432 hI (I.push (hMI.takeW hlet (by omega))) hS (by omega) (by omega)
          · --
            refine lv_aload_n hx hb dL_isStep_420 rfl (lv_at hl 3 rfl) ?_
            have hoc := occ_rng (hM.takeW (tx := cur) (by omega))
            have hop : 0 < occF (mTakeW M cur) := occ_pos (M := mTakeW M cur) (a := fr.toNat) (by show ¬ ((cur.map (fun x => x - iI 97)).length : Int) = 0; rw [List.length_map]; omega) (by show fr.toNat + (cur.map (fun x => x - iI 97)).length ≤ M.1.length; rw [List.length_map]; omega) (by show ∀ j : Nat, j < (cur.map (fun x => x - iI 97)).length → _; rw [List.length_map]; exact hfr (by omega))
            refine pV1 (n := 0) (As := []) (rest := []) ⟨hx, hb, hml, hown, hts⟩ (x_occurrences l D cy ad (mTakeW M cur) (pushH h M) sl ([])  ) gL_isStep_X4_occurrences rfl (by decide +kernel) ⟨Nat.le_of_ble_eq_true rfl, Nat.le_of_ble_eq_true rfl⟩ hK hT hA rfl hl.1 rfl (Nat.le_of_ble_eq_true rfl) dL_isStep_421 ⟨show ((cl4 + 1) + 1) ≤ 200 by omega, show ((sl4 + 6 * 1) + 6 * 1) ≤ 1200 by omega⟩ hI hS (fun H locs hI hS => ?_)
            have hI : PR D cy A ad ae (mTakeW M cur, pushH h M, sl, []) (mTakeW (mirM M) (mirT cur), pushH (h.map mirM) (mirM M), mirS sl, []) H := hI
            refine z_if_le (tgt := 431) hx hb (iI_t (by omega) (by omega)) dL_isStep_424 (by decide) (fun c14 => absurd c14 (by omega)) (fun c14 => ?_)
            refine lv_iconst (v := iI 1) hx hb dL_isStep_427 rfl ?_
            refine lv_goto (tgt := 432) hx hb dL_isStep_428 (by decide) ?_
            have hI : PR D cy A ad ae (mTakeW M cur, pushH h M, sl, []) (mirM (mTakeW M cur), (pushH h M).map mirM, mirS sl, ([] : List Int32)) H := by rw [← mTakeW_mir, push_mir]; exact hI
            exact kend 432 _ _ _ _ _ (mTakeW M cur) (pushH h M) sl dL_isStep_432 hI (I.push (hMI.takeW hlet (by omega))) hS (by omega) (by omega)
      · --
        refine lv_iload hx hb dL_isStep_323 (lv_at hl 1 rfl) ?_
        refine z_if_eq (tgt := 378) hx hb (iI_t (by omega) (by omega)) dL_isStep_325 (by decide) (fun c15 => absurd c15 (by omega)) (fun _ => ?_)
        refine lv_aload_n hx hb dL_isStep_328 rfl (lv_at hl 3 rfl) ?_
        refine lv_aload_n hx hb dL_isStep_329 rfl (lv_at hl 4 rfl) ?_
        refine lv_iload hx hb dL_isStep_330 (lv_at hl 2 rfl) ?_
        refine z_if_ge (tgt := 359) hx hb (iI_t (by omega) (by omega)) dL_isStep_332 (by decide) (fun c16 => ?_) (fun c16 => ?_)
        · --
          refine lv_aload_n hx hb dL_isStep_359 rfl (lv_at hl 3 rfl) ?_
          refine lv_iload hx hb dL_isStep_360 (lv_at hl 2 rfl) ?_
          refine lv_iload hx hb dL_isStep_362 (lv_at hl 0 rfl) ?_
          refine z_add hx hb dL_isStep_364 ?_
          have hlr := hMI.2.1 (fr + k).toNat (by omega)
          refine pS1 (n := 2) (As := [.int (iI (fr + k))]) (rest := [.ref (ae 0), .ref (ad 0)]) ⟨hx, hb, hml, hown, hts⟩ (x_lineLetter l hfl D cy ad M h sl cur (fr + k) (by omega) (by omega)) gL_isStep_L_lineLetter rfl (by decide +kernel) ⟨Nat.le_of_ble_eq_true rfl, Nat.le_of_ble_eq_true rfl⟩ hK hT hC hZ hA rfl hl.1 rfl (Nat.le_of_ble_eq_true rfl) dL_isStep_365 ⟨show cl4 + 1 ≤ 200 by omega, show sl4 + 6 * 1 ≤ 1200 by omega⟩ hI hS (fun H locs hI hS => ?_)
          have hI : PR D cy A ad ae (M, h, sl, cur) (mirM M, h.map mirM, mirS sl, mirT cur) H := hI
          refine z_top (show (gl M.1 (fr + k).toNat) = iI ((gl M.1 (fr + k).toNat).toInt) from (iI_of _).symm) ?_
          refine pN2 (n := 3) (As := [.int (iI ((gl M.1 (fr + k).toNat).toInt))]) (rest := []) ⟨hx, hb, hml, hown, hts⟩ (c_L_both l hfl D cy ad ae M h sl cur (mirM M) (h.map mirM) (mirS sl) (mirT cur) ((gl M.1 (fr + k).toNat).toInt) (by omega) (by omega)) gL_isStep_L_both rfl (by decide +kernel) ⟨Nat.le_of_ble_eq_true rfl, Nat.le_of_ble_eq_true rfl⟩ hK hT hC hZ hA rfl hl.1 rfl (Nat.le_of_ble_eq_true rfl) dL_isStep_368 ⟨show (cl4 + 1) + 2 ≤ 200 by omega, show (sl4 + 6 * 1) + 6 * 2 ≤ 1200 by omega⟩ hI hS (fun r_18 S_18 T_18 H locs hw_18 hI hS => ?_)
          obtain ⟨er_18, eS_18, eT_18⟩ := hw_18
          subst er_18
          subst eS_18
          subst eT_18
          have hI : PR D cy A ad ae (M, h, sl, cur ++ [iI (97 + ((gl M.1 (fr + k).toNat).toInt))]) (mirM M, h.map mirM, mirS sl, mirT cur ++ [iI (122 - ((gl M.1 (fr + k).toNat).toInt))]) H := hI
          refine z_if_eq (tgt := 378) hx hb (iI_t (by omega) (by omega)) dL_isStep_371 (by decide) (fun c19 => absurd c19 (by omega)) (fun _ => ?_)
          refine lv_iconst (v := iI 1) hx hb dL_isStep_374 rfl ?_
          refine lv_goto (tgt := 379) hx hb dL_isStep_375 (by decide) ?_
          refine lv_istore (lv' := [(9, .int (iI 1)), (10, .int (iI k)), (8, .int (iI fr)), (0, .ref (ad 0)), (1, .ref (ae 0)), (2, .int x), (3, .int y), (4, .int w4), (5, .int (iI kd)), (6, .int (iI (M.1.length : Int))), (7, .int (iI t))]) hx hb dL_isStep_379 hl (by decide) rfl (fun ls hl => ?_)
          refine z_iinc (lv' := [(10, .int (iI (k + 1))), (9, .int (iI 1)), (8, .int (iI fr)), (0, .ref (ad 0)), (1, .ref (ae 0)), (2, .int x), (3, .int y), (4, .int w4), (5, .int (iI kd)), (6, .int (iI (M.1.length : Int))), (7, .int (iI t))]) hx hb dL_isStep_381 hl (k := 1) rfl (by decide) rfl (fun ls hl => ?_)
          refine lv_goto (tgt := 316) hx hb dL_isStep_384 (by decide) ?_
          have hI : PR D cy A ad ae (M, h, sl, cur ++ [iI (97 + ((gl M.1 (fr + k).toNat).toInt))]) (mirM M, h.map mirM, mirS sl, mirT (cur ++ [iI (97 + ((gl M.1 (fr + k).toNat).toInt))])) H := by rw [mirT_snoc]; exact hI
          exact ih4 ((cl4 + 1) + 2) ((sl4 + 6 * 1) + 6 * 2) (k + 1) (cur ++ [iI (97 + ((gl M.1 (fr + k).toNat).toInt))]) (by omega) (by rw [List.length_append, List.length_singleton]; omega) (hlet.snoc (by omega)) (by first | exact fun q => absurd q (by omega) | exact fun q => fr_snoc (hfr q) (by omega)) (by omega) (by omega) _ _ _ hI hS (lv_sub hl [0, 1, 2, 3, 4, 5, 6, 7, 8, 9, 10] rfl)
        · --
          refine lv_iload_n hx hb dL_isStep_335 rfl (lv_at hl 6 rfl) ?_
          refine lv_iload hx hb dL_isStep_336 (lv_at hl 0 rfl) ?_
          refine lv_bipush (v := iI 19) hx hb dL_isStep_338 (by decide +kernel) ?_
          refine lv_irem hx hb dL_isStep_340 (by decide +kernel) ?_
          refine lv_topi (fun w_20 _ => ?_)
          refine lv_ishr hx hb dL_isStep_341 ?_
          refine lv_topi (fun w_21 _ => ?_)
          refine lv_iload hx hb dL_isStep_342 (lv_at hl 7 rfl) ?_
          refine lv_iload hx hb dL_isStep_344 (lv_at hl 0 rfl) ?_
          refine lv_bipush (v := iI 23) hx hb dL_isStep_346 (by decide +kernel) ?_
          refine lv_irem hx hb dL_isStep_348 (by decide +kernel) ?_
          refine lv_topi (fun w_22 _ => ?_)
          refine lv_ishr hx hb dL_isStep_349 ?_
          refine lv_topi (fun w_23 _ => ?_)
          refine lv_ixor hx hb dL_isStep_350 ?_
          refine lv_topi (fun w_24 _ => ?_)
          refine lv_iload hx hb dL_isStep_351 (lv_at hl 8 rfl) ?_
          refine pU (n := 2) (rest := [.ref (ae 0), .ref (ad 0)]) ⟨hx, hb, hml, hown, hts⟩ (c_L_up l D cy w_24 kd (by omega)) gL_isStep_L_up rfl (by decide +kernel) ⟨Nat.le_of_ble_eq_true rfl, Nat.le_of_ble_eq_true rfl⟩ hK hT hA rfl hl.1 rfl (Nat.le_of_ble_eq_true rfl) dL_isStep_353 ⟨show cl4 ≤ 200 by omega, show sl4 ≤ 1200 by omega⟩ hI hS (fun r_25 t_25 H locs hw_25 hI hS => ?_)
          obtain ⟨a_25, b_25, er_25⟩ := hw_25
          have b_25 : t_25 < kd := b_25
          subst er_25
          have hI : PR D cy A ad ae (M, h, sl, cur) (mirM M, h.map mirM, mirS sl, mirT cur) H := hI
          refine lv_goto (tgt := 368) hx hb dL_isStep_356 (by decide) ?_
          refine pN2 (n := 3) (As := [.int (iI t_25)]) (rest := []) ⟨hx, hb, hml, hown, hts⟩ (c_L_both l hfl D cy ad ae M h sl cur (mirM M) (h.map mirM) (mirS sl) (mirT cur) t_25 (by omega) (by omega)) gL_isStep_L_both rfl (by decide +kernel) ⟨Nat.le_of_ble_eq_true rfl, Nat.le_of_ble_eq_true rfl⟩ hK hT hC hZ hA rfl hl.1 rfl (Nat.le_of_ble_eq_true rfl) dL_isStep_368 ⟨show cl4 + 2 ≤ 200 by omega, show sl4 + 6 * 2 ≤ 1200 by omega⟩ hI hS (fun r_26 S_26 T_26 H locs hw_26 hI hS => ?_)
          obtain ⟨er_26, eS_26, eT_26⟩ := hw_26
          subst er_26
          subst eS_26
          subst eT_26
          have hI : PR D cy A ad ae (M, h, sl, cur ++ [iI (97 + t_25)]) (mirM M, h.map mirM, mirS sl, mirT cur ++ [iI (122 - t_25)]) H := hI
          refine z_if_eq (tgt := 378) hx hb (iI_t (by omega) (by omega)) dL_isStep_371 (by decide) (fun c27 => absurd c27 (by omega)) (fun _ => ?_)
          refine lv_iconst (v := iI 1) hx hb dL_isStep_374 rfl ?_
          refine lv_goto (tgt := 379) hx hb dL_isStep_375 (by decide) ?_
          refine lv_istore (lv' := [(9, .int (iI 1)), (10, .int (iI k)), (8, .int (iI fr)), (0, .ref (ad 0)), (1, .ref (ae 0)), (2, .int x), (3, .int y), (4, .int w4), (5, .int (iI kd)), (6, .int (iI (M.1.length : Int))), (7, .int (iI t))]) hx hb dL_isStep_379 hl (by decide) rfl (fun ls hl => ?_)
          refine z_iinc (lv' := [(10, .int (iI (k + 1))), (9, .int (iI 1)), (8, .int (iI fr)), (0, .ref (ad 0)), (1, .ref (ae 0)), (2, .int x), (3, .int y), (4, .int w4), (5, .int (iI kd)), (6, .int (iI (M.1.length : Int))), (7, .int (iI t))]) hx hb dL_isStep_381 hl (k := 1) rfl (by decide) rfl (fun ls hl => ?_)
          refine lv_goto (tgt := 316) hx hb dL_isStep_384 (by decide) ?_
          have hI : PR D cy A ad ae (M, h, sl, cur ++ [iI (97 + t_25)]) (mirM M, h.map mirM, mirS sl, mirT (cur ++ [iI (97 + t_25)])) H := by rw [mirT_snoc]; exact hI
          exact ih4 (cl4 + 2) (sl4 + 6 * 2) (k + 1) (cur ++ [iI (97 + t_25)]) (by omega) (by rw [List.length_append, List.length_singleton]; omega) (hlet.snoc (by omega)) (by first | exact fun q => absurd q (by omega) | exact fun q => fr_snoc (hfr q) (by omega)) (by omega) (by omega) _ _ _ hI hS (lv_sub hl [0, 1, 2, 3, 4, 5, 6, 7, 8, 9, 10] rfl)
  exact hloop4 (Int.toNat (t - 0) + 1) 0 0 0 ([] : List Int32) (by omega) (rfl) (LetT.no) (fun _ j hj => absurd hj (Nat.not_lt_zero j)) (by omega) (by omega) _ _ _ hI hS (lv_sub hl [0, 1, 2, 3, 4, 5, 6, 7, 8, 9, 10] rfl)
set_option maxHeartbeats 8000000 in
set_option maxRecDepth 100000 in
theorem st_258 {p : Program} {l : Launch} {e : Env} {s : State} {m : MethodId} {args : Array Value} {below : List Frame} {meth : Method} {c : Code} {A : Nat → Prop} {Q : State → Prop} {D : va_G} {cy : Nat → ClassId} {ad ae : Nat → Nat} (C : KC p l s m args c A D cy) (kend : KE p l e s m args below meth c A Q D cy ad ae) {M : MS} {h : List MS} {sl : Nat → Option MS} (I : IS M h sl) {x y w4 : Int32} {kd : Int} (hkd : 1 ≤ kd ∧ kd ≤ 26) {t : Int} (ht : 0 ≤ t ∧ t ≤ 16) {H : Heap} {locs : List Loc} {ls : Array Slot} (hI : PR D cy A ad ae (M, h, sl, ([] : List Int32)) (mirM M, h.map mirM, mirS sl, ([] : List Int32)) H) (hS : va_S A s.heap H locs) (hl : lv_has ls 11 [(0, .ref (ad 0)), (1, .ref (ae 0)), (2, .int x), (3, .int y), (4, .int w4), (5, .int (iI kd)), (6, .int (iI (M.1.length : Int)))]) : W p l e ({ frames := 10, cells := 200, slots := 6 * 200, locals := 300 } : Room) s m args below meth c H locs 0 0 Q (F0 m 258 ls [.int (iI t)]) := by
  obtain ⟨hx, hb, hml, hown, hts, hK, hT, hC, hZ, hA, hfl⟩ := id C
  have hMI := I.1
  have hM := hMI.1
  have hn := hM.nums
  have hmL : (mirM M).1.length = M.1.length := mirL_len _
  have hmW : (mirM M).2.1.length = M.2.1.length := mirL_len _
  have hM2 := MOk_mir hM
  refine lv_istore (lv' := [(7, .int (iI t)), (0, .ref (ad 0)), (1, .ref (ae 0)), (2, .int x), (3, .int y), (4, .int w4), (5, .int (iI kd)), (6, .int (iI (M.1.length : Int)))]) hx hb dL_isStep_258 hl (by decide) rfl (fun ls hl => ?_)
  refine lv_iload hx hb dL_isStep_260 (lv_at hl 7 rfl) ?_
  refine lv_iload hx hb dL_isStep_262 (lv_at hl 0 rfl) ?_
  refine z_icmp_lt (tgt := 276) hx hb (iI_t (by omega) (by omega)) (iI_t (by omega) (by omega)) dL_isStep_264 (by decide) (fun c1 => ?_) (fun c1 => ?_)
  · --
    refine lv_iconst (v := iI (-1)) hx hb dL_isStep_276 rfl ?_
    refine lv_goto (tgt := 293) hx hb dL_isStep_277 (by decide) ?_
    exact st_293 C kend I hkd (t := t) (fr := (-1)) (by omega) ⟨by omega, fun _ => by omega⟩ hI hS (lv_sub hl [1, 2, 3, 4, 5, 6, 7, 0] rfl)
  · --
    refine lv_iload hx hb dL_isStep_267 (lv_at hl 5 rfl) ?_
    refine lv_iconst (v := iI 4) hx hb dL_isStep_269 rfl ?_
    refine pU (n := 2) (rest := []) ⟨hx, hb, hml, hown, hts⟩ (c_L_up l D cy w4 (4 : Int) (by omega)) gL_isStep_L_up rfl (by decide +kernel) ⟨Nat.le_of_ble_eq_true rfl, Nat.le_of_ble_eq_true rfl⟩ hK hT hA rfl hl.1 rfl (Nat.le_of_ble_eq_true rfl) dL_isStep_270 ⟨show 0 ≤ 200 by omega, show 0 ≤ 1200 by omega⟩ hI hS (fun r_2 t_2 H locs hw_2 hI hS => ?_)
    obtain ⟨a_2, b_2, er_2⟩ := hw_2
    have b_2 : t_2 < (4 : Int) := b_2
    subst er_2
    have hI : PR D cy A ad ae (M, h, sl, ([] : List Int32)) (mirM M, h.map mirM, mirS sl, ([] : List Int32)) H := hI
    refine z_if_ne (tgt := 280) hx hb (iI_t (by omega) (by omega)) dL_isStep_273 (by decide) (fun c3 => ?_) (fun c3 => ?_)
    · --
      refine lv_iload_n hx hb dL_isStep_280 rfl (lv_at hl 4 rfl) ?_
      refine lv_iconst (v := iI 3) hx hb dL_isStep_281 rfl ?_
      refine lv_ishr hx hb dL_isStep_282 ?_
      refine lv_topi (fun w_4 _ => ?_)
      refine lv_iload hx hb dL_isStep_283 (lv_at hl 7 rfl) ?_
      refine lv_iload hx hb dL_isStep_285 (lv_at hl 0 rfl) ?_
      refine z_sub hx hb dL_isStep_287 ?_
      refine lv_iconst (v := iI 1) hx hb dL_isStep_288 rfl ?_
      refine z_add hx hb dL_isStep_289 ?_
      refine pU (n := 2) (rest := []) ⟨hx, hb, hml, hown, hts⟩ (c_L_up l D cy w_4 (((M.1.length : Int) - t) + 1) (by omega)) gL_isStep_L_up rfl (by decide +kernel) ⟨Nat.le_of_ble_eq_true rfl, Nat.le_of_ble_eq_true rfl⟩ hK hT hA rfl hl.1 rfl (Nat.le_of_ble_eq_true rfl) dL_isStep_290 ⟨show 0 ≤ 200 by omega, show 0 ≤ 1200 by omega⟩ hI hS (fun r_5 t_5 H locs hw_5 hI hS => ?_)
      obtain ⟨a_5, b_5, er_5⟩ := hw_5
      have b_5 : t_5 < (((M.1.length : Int) - t) + 1) := b_5
      subst er_5
      have hI : PR D cy A ad ae (M, h, sl, ([] : List Int32)) (mirM M, h.map mirM, mirS sl, ([] : List Int32)) H := hI
      exact st_293 C kend I hkd (t := t) (fr := t_5) (by omega) ⟨by omega, fun _ => by omega⟩ hI hS (lv_sub hl [1, 2, 3, 4, 5, 6, 7, 0] rfl)
    · --
      refine lv_iconst (v := iI (-1)) hx hb dL_isStep_276 rfl ?_
      refine lv_goto (tgt := 293) hx hb dL_isStep_277 (by decide) ?_
      exact st_293 C kend I hkd (t := t) (fr := (-1)) (by omega) ⟨by omega, fun _ => by omega⟩ hI hS (lv_sub hl [1, 2, 3, 4, 5, 6, 7, 0] rfl)
set_option maxHeartbeats 8000000 in
set_option maxRecDepth 100000 in
theorem st_238 {p : Program} {l : Launch} {e : Env} {s : State} {m : MethodId} {args : Array Value} {below : List Frame} {meth : Method} {c : Code} {A : Nat → Prop} {Q : State → Prop} {D : va_G} {cy : Nat → ClassId} {ad ae : Nat → Nat} (C : KC p l s m args c A D cy) (kend : KE p l e s m args below meth c A Q D cy ad ae) {M : MS} {h : List MS} {sl : Nat → Option MS} (I : IS M h sl) {x y w4 : Int32} {kd : Int} (hkd : 1 ≤ kd ∧ kd ≤ 26) {H : Heap} {locs : List Loc} {ls : Array Slot} (hI : PR D cy A ad ae (M, h, sl, ([] : List Int32)) (mirM M, h.map mirM, mirS sl, ([] : List Int32)) H) (hS : va_S A s.heap H locs) (hl : lv_has ls 11 [(0, .ref (ad 0)), (1, .ref (ae 0)), (2, .int x), (3, .int y), (4, .int w4), (5, .int (iI kd)), (6, .int (iI (M.1.length : Int)))]) : W p l e ({ frames := 10, cells := 200, slots := 6 * 200, locals := 300 } : Room) s m args below meth c H locs 0 0 Q (F0 m 238 ls []) := by
  obtain ⟨hx, hb, hml, hown, hts, hK, hT, hC, hZ, hA, hfl⟩ := id C
  have hMI := I.1
  have hM := hMI.1
  have hn := hM.nums
  have hmL : (mirM M).1.length = M.1.length := mirL_len _
  have hmW : (mirM M).2.1.length = M.2.1.length := mirL_len _
  have hM2 := MOk_mir hM
  refine lv_iload_n hx hb dL_isStep_238 rfl (lv_at hl 3 rfl) ?_
  refine lv_iload hx hb dL_isStep_239 (lv_at hl 4 rfl) ?_
  refine lv_iconst (v := iI 3) hx hb dL_isStep_241 rfl ?_
  refine pU (n := 2) (rest := [.int y]) ⟨hx, hb, hml, hown, hts⟩ (c_L_up l D cy w4 (3 : Int) (by omega)) gL_isStep_L_up rfl (by decide +kernel) ⟨Nat.le_of_ble_eq_true rfl, Nat.le_of_ble_eq_true rfl⟩ hK hT hA rfl hl.1 rfl (Nat.le_of_ble_eq_true rfl) dL_isStep_242 ⟨show 0 ≤ 200 by omega, show 0 ≤ 1200 by omega⟩ hI hS (fun r_1 t_1 H locs hw_1 hI hS => ?_)
  obtain ⟨a_1, b_1, er_1⟩ := hw_1
  have b_1 : t_1 < (3 : Int) := b_1
  subst er_1
  have hI : PR D cy A ad ae (M, h, sl, ([] : List Int32)) (mirM M, h.map mirM, mirS sl, ([] : List Int32)) H := hI
  refine z_if_ne (tgt := 253) hx hb (iI_t (by omega) (by omega)) dL_isStep_245 (by decide) (fun c2 => ?_) (fun c2 => ?_)
  · --
    refine lv_bipush (v := iI 6) hx hb dL_isStep_253 (by decide +kernel) ?_
    refine pU (n := 2) (rest := []) ⟨hx, hb, hml, hown, hts⟩ (c_L_up l D cy y (6 : Int) (by omega)) gL_isStep_L_up rfl (by decide +kernel) ⟨Nat.le_of_ble_eq_true rfl, Nat.le_of_ble_eq_true rfl⟩ hK hT hA rfl hl.1 rfl (Nat.le_of_ble_eq_true rfl) dL_isStep_255 ⟨show 0 ≤ 200 by omega, show 0 ≤ 1200 by omega⟩ hI hS (fun r_3 t_3 H locs hw_3 hI hS => ?_)
    obtain ⟨a_3, b_3, er_3⟩ := hw_3
    have b_3 : t_3 < (6 : Int) := b_3
    subst er_3
    have hI : PR D cy A ad ae (M, h, sl, ([] : List Int32)) (mirM M, h.map mirM, mirS sl, ([] : List Int32)) H := hI
    exact st_258 C kend I hkd (t := t_3) (by omega) hI hS (lv_sub hl [0, 1, 2, 3, 4, 5, 6] rfl)
  · --
    refine lv_bipush (v := iI 17) hx hb dL_isStep_248 (by decide +kernel) ?_
    refine lv_goto (tgt := 255) hx hb dL_isStep_250 (by decide) ?_
    refine pU (n := 2) (rest := []) ⟨hx, hb, hml, hown, hts⟩ (c_L_up l D cy y (17 : Int) (by omega)) gL_isStep_L_up rfl (by decide +kernel) ⟨Nat.le_of_ble_eq_true rfl, Nat.le_of_ble_eq_true rfl⟩ hK hT hA rfl hl.1 rfl (Nat.le_of_ble_eq_true rfl) dL_isStep_255 ⟨show 0 ≤ 200 by omega, show 0 ≤ 1200 by omega⟩ hI hS (fun r_4 t_4 H locs hw_4 hI hS => ?_)
    obtain ⟨a_4, b_4, er_4⟩ := hw_4
    have b_4 : t_4 < (17 : Int) := b_4
    subst er_4
    have hI : PR D cy A ad ae (M, h, sl, ([] : List Int32)) (mirM M, h.map mirM, mirS sl, ([] : List Int32)) H := hI
    exact st_258 C kend I hkd (t := t_4) (by omega) hI hS (lv_sub hl [0, 1, 2, 3, 4, 5, 6] rfl)
