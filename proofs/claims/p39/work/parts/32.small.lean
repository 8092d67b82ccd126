theorem dL_up_0 : decode cL_up 0 = .ok (.iload_n 0, 1) := by decide +kernel
theorem dL_up_1 : decode cL_up 1 = .ok (.ldc 8, 2) := by decide +kernel
theorem dL_up_3 : decode cL_up 3 = .ok (.iand, 1) := by decide +kernel
theorem dL_up_4 : decode cL_up 4 = .ok (.iload_n 1, 1) := by decide +kernel
theorem dL_up_5 : decode cL_up 5 = .ok (.irem, 1) := by decide +kernel
theorem dL_up_6 : decode cL_up 6 = .ok (.ireturn, 1) := by decide +kernel
theorem dL_both_0 : decode cL_both 0 = .ok (.aload_n 0, 1) := by decide +kernel
theorem dL_both_1 : decode cL_both 1 = .ok (.bipush 97, 2) := by decide +kernel
theorem dL_both_3 : decode cL_both 3 = .ok (.iload_n 2, 1) := by decide +kernel
theorem dL_both_4 : decode cL_both 4 = .ok (.iadd, 1) := by decide +kernel
theorem dL_both_5 : decode cL_both 5 = .ok (.i2l, 1) := by decide +kernel
theorem dL_both_6 : decode cL_both 6 = .ok (.invokestatic 71, 3) := by decide +kernel
theorem dL_both_9 : decode cL_both 9 = .ok (.aload_n 1, 1) := by decide +kernel
theorem dL_both_10 : decode cL_both 10 = .ok (.bipush 122, 2) := by decide +kernel
theorem dL_both_12 : decode cL_both 12 = .ok (.iload_n 2, 1) := by decide +kernel
theorem dL_both_13 : decode cL_both 13 = .ok (.isub, 1) := by decide +kernel
theorem dL_both_14 : decode cL_both 14 = .ok (.i2l, 1) := by decide +kernel
theorem dL_both_15 : decode cL_both 15 = .ok (.invokestatic 71, 3) := by decide +kernel
theorem dL_both_18 : decode cL_both 18 = .ok (.if_icmp .ne 7, 3) := by decide +kernel
theorem dL_both_21 : decode cL_both 21 = .ok (.iconst 1, 1) := by decide +kernel
theorem dL_both_22 : decode cL_both 22 = .ok (.goto 4, 3) := by decide +kernel
theorem dL_both_25 : decode cL_both 25 = .ok (.iconst 0, 1) := by decide +kernel
theorem dL_both_26 : decode cL_both 26 = .ok (.ireturn, 1) := by decide +kernel
set_option maxRecDepth 20000 in
theorem ggL_both_L_append : GoodIn wsL_both wsL_append := goodIn_ca (goodIn_ca (goodIn_r _ [4, 5, 6, 7, 8, 9, 10, 11, 12, 13, 14, 15, 16, 17, 18, 19, 20, 21, 22, 23, 24, 25, 26, 27, 28, 29, 30, 31, 32, 33, 34, 35, 36, 37, 38, 39, 40, 41, 42, 43, 44, 45, 46, 47, 48] (by decide +kernel) (by decide +kernel)) (goodIn_sub (fun _ h => List.mem_cons_of_mem _ (List.mem_append_left _ (List.mem_append_right _ h))) (by decide +kernel))) (goodIn_sub (fun _ h => List.mem_cons_of_mem _ (List.mem_append_right _ h)) (by decide +kernel))
set_option maxRecDepth 20000 in
theorem gL_both_L_append : GoodIn wsL_both (va_wsS RL 71 yL_append wsL_append) := goodIn_app (goodIn_of _ (by decide +kernel)) ggL_both_L_append
/-! bits of the law: up, both -/
theorem and_nn (x : Int32) : 0 ≤ (x &&& iI 2147483647).toInt := by
  have h1 : (x &&& iI 2147483647).toBitVec.toNat ≤ 2147483647 := by
    show (x.toBitVec &&& (iI 2147483647).toBitVec).toNat ≤ _
    rw [BitVec.toNat_and]
    exact Nat.le_trans Nat.and_le_right (by decide +kernel)
  show 0 ≤ (x &&& iI 2147483647).toBitVec.toInt
  rw [BitVec.toInt_eq_toNat_cond]
  split <;> omega
theorem up_rem (v : Int32) {n : Int} (hn : 1 ≤ n ∧ n < 2147483648) : ∃ t : Int, 0 ≤ t ∧ t < n ∧ (v &&& iI 2147483647) - (v &&& iI 2147483647) / iI n * iI n = iI t := by
  have a0 := and_nn v
  have a1 := iI_hi (v &&& iI 2147483647)
  generalize v &&& iI 2147483647 = x at a0 a1
  obtain ⟨a, ha⟩ : ∃ a, a = x.toInt := ⟨_, rfl⟩
  have e : x = iI a := by rw [ha, iI_of]
  have d0 := Int.ediv_nonneg (a := a) (b := n) (by omega) (by omega)
  have d1 := Int.ediv_le_self (a := a) n (by omega)
  have ed : iI a / iI n = iI (a / n) := by
    apply Int32.toInt_inj.mp
    rw [Int32.toInt_div, iI_t (by omega) (by omega), iI_t (by omega) (by omega), iI_t (by omega) (by omega), Int.tdiv_eq_ediv_of_nonneg (by omega)]
    exact Int.bmod_eq_of_le_mul_two (by omega) (by omega)
  refine ⟨a % n, Int.emod_nonneg _ (by omega), Int.emod_lt_of_pos _ (by omega), ?_⟩
  rw [e, ed, iI_mul, iI_sub, Int.emod_def, Int.mul_comm]
set_option maxRecDepth 100000 in
theorem c_L_up (l : Launch) (D : va_G) (cy : Nat → ClassId) (v : Int32) (n : Int) (hn : 1 ≤ n ∧ n < 2147483648) : Ci l D cy yL_up wsL_up 0 0 [.int v, .int (iI n)] [] (fun (r : Int32) (u : Int) => 0 ≤ u ∧ u < n ∧ r = iI u) (fun _ => []) := by
  refine Ci_of (cc := cL_up) (maxL := 2) (ret := (some .int)) (by decide) rfl rfl ?_
  intro p e s m args below meth c A hx hb hr hts hown hlocks hml hP hK hD hT hA ls hl
  have hS : va_S A s.heap s.heap [] := va_S.rf
  have hl : lv_has ls 2 [(0, .int v), (1, .int (iI n))] := hl
  refine lv_iload_n hx hb dL_up_0 rfl (lv_at hl 0 rfl) ?_
  refine lv_ldc (own := RL) (index := 8) (v := 2147483647) hx hb hown (hts (.constant RL 8 (2147483647)) (by decide +kernel)) dL_up_1 ?_
  refine z_top (show (2147483647 : Int32) = iI 2147483647 from by decide +kernel) ?_
  refine lv_iand hx hb dL_up_3 ?_
  refine lv_iload_n hx hb dL_up_4 rfl (lv_at hl 1 rfl) ?_
  refine lv_irem hx hb dL_up_5 (fun q => by
    have h := congrArg Int32.toInt q
    rw [iI_t (by omega) (by omega), show (0 : Int32).toInt = 0 from rfl] at h
    omega) ?_
  obtain ⟨t, t0, t1, te⟩ := up_rem v hn
  refine z_top te ?_
  exact z_iret hx hb hr hlocks hS t (show 0 ≤ t ∧ t < n ∧ iI t = iI t from ⟨t0, t1, rfl⟩) hP dL_up_6

set_option maxHeartbeats 4000000 in
set_option maxRecDepth 100000 in
theorem c_L_both (l : Launch) (hfl : l.stackTraces = false) (D : va_G) (cy : Nat → ClassId) (ad ae : Nat → Nat) (M : MS) (h : List MS) (sl : Nat → Option MS) (tx : List Int32) (N : MS) (g : List MS) (sm : Nat → Option MS) (ty : List Int32) (a : Int) (ha : 0 ≤ a ∧ a ≤ 25) (hn : tx.length < 80 ∧ ty.length = tx.length) : YNi l D cy ad ae yL_both wsL_both 8 139 2 [.int (iI a)] (M, h, sl, tx) (N, g, sm, ty) (fun r S' T' => r = iI 1 ∧ S' = (M, h, sl, tx ++ [iI (97 + a)]) ∧ T' = (N, g, sm, ty ++ [iI (122 - a)])) := by
  intro u v J1 J2
  refine Nc_of (cc := cL_both) (maxL := 3) (ret := (some .boolean)) (by decide) rfl rfl ?_
  intro p e s m args below meth c A hx hb hr hts hown hlocks hml hP hK hD hT hC hZ hA ls hl
  have hS : va_S A s.heap s.heap [] := va_S.rf
  have hl : lv_has ls 3 [(0, .ref (ad 0)), (1, .ref (ae 0)), (2, .int (iI a))] := hl
  have hI : PR D cy A ad ae (M, h, sl, tx) (N, g, sm, ty) s.heap := ⟨u, v, J1, J2, hP, hD⟩
  refine lv_aload_n hx hb dL_both_0 rfl (lv_at hl 0 rfl) ?_
  refine lv_bipush (v := iI 97) hx hb dL_both_1 (by decide +kernel) ?_
  refine lv_iload_n hx hb dL_both_3 rfl (lv_at hl 2 rfl) ?_
  refine z_add hx hb dL_both_4 ?_
  refine z_i2l hx hb (iI_l (by omega) (by omega)) dL_both_5 ?_
  refine pS1 (n := 2) (As := [.long (lI (97 + a))]) (rest := []) ⟨hx, hb, hml, hown, hts⟩ (x_append l hfl D cy ad M h sl tx (97 + a) (by omega) (by omega)) gL_both_L_append rfl (by decide +kernel) ⟨Nat.le_of_ble_eq_true rfl, Nat.le_of_ble_eq_true rfl⟩ hK hT hC hZ hA rfl hl.1 rfl (Nat.le_of_ble_eq_true rfl) dL_both_6 ⟨show 0 + 1 ≤ 2 by omega, show 0 + 6 * 1 ≤ 12 by omega⟩ hI hS (fun H locs hI hS => ?_)
  have hI : PR D cy A ad ae (M, h, sl, tx ++ [iI (97 + a)]) (N, g, sm, ty) H := hI
  refine lv_aload_n hx hb dL_both_9 rfl (lv_at hl 1 rfl) ?_
  refine lv_bipush (v := iI 122) hx hb dL_both_10 (by decide +kernel) ?_
  refine lv_iload_n hx hb dL_both_12 rfl (lv_at hl 2 rfl) ?_
  refine z_sub hx hb dL_both_13 ?_
  refine z_i2l hx hb (iI_l (by omega) (by omega)) dL_both_14 ?_
  refine pS2 (n := 2) (As := [.long (lI (122 - a))]) (rest := [.int (iI ((tx.length : Int) + 1))]) ⟨hx, hb, hml, hown, hts⟩ (x_append l hfl D cy ae N g sm ty (122 - a) (by omega) (by omega)) gL_both_L_append rfl (by decide +kernel) ⟨Nat.le_of_ble_eq_true rfl, Nat.le_of_ble_eq_true rfl⟩ hK hT hC hZ hA rfl hl.1 rfl (Nat.le_of_ble_eq_true rfl) dL_both_15 ⟨show (0 + 1) + 1 ≤ 2 by omega, show (0 + 6 * 1) + 6 * 1 ≤ 12 by omega⟩ hI hS (fun H locs hI hS => ?_)
  have hI : PR D cy A ad ae (M, h, sl, tx ++ [iI (97 + a)]) (N, g, sm, ty ++ [iI (122 - a)]) H := hI
  refine lv_icmp_ne (tgt := 25) hx hb dL_both_18 (by decide) (fun c3 => absurd c3 (fun h9 => h9 (by rw [hn.2]))) (fun c3 => ?_)
  refine lv_iconst (v := iI 1) hx hb dL_both_21 rfl ?_
  refine lv_goto (tgt := 26) hx hb dL_both_22 (by decide) ?_
  obtain ⟨u1, v1, j1, j2, hP, hD⟩ := hI
  refine W.widen (k := 2) (n := 6 * 2) (by decide) (by decide) ?_
  exact z_zret hx hb hr hlocks (by decide +kernel) hS (u1, v1) ⟨_, _, ⟨rfl, rfl, rfl⟩, j1, j2⟩ hP dL_both_26
