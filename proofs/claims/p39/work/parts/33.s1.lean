set_option maxHeartbeats 8000000 in
set_option maxRecDepth 100000 in
theorem st_433 {p : Program} {l : Launch} {e : Env} {s : State} {m : MethodId} {args : Array Value} {below : List Frame} {meth : Method} {c : Code} {A : Nat → Prop} {Q : State → Prop} {D : va_G} {cy : Nat → ClassId} {ad ae : Nat → Nat} (C : KC p l s m args c A D cy) (kend : KE p l e s m args below meth c A Q D cy ad ae) {M : MS} {h : List MS} {sl : Nat → Option MS} (I : IS M h sl) {x y w4 : Int32} {kd : Int} (hkd : 1 ≤ kd ∧ kd ≤ 26) {H : Heap} {locs : List Loc} {ls : Array Slot} (hI : PR D cy A ad ae (M, h, sl, ([] : List Int32)) (mirM M, h.map mirM, mirS sl, ([] : List Int32)) H) (hS : va_S A s.heap H locs) (hl : lv_has ls 11 [(0, .ref (ad 0)), (1, .ref (ae 0)), (2, .int x), (3, .int y), (4, .int w4), (5, .int (iI kd)), (6, .int (iI (M.1.length : Int)))]) : W p l e ({ frames := 10, cells := 200, slots := 6 * 200, locals := 300 } : Room) s m args below meth c H locs 0 0 Q (F0 m 433 ls []) := by
  obtain ⟨hx, hb, hml, hown, hts, hK, hT, hC, hZ, hA, hfl⟩ := id C
  have hMI := I.1
  have hM := hMI.1
  have hn := hM.nums
  have hmL : (mirM M).1.length = M.1.length := mirL_len _
  have hmW : (mirM M).2.1.length = M.2.1.length := mirL_len _
  have hM2 := MOk_mir hM
  refine lv_iload_n hx hb dL_isStep_433 rfl (lv_at hl 3 rfl) ?_
  refine lv_iconst (v := iI 2) hx hb dL_isStep_434 rfl ?_
  refine pU (n := 2) (rest := []) ⟨hx, hb, hml, hown, hts⟩ (c_L_up l D cy y (2 : Int) (by omega)) gL_isStep_L_up rfl (by decide +kernel) ⟨Nat.le_of_ble_eq_true rfl, Nat.le_of_ble_eq_true rfl⟩ hK hT hA rfl hl.1 rfl (Nat.le_of_ble_eq_true rfl) dL_isStep_435 ⟨show 0 ≤ 200 by omega, show 0 ≤ 1200 by omega⟩ hI hS (fun r_1 t_1 H locs hw_1 hI hS => ?_)
  obtain ⟨a_1, b_1, er_1⟩ := hw_1
  have b_1 : t_1 < (2 : Int) := b_1
  subst er_1
  have hI : PR D cy A ad ae (M, h, sl, ([] : List Int32)) (mirM M, h.map mirM, mirS sl, ([] : List Int32)) H := hI
  refine z_if_ne (tgt := 445) hx hb (iI_t (by omega) (by omega)) dL_isStep_438 (by decide) (fun c2 => ?_) (fun c2 => ?_)
  · --
    refine lv_iconst (v := iI 0) hx hb dL_isStep_445 rfl ?_
    refine lv_istore (lv' := [(7, .int (iI 0)), (0, .ref (ad 0)), (1, .ref (ae 0)), (2, .int x), (3, .int y), (4, .int w4), (5, .int (iI kd)), (6, .int (iI (M.1.length : Int)))]) hx hb dL_isStep_446 hl (by decide) rfl (fun ls hl => ?_)
    refine lv_iload_n hx hb dL_isStep_448 rfl (lv_at hl 4 rfl) ?_
    refine lv_iconst (v := iI 1) hx hb dL_isStep_449 rfl ?_
    refine lv_ishr hx hb dL_isStep_450 ?_
    refine lv_topi (fun w_3 _ => ?_)
    refine lv_iconst (v := iI 2) hx hb dL_isStep_451 rfl ?_
    refine pU (n := 2) (rest := []) ⟨hx, hb, hml, hown, hts⟩ (c_L_up l D cy w_3 (2 : Int) (by omega)) gL_isStep_L_up rfl (by decide +kernel) ⟨Nat.le_of_ble_eq_true rfl, Nat.le_of_ble_eq_true rfl⟩ hK hT hA rfl hl.1 rfl (Nat.le_of_ble_eq_true rfl) dL_isStep_452 ⟨show 0 ≤ 200 by omega, show 0 ≤ 1200 by omega⟩ hI hS (fun r_4 t_4 H locs hw_4 hI hS => ?_)
    obtain ⟨a_4, b_4, er_4⟩ := hw_4
    have b_4 : t_4 < (2 : Int) := b_4
    subst er_4
    have hI : PR D cy A ad ae (M, h, sl, ([] : List Int32)) (mirM M, h.map mirM, mirS sl, ([] : List Int32)) H := hI
    refine z_if_ne (tgt := 462) hx hb (iI_t (by omega) (by omega)) dL_isStep_455 (by decide) (fun c5 => ?_) (fun c5 => ?_)
    · --
      refine lv_iconst (v := iI 0) hx hb dL_isStep_462 rfl ?_
      refine lv_istore (lv' := [(8, .int (iI 0)), (7, .int (iI 0)), (0, .ref (ad 0)), (1, .ref (ae 0)), (2, .int x), (3, .int y), (4, .int w4), (5, .int (iI kd)), (6, .int (iI (M.1.length : Int)))]) hx hb dL_isStep_463 hl (by decide) rfl (fun ls hl => ?_)
      refine lv_aload_n hx hb dL_isStep_465 rfl (lv_at hl 2 rfl) ?_
      refine lv_iload hx hb dL_isStep_466 (lv_at hl 1 rfl) ?_
      refine lv_iload hx hb dL_isStep_468 (lv_at hl 0 rfl) ?_
      refine pV1 (n := 2) (As := [.int (iI 0), .int (iI 0)]) (rest := []) ⟨hx, hb, hml, hown, hts⟩ (x_setRules l D cy ad M h sl ([] : List Int32) (0 : Int) (0 : Int) (by omega)) gL_isStep_X4_setRules rfl (by decide +kernel) ⟨Nat.le_of_ble_eq_true rfl, Nat.le_of_ble_eq_true rfl⟩ hK hT hA rfl hl.1 rfl (Nat.le_of_ble_eq_true rfl) dL_isStep_470 ⟨show 0 ≤ 200 by omega, show 0 ≤ 1200 by omega⟩ hI hS (fun H locs hI hS => ?_)
      have hI : PR D cy A ad ae (mRules M (0 : Int) (0 : Int), pushH h M, sl, ([] : List Int32)) (mirM M, h.map mirM, mirS sl, ([] : List Int32)) H := hI
      refine lv_aload_n hx hb dL_isStep_473 rfl (lv_at hl 3 rfl) ?_
      refine lv_iload hx hb dL_isStep_474 (lv_at hl 1 rfl) ?_
      refine lv_iload hx hb dL_isStep_476 (lv_at hl 0 rfl) ?_
      refine pV2 (n := 2) (As := [.int (iI 0), .int (iI 0)]) (rest := [.int (iI (M.2.2.2.1 + M.2.2.2.2.1))]) ⟨hx, hb, hml, hown, hts⟩ (x_setRules l D cy ae (mirM M) (h.map mirM) (mirS sl) ([] : List Int32) (0 : Int) (0 : Int) (by omega)) gL_isStep_X4_setRules rfl (by decide +kernel) ⟨Nat.le_of_ble_eq_true rfl, Nat.le_of_ble_eq_true rfl⟩ hK hT hA rfl hl.1 rfl (Nat.le_of_ble_eq_true rfl) dL_isStep_478 ⟨show 0 ≤ 200 by omega, show 0 ≤ 1200 by omega⟩ hI hS (fun H locs hI hS => ?_)
      have hI : PR D cy A ad ae (mRules M (0 : Int) (0 : Int), pushH h M, sl, ([] : List Int32)) (mRules (mirM M) (0 : Int) (0 : Int), pushH (h.map mirM) (mirM M), mirS sl, ([] : List Int32)) H := hI
      refine z_top (show (iI ((mirM M).2.2.2.1 + (mirM M).2.2.2.2.1)) = (iI (M.2.2.2.1 + M.2.2.2.2.1)) from rfl) ?_
      refine lv_icmp_ne (tgt := 488) hx hb dL_isStep_481 (by decide) (fun c8 => absurd c8 (fun h9 => h9 rfl)) (fun c8 => ?_)
      refine lv_iconst (v := iI 1) hx hb dL_isStep_484 rfl ?_
      refine lv_goto (tgt := 489) hx hb dL_isStep_485 (by decide) ?_
      have hI : PR D cy A ad ae (mRules M (0 : Int) (0 : Int), pushH h M, sl, ([] : List Int32)) (mirM (mRules M (0 : Int) (0 : Int)), (pushH h M).map mirM, mirS sl, ([] : List Int32)) H := by rw [push_mir]; exact hI
      exact kend 489 _ _ _ _ _ (mRules M (0 : Int) (0 : Int)) (pushH h M) sl dL_isStep_489 hI (I.push (hMI.rules (by omega))) hS (by omega) (by omega)
    · --
      refine lv_iconst (v := iI 1) hx hb dL_isStep_458 rfl ?_
      refine lv_goto (tgt := 463) hx hb dL_isStep_459 (by decide) ?_
      refine lv_istore (lv' := [(8, .int (iI 1)), (7, .int (iI 0)), (0, .ref (ad 0)), (1, .ref (ae 0)), (2, .int x), (3, .int y), (4, .int w4), (5, .int (iI kd)), (6, .int (iI (M.1.length : Int)))]) hx hb dL_isStep_463 hl (by decide) rfl (fun ls hl => ?_)
      refine lv_aload_n hx hb dL_isStep_465 rfl (lv_at hl 2 rfl) ?_
      refine lv_iload hx hb dL_isStep_466 (lv_at hl 1 rfl) ?_
      refine lv_iload hx hb dL_isStep_468 (lv_at hl 0 rfl) ?_
      refine pV1 (n := 2) (As := [.int (iI 0), .int (iI 1)]) (rest := []) ⟨hx, hb, hml, hown, hts⟩ (x_setRules l D cy ad M h sl ([] : List Int32) (0 : Int) (1 : Int) (by omega)) gL_isStep_X4_setRules rfl (by decide +kernel) ⟨Nat.le_of_ble_eq_true rfl, Nat.le_of_ble_eq_true rfl⟩ hK hT hA rfl hl.1 rfl (Nat.le_of_ble_eq_true rfl) dL_isStep_470 ⟨show 0 ≤ 200 by omega, show 0 ≤ 1200 by omega⟩ hI hS (fun H locs hI hS => ?_)
      have hI : PR D cy A ad ae (mRules M (0 : Int) (1 : Int), pushH h M, sl, ([] : List Int32)) (mirM M, h.map mirM, mirS sl, ([] : List Int32)) H := hI
      refine lv_aload_n hx hb dL_isStep_473 rfl (lv_at hl 3 rfl) ?_
      refine lv_iload hx hb dL_isStep_474 (lv_at hl 1 rfl) ?_
      refine lv_iload hx hb dL_isStep_476 (lv_at hl 0 rfl) ?_
      refine pV2 (n := 2) (As := [.int (iI 0), .int (iI 1)]) (rest := [.int (iI (M.2.2.2.1 + M.2.2.2.2.1))]) ⟨hx, hb, hml, hown, hts⟩ (x_setRules l D cy ae (mirM M) (h.map mirM) (mirS sl) ([] : List Int32) (0 : Int) (1 : Int) (by omega)) gL_isStep_X4_setRules rfl (by decide +kernel) ⟨Nat.le_of_ble_eq_true rfl, Nat.le_of_ble_eq_true rfl⟩ hK hT hA rfl hl.1 rfl (Nat.le_of_ble_eq_true rfl) dL_isStep_478 ⟨show 0 ≤ 200 by omega, show 0 ≤ 1200 by omega⟩ hI hS (fun H locs hI hS => ?_)
      have hI : PR D cy A ad ae (mRules M (0 : Int) (1 : Int), pushH h M, sl, ([] : List Int32)) (mRules (mirM M) (0 : Int) (1 : Int), pushH (h.map mirM) (mirM M), mirS sl, ([] : List Int32)) H := hI
      refine z_top (show (iI ((mirM M).2.2.2.1 + (mirM M).2.2.2.2.1)) = (iI (M.2.2.2.1 + M.2.2.2.2.1)) from rfl) ?_
      refine lv_icmp_ne (tgt := 488) hx hb dL_isStep_481 (by decide) (fun c11 => absurd c11 (fun h9 => h9 rfl)) (fun c11 => ?_)
      refine lv_iconst (v := iI 1) hx hb dL_isStep_484 rfl ?_
      refine lv_goto (tgt := 489) hx hb dL_isStep_485 (by decide) ?_
      have hI : PR D cy A ad ae (mRules M (0 : Int) (1 : Int), pushH h M, sl, ([] : List Int32)) (mirM (mRules M (0 : Int) (1 : Int)), (pushH h M).map mirM, mirS sl, ([] : List Int32)) H := by rw [push_mir]; exact hI
      exact kend 489 _ _ _ _ _ (mRules M (0 : Int) (1 : Int)) (pushH h M) sl dL_isStep_489 hI (I.push (hMI.rules (by omega))) hS (by omega) (by omega)
  · --
    refine lv_iconst (v := iI 1) hx hb dL_isStep_441 rfl ?_
    refine lv_goto (tgt := 446) hx hb dL_isStep_442 (by decide) ?_
    refine lv_istore (lv' := [(7, .int (iI 1)), (0, .ref (ad 0)), (1, .ref (ae 0)), (2, .int x), (3, .int y), (4, .int w4), (5, .int (iI kd)), (6, .int (iI (M.1.length : Int)))]) hx hb dL_isStep_446 hl (by decide) rfl (fun ls hl => ?_)
    refine lv_iload_n hx hb dL_isStep_448 rfl (lv_at hl 4 rfl) ?_
    refine lv_iconst (v := iI 1) hx hb dL_isStep_449 rfl ?_
    refine lv_ishr hx hb dL_isStep_450 ?_
    refine lv_topi (fun w_12 _ => ?_)
    refine lv_iconst (v := iI 2) hx hb dL_isStep_451 rfl ?_
    refine pU (n := 2) (rest := []) ⟨hx, hb, hml, hown, hts⟩ (c_L_up l D cy w_12 (2 : Int) (by omega)) gL_isStep_L_up rfl (by decide +kernel) ⟨Nat.le_of_ble_eq_true rfl, Nat.le_of_ble_eq_true rfl⟩ hK hT hA rfl hl.1 rfl (Nat.le_of_ble_eq_true rfl) dL_isStep_452 ⟨show 0 ≤ 200 by omega, show 0 ≤ 1200 by omega⟩ hI hS (fun r_13 t_13 H locs hw_13 hI hS => ?_)
    obtain ⟨a_13, b_13, er_13⟩ := hw_13
    have b_13 : t_13 < (2 : Int) := b_13
    subst er_13
    have hI : PR D cy A ad ae (M, h, sl, ([] : List Int32)) (mirM M, h.map mirM, mirS sl, ([] : List Int32)) H := hI
    refine z_if_ne (tgt := 462) hx hb (iI_t (by omega) (by omega)) dL_isStep_455 (by decide) (fun c14 => ?_) (fun c14 => ?_)
    · --
      refine lv_iconst (v := iI 0) hx hb dL_isStep_462 rfl ?_
      refine lv_istore (lv' := [(8, .int (iI 0)), (7, .int (iI 1)), (0, .ref (ad 0)), (1, .ref (ae 0)), (2, .int x), (3, .int y), (4, .int w4), (5, .int (iI kd)), (6, .int (iI (M.1.length : Int)))]) hx hb dL_isStep_463 hl (by decide) rfl (fun ls hl => ?_)
      refine lv_aload_n hx hb dL_isStep_465 rfl (lv_at hl 2 rfl) ?_
      refine lv_iload hx hb dL_isStep_466 (lv_at hl 1 rfl) ?_
      refine lv_iload hx hb dL_isStep_468 (lv_at hl 0 rfl) ?_
      refine pV1 (n := 2) (As := [.int (iI 1), .int (iI 0)]) (rest := []) ⟨hx, hb, hml, hown, hts⟩ (x_setRules l D cy ad M h sl ([] : List Int32) (1 : Int) (0 : Int) (by omega)) gL_isStep_X4_setRules rfl (by decide +kernel) ⟨Nat.le_of_ble_eq_true rfl, Nat.le_of_ble_eq_true rfl⟩ hK hT hA rfl hl.1 rfl (Nat.le_of_ble_eq_true rfl) dL_isStep_470 ⟨show 0 ≤ 200 by omega, show 0 ≤ 1200 by omega⟩ hI hS (fun H locs hI hS => ?_)
      have hI : PR D cy A ad ae (mRules M (1 : Int) (0 : Int), pushH h M, sl, ([] : List Int32)) (mirM M, h.map mirM, mirS sl, ([] : List Int32)) H := hI
      refine lv_aload_n hx hb dL_isStep_473 rfl (lv_at hl 3 rfl) ?_
      refine lv_iload hx hb dL_isStep_474 (lv_at hl 1 rfl) ?_
      refine lv_iload hx hb dL_isStep_476 (lv_at hl 0 rfl) ?_
      refine pV2 (n := 2) (As := [.int (iI 1), .int (iI 0)]) (rest := [.int (iI (M.2.2.2.1 + M.2.2.2.2.1))]) ⟨hx, hb, hml, hown, hts⟩ (x_setRules l D cy ae (mirM M) (h.map mirM) (mirS sl) ([] : List Int32) (1 : Int) (0 : Int) (by omega)) gL_isStep_X4_setRules rfl (by decide +kernel) ⟨Nat.le_of_ble_eq_true rfl, Nat.le_of_ble_eq_true rfl⟩ hK hT hA rfl hl.1 rfl (Nat.le_of_ble_eq_true rfl) dL_isStep_478 ⟨show 0 ≤ 200 by omega, show 0 ≤ 1200 by omega⟩ hI hS (fun H locs hI hS => ?_)
      have hI : PR D cy A ad ae (mRules M (1 : Int) (0 : Int), pushH h M, sl, ([] : List Int32)) (mRules (mirM M) (1 : Int) (0 : Int), pushH (h.map mirM) (mirM M), mirS sl, ([] : List Int32)) H := hI
      refine z_top (show (iI ((mirM M).2.2.2.1 + (mirM M).2.2.2.2.1)) = (iI (M.2.2.2.1 + M.2.2.2.2.1)) from rfl) ?_
      refine lv_icmp_ne (tgt := 488) hx hb dL_isStep_481 (by decide) (fun c17 => absurd c17 (fun h9 => h9 rfl)) (fun c17 => ?_)
      refine lv_iconst (v := iI 1) hx hb dL_isStep_484 rfl ?_
      refine lv_goto (tgt := 489) hx hb dL_isStep_485 (by decide) ?_
      have hI : PR D cy A ad ae (mRules M (1 : Int) (0 : Int), pushH h M, sl, ([] : List Int32)) (mirM (mRules M (1 : Int) (0 : Int)), (pushH h M).map mirM, mirS sl, ([] : List Int32)) H := by rw [push_mir]; exact hI
      exact kend 489 _ _ _ _ _ (mRules M (1 : Int) (0 : Int)) (pushH h M) sl dL_isStep_489 hI (I.push (hMI.rules (by omega))) hS (by omega) (by omega)
    · --
      refine lv_iconst (v := iI 1) hx hb dL_isStep_458 rfl ?_
      refine lv_goto (tgt := 463) hx hb dL_isStep_459 (by decide) ?_
      refine lv_istore (lv' := [(8, .int (iI 1)), (7, .int (iI 1)), (0, .ref (ad 0)), (1, .ref (ae 0)), (2, .int x), (3, .int y), (4, .int w4), (5, .int (iI kd)), (6, .int (iI (M.1.length : Int)))]) hx hb dL_isStep_463 hl (by decide) rfl (fun ls hl => ?_)
      refine lv_aload_n hx hb dL_isStep_465 rfl (lv_at hl 2 rfl) ?_
      refine lv_iload hx hb dL_isStep_466 (lv_at hl 1 rfl) ?_
      refine lv_iload hx hb dL_isStep_468 (lv_at hl 0 rfl) ?_
      refine pV1 (n := 2) (As := [.int (iI 1), .int (iI 1)]) (rest := []) ⟨hx, hb, hml, hown, hts⟩ (x_setRules l D cy ad M h sl ([] : List Int32) (1 : Int) (1 : Int) (by omega)) gL_isStep_X4_setRules rfl (by decide +kernel) ⟨Nat.le_of_ble_eq_true rfl, Nat.le_of_ble_eq_true rfl⟩ hK hT hA rfl hl.1 rfl (Nat.le_of_ble_eq_true rfl) dL_isStep_470 ⟨show 0 ≤ 200 by omega, show 0 ≤ 1200 by omega⟩ hI hS (fun H locs hI hS => ?_)
      have hI : PR D cy A ad ae (mRules M (1 : Int) (1 : Int), pushH h M, sl, ([] : List Int32)) (mirM M, h.map mirM, mirS sl, ([] : List Int32)) H := hI
      refine lv_aload_n hx hb dL_isStep_473 rfl (lv_at hl 3 rfl) ?_
      refine lv_iload hx hb dL_isStep_474 (lv_at hl 1 rfl) ?_
      refine lv_iload hx hb dL_isStep_476 (lv_at hl 0 rfl) ?_
      refine pV2 (n := 2) (As := [.int (iI 1), .int (iI 1)]) (rest := [.int (iI (M.2.2.2.1 + M.2.2.2.2.1))]) ⟨hx, hb, hml, hown, hts⟩ (x_setRules l D cy ae (mirM M) (h.map mirM) (mirS sl) ([] : List Int32) (1 : Int) (1 : Int) (by omega)) gL_isStep_X4_setRules rfl (by decide +kernel) ⟨Nat.le_of_ble_eq_true rfl, Nat.le_of_ble_eq_true rfl⟩ hK hT hA rfl hl.1 rfl (Nat.le_of_ble_eq_true rfl) dL_isStep_478 ⟨show 0 ≤ 200 by omega, show 0 ≤ 1200 by omega⟩ hI hS (fun H locs hI hS => ?_)
      have hI : PR D cy A ad ae (mRules M (1 : Int) (1 : Int), pushH h M, sl, ([] : List Int32)) (mRules (mirM M) (1 : Int) (1 : Int), pushH (h.map mirM) (mirM M), mirS sl, ([] : List Int32)) H := hI
      refine z_top (show (iI ((mirM M).2.2.2.1 + (mirM M).2.2.2.2.1)) = (iI (M.2.2.2.1 + M.2.2.2.2.1)) from rfl) ?_
      refine lv_icmp_ne (tgt := 488) hx hb dL_isStep_481 (by decide) (fun c20 => absurd c20 (fun h9 => h9 rfl)) (fun c20 => ?_)
      refine lv_iconst (v := iI 1) hx hb dL_isStep_484 rfl ?_
      refine lv_goto (tgt := 489) hx hb dL_isStep_485 (by decide) ?_
      have hI : PR D cy A ad ae (mRules M (1 : Int) (1 : Int), pushH h M, sl, ([] : List Int32)) (mirM (mRules M (1 : Int) (1 : Int)), (pushH h M).map mirM, mirS sl, ([] : List Int32)) H := by rw [push_mir]; exact hI
      exact kend 489 _ _ _ _ _ (mRules M (1 : Int) (1 : Int)) (pushH h M) sl dL_isStep_489 hI (I.push (hMI.rules (by omega))) hS (by omega) (by omega)
set_option maxHeartbeats 8000000 in
set_option maxRecDepth 100000 in
theorem st_490 {p : Program} {l : Launch} {e : Env} {s : State} {m : MethodId} {args : Array Value} {below : List Frame} {meth : Method} {c : Code} {A : Nat → Prop} {Q : State → Prop} {D : va_G} {cy : Nat → ClassId} {ad ae : Nat → Nat} (C : KC p l s m args c A D cy) (kend : KE p l e s m args below meth c A Q D cy ad ae) {M : MS} {h : List MS} {sl : Nat → Option MS} (I : IS M h sl) {x y w4 : Int32} {kd : Int} (hkd : 1 ≤ kd ∧ kd ≤ 26) {H : Heap} {locs : List Loc} {ls : Array Slot} (hI : PR D cy A ad ae (M, h, sl, ([] : List Int32)) (mirM M, h.map mirM, mirS sl, ([] : List Int32)) H) (hS : va_S A s.heap H locs) (hl : lv_has ls 11 [(0, .ref (ad 0)), (1, .ref (ae 0)), (2, .int x), (3, .int y), (4, .int w4), (5, .int (iI kd)), (6, .int (iI (M.1.length : Int)))]) : W p l e ({ frames := 10, cells := 200, slots := 6 * 200, locals := 300 } : Room) s m args below meth c H locs 0 0 Q (F0 m 490 ls []) := by
  obtain ⟨hx, hb, hml, hown, hts, hK, hT, hC, hZ, hA, hfl⟩ := id C
  have hMI := I.1
  have hM := hMI.1
  have hn := hM.nums
  have hmL : (mirM M).1.length = M.1.length := mirL_len _
  have hmW : (mirM M).2.1.length = M.2.1.length := mirL_len _
  have hM2 := MOk_mir hM
  have hov := mRun_over hM
  refine lv_aload_n hx hb dL_isStep_490 rfl (lv_at hl 0 rfl) ?_
  refine pV1 (n := 0) (As := []) (rest := []) ⟨hx, hb, hml, hown, hts⟩ (x_finish l D cy ad M h sl ([] : List Int32)  ) gL_isStep_X4_finish rfl (by decide +kernel) ⟨Nat.le_of_ble_eq_true rfl, Nat.le_of_ble_eq_true rfl⟩ hK hT hA rfl hl.1 rfl (Nat.le_of_ble_eq_true rfl) dL_isStep_491 ⟨show 0 ≤ 200 by omega, show 0 ≤ 1200 by omega⟩ hI hS (fun H locs hI hS => ?_)
  have hI : PR D cy A ad ae (mOf M (mRun M).1, pushH h M, sl, ([] : List Int32)) (mirM M, h.map mirM, mirS sl, ([] : List Int32)) H := hI
  refine lv_aload_n hx hb dL_isStep_494 rfl (lv_at hl 1 rfl) ?_
  refine pV2 (n := 0) (As := []) (rest := [.int (iI (mRun M).2)]) ⟨hx, hb, hml, hown, hts⟩ (x_finish l D cy ae (mirM M) (h.map mirM) (mirS sl) ([] : List Int32)  ) gL_isStep_X4_finish rfl (by decide +kernel) ⟨Nat.le_of_ble_eq_true rfl, Nat.le_of_ble_eq_true rfl⟩ hK hT hA rfl hl.1 rfl (Nat.le_of_ble_eq_true rfl) dL_isStep_495 ⟨show 0 ≤ 200 by omega, show 0 ≤ 1200 by omega⟩ hI hS (fun H locs hI hS => ?_)
  have hI : PR D cy A ad ae (mOf M (mRun M).1, pushH h M, sl, ([] : List Int32)) (mOf (mirM M) (mRun (mirM M)).1, pushH (h.map mirM) (mirM M), mirS sl, ([] : List Int32)) H := hI
  have hI : PR D cy A ad ae (mOf M (mRun M).1, pushH h M, sl, ([] : List Int32)) (mOf (mirM M) (mRun M).1, pushH (h.map mirM) (mirM M), mirS sl, ([] : List Int32)) H := by rw [mRun_mir hM] at hI; exact hI
  refine z_top (show (iI (mRun (mirM M)).2) = (iI (mRun M).2) from by rw [mRun_mir hM]) ?_
  refine lv_icmp_ne (tgt := 530) hx hb dL_isStep_498 (by decide) (fun c3 => absurd c3 (fun h9 => h9 rfl)) (fun c3 => ?_)
  refine lv_aload_n hx hb dL_isStep_501 rfl (lv_at hl 0 rfl) ?_
  refine pV1 (n := 0) (As := []) (rest := []) ⟨hx, hb, hml, hown, hts⟩ (x_isOver1 l D cy ad (mOf M (mRun M).1) (pushH h M) sl ([] : List Int32)  (hov)) gL_isStep_X4_isOver rfl (by decide +kernel) ⟨Nat.le_of_ble_eq_true rfl, Nat.le_of_ble_eq_true rfl⟩ hK hT hA rfl hl.1 rfl (Nat.le_of_ble_eq_true rfl) dL_isStep_502 ⟨show 0 ≤ 200 by omega, show 0 ≤ 1200 by omega⟩ hI hS (fun H locs hI hS => ?_)
  have hI : PR D cy A ad ae (mOf M (mRun M).1, pushH h M, sl, ([] : List Int32)) (mOf (mirM M) (mRun M).1, pushH (h.map mirM) (mirM M), mirS sl, ([] : List Int32)) H := hI
  refine z_if_eq (tgt := 530) hx hb (iI_t (by omega) (by omega)) dL_isStep_505 (by decide) (fun c5 => absurd c5 (by omega)) (fun _ => ?_)
  refine lv_aload_n hx hb dL_isStep_508 rfl (lv_at hl 0 rfl) ?_
  refine pV1 (n := 0) (As := []) (rest := []) ⟨hx, hb, hml, hown, hts⟩ (x_wordLength l D cy ad (mOf M (mRun M).1) (pushH h M) sl ([] : List Int32)  ) gL_isStep_X4_wordLength rfl (by decide +kernel) ⟨Nat.le_of_ble_eq_true rfl, Nat.le_of_ble_eq_true rfl⟩ hK hT hA rfl hl.1 rfl (Nat.le_of_ble_eq_true rfl) dL_isStep_509 ⟨show 0 ≤ 200 by omega, show 0 ≤ 1200 by omega⟩ hI hS (fun H locs hI hS => ?_)
  have hI : PR D cy A ad ae (mOf M (mRun M).1, pushH h M, sl, ([] : List Int32)) (mOf (mirM M) (mRun M).1, pushH (h.map mirM) (mirM M), mirS sl, ([] : List Int32)) H := hI
  refine z_top (show (iI ((mOf M (mRun M).1).2.1.length : Int)) = iI (M.2.1.length : Int) from rfl) ?_
  refine z_if_eq (tgt := 526) hx hb (iI_t (by omega) (by omega)) dL_isStep_512 (by decide) (fun c7 => ?_) (fun c7 => ?_)
  · --
    refine lv_iconst (v := iI 1) hx hb dL_isStep_526 rfl ?_
    refine lv_goto (tgt := 531) hx hb dL_isStep_527 (by decide) ?_
    have hI : PR D cy A ad ae (mOf M (mRun M).1, pushH h M, sl, ([] : List Int32)) (mirM (mOf M (mRun M).1), (pushH h M).map mirM, mirS sl, ([] : List Int32)) H := by rw [push_mir]; exact hI
    exact kend 531 _ _ _ _ _ (mOf M (mRun M).1) (pushH h M) sl dL_isStep_531 hI (I.push hMI.run) hS (by omega) (by omega)
  · --
    refine lv_aload_n hx hb dL_isStep_515 rfl (lv_at hl 0 rfl) ?_
    refine pV1 (n := 0) (As := []) (rest := []) ⟨hx, hb, hml, hown, hts⟩ (x_foundCount l D cy ad (mOf M (mRun M).1) (pushH h M) sl ([] : List Int32)  ) gL_isStep_X4_foundCount rfl (by decide +kernel) ⟨Nat.le_of_ble_eq_true rfl, Nat.le_of_ble_eq_true rfl⟩ hK hT hA rfl hl.1 rfl (Nat.le_of_ble_eq_true rfl) dL_isStep_516 ⟨show 0 ≤ 200 by omega, show 0 ≤ 1200 by omega⟩ hI hS (fun H locs hI hS => ?_)
    have hI : PR D cy A ad ae (mOf M (mRun M).1, pushH h M, sl, ([] : List Int32)) (mOf (mirM M) (mRun M).1, pushH (h.map mirM) (mirM M), mirS sl, ([] : List Int32)) H := hI
    refine lv_aload_n hx hb dL_isStep_519 rfl (lv_at hl 0 rfl) ?_
    refine pV1 (n := 0) (As := []) (rest := [.int (iI ((mOf M (mRun M).1).2.2.1.length : Int))]) ⟨hx, hb, hml, hown, hts⟩ (x_occurrences l D cy ad (mOf M (mRun M).1) (pushH h M) sl ([] : List Int32)  ) gL_isStep_X4_occurrences rfl (by decide +kernel) ⟨Nat.le_of_ble_eq_true rfl, Nat.le_of_ble_eq_true rfl⟩ hK hT hA rfl hl.1 rfl (Nat.le_of_ble_eq_true rfl) dL_isStep_520 ⟨show 0 ≤ 200 by omega, show 0 ≤ 1200 by omega⟩ hI hS (fun H locs hI hS => ?_)
    have hI : PR D cy A ad ae (mOf M (mRun M).1, pushH h M, sl, ([] : List Int32)) (mOf (mirM M) (mRun M).1, pushH (h.map mirM) (mirM M), mirS sl, ([] : List Int32)) H := hI
    refine lv_icmp_ne (tgt := 530) hx hb dL_isStep_523 (by decide) (fun c10 => absurd c10 (fun h9 => h9 (congrArg iI (hMI.run.occ_eq hov (by assumption))))) (fun c10 => ?_)
    refine lv_iconst (v := iI 1) hx hb dL_isStep_526 rfl ?_
    refine lv_goto (tgt := 531) hx hb dL_isStep_527 (by decide) ?_
    have hI : PR D cy A ad ae (mOf M (mRun M).1, pushH h M, sl, ([] : List Int32)) (mirM (mOf M (mRun M).1), (pushH h M).map mirM, mirS sl, ([] : List Int32)) H := by rw [push_mir]; exact hI
    exact kend 531 _ _ _ _ _ (mOf M (mRun M).1) (pushH h M) sl dL_isStep_531 hI (I.push hMI.run) hS (by omega) (by omega)
set_option maxHeartbeats 8000000 in
set_option maxRecDepth 100000 in
theorem st_532 {p : Program} {l : Launch} {e : Env} {s : State} {m : MethodId} {args : Array Value} {below : List Frame} {meth : Method} {c : Code} {A : Nat → Prop} {Q : State → Prop} {D : va_G} {cy : Nat → ClassId} {ad ae : Nat → Nat} (C : KC p l s m args c A D cy) (kend : KE p l e s m args below meth c A Q D cy ad ae) {M : MS} {h : List MS} {sl : Nat → Option MS} (I : IS M h sl) {x y w4 : Int32} {kd : Int} (hkd : 1 ≤ kd ∧ kd ≤ 26) {H : Heap} {locs : List Loc} {ls : Array Slot} (hI : PR D cy A ad ae (M, h, sl, ([] : List Int32)) (mirM M, h.map mirM, mirS sl, ([] : List Int32)) H) (hS : va_S A s.heap H locs) (hl : lv_has ls 11 [(0, .ref (ad 0)), (1, .ref (ae 0)), (2, .int x), (3, .int y), (4, .int w4), (5, .int (iI kd)), (6, .int (iI (M.1.length : Int)))]) : W p l e ({ frames := 10, cells := 200, slots := 6 * 200, locals := 300 } : Room) s m args below meth c H locs 0 0 Q (F0 m 532 ls []) := by
  obtain ⟨hx, hb, hml, hown, hts, hK, hT, hC, hZ, hA, hfl⟩ := id C
  have hMI := I.1
  have hM := hMI.1
  have hn := hM.nums
  have hmL : (mirM M).1.length = M.1.length := mirL_len _
  have hmW : (mirM M).2.1.length = M.2.1.length := mirL_len _
  have hM2 := MOk_mir hM
  refine lv_aload_n hx hb dL_isStep_532 rfl (lv_at hl 0 rfl) ?_
  refine pV1 (n := 0) (As := []) (rest := []) ⟨hx, hb, hml, hown, hts⟩ (x_rewind l D cy ad M h sl ([] : List Int32)  ) gL_isStep_X4_rewind rfl (by decide +kernel) ⟨Nat.le_of_ble_eq_true rfl, Nat.le_of_ble_eq_true rfl⟩ hK hT hA rfl hl.1 rfl (Nat.le_of_ble_eq_true rfl) dL_isStep_533 ⟨show 0 ≤ 200 by omega, show 0 ≤ 1200 by omega⟩ hI hS (fun H locs hI hS => ?_)
  have hI : PR D cy A ad ae (bgn M, pushH h M, sl, ([] : List Int32)) (mirM M, h.map mirM, mirS sl, ([] : List Int32)) H := hI
  refine lv_aload_n hx hb dL_isStep_536 rfl (lv_at hl 1 rfl) ?_
  refine pV2 (n := 0) (As := []) (rest := [.int (iI M.2.2.2.2.2.2.1)]) ⟨hx, hb, hml, hown, hts⟩ (x_rewind l D cy ae (mirM M) (h.map mirM) (mirS sl) ([] : List Int32)  ) gL_isStep_X4_rewind rfl (by decide +kernel) ⟨Nat.le_of_ble_eq_true rfl, Nat.le_of_ble_eq_true rfl⟩ hK hT hA rfl hl.1 rfl (Nat.le_of_ble_eq_true rfl) dL_isStep_537 ⟨show 0 ≤ 200 by omega, show 0 ≤ 1200 by omega⟩ hI hS (fun H locs hI hS => ?_)
  have hI : PR D cy A ad ae (bgn M, pushH h M, sl, ([] : List Int32)) (bgn (mirM M), pushH (h.map mirM) (mirM M), mirS sl, ([] : List Int32)) H := hI
  refine z_top (show (iI (mirM M).2.2.2.2.2.2.1) = (iI M.2.2.2.2.2.2.1) from rfl) ?_
  refine lv_icmp_ne (tgt := 547) hx hb dL_isStep_540 (by decide) (fun c3 => absurd c3 (fun h9 => h9 rfl)) (fun c3 => ?_)
  refine lv_iconst (v := iI 1) hx hb dL_isStep_543 rfl ?_
  refine lv_goto (tgt := 548) hx hb dL_isStep_544 (by decide) ?_
  have hI : PR D cy A ad ae (bgn M, pushH h M, sl, ([] : List Int32)) (mirM (bgn M), (pushH h M).map mirM, mirS sl, ([] : List Int32)) H := by rw [push_mir]; exact hI
  exact kend 548 _ _ _ _ _ (bgn M) (pushH h M) sl dL_isStep_548 hI (I.push hMI.bgn) hS (by omega) (by omega)
