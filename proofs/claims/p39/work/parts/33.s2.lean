set_option maxHeartbeats 8000000 in
set_option maxRecDepth 100000 in
theorem st_549 {p : Program} {l : Launch} {e : Env} {s : State} {m : MethodId} {args : Array Value} {below : List Frame} {meth : Method} {c : Code} {A : Nat → Prop} {Q : State → Prop} {D : va_G} {cy : Nat → ClassId} {ad ae : Nat → Nat} (C : KC p l s m args c A D cy) (kend : KE p l e s m args below meth c A Q D cy ad ae) {M : MS} {h : List MS} {sl : Nat → Option MS} (I : IS M h sl) {x y w4 : Int32} {kd : Int} (hkd : 1 ≤ kd ∧ kd ≤ 26) {H : Heap} {locs : List Loc} {ls : Array Slot} (hI : PR D cy A ad ae (M, h, sl, ([] : List Int32)) (mirM M, h.map mirM, mirS sl, ([] : List Int32)) H) (hS : va_S A s.heap H locs) (hl : lv_has ls 11 [(0, .ref (ad 0)), (1, .ref (ae 0)), (2, .int x), (3, .int y), (4, .int w4), (5, .int (iI kd)), (6, .int (iI (M.1.length : Int)))]) : W p l e ({ frames := 10, cells := 200, slots := 6 * 200, locals := 300 } : Room) s m args below meth c H locs 0 0 Q (F0 m 549 ls []) := by
  obtain ⟨hx, hb, hml, hown, hts, hK, hT, hC, hZ, hA, hfl⟩ := id C
  have hMI := I.1
  have hM := hMI.1
  have hn := hM.nums
  have hmL : (mirM M).1.length = M.1.length := mirL_len _
  have hmW : (mirM M).2.1.length = M.2.1.length := mirL_len _
  have hM2 := MOk_mir hM
  refine lv_iload_n hx hb dL_isStep_549 rfl (lv_at hl 3 rfl) ?_
  refine lv_iload hx hb dL_isStep_550 (lv_at hl 6 rfl) ?_
  refine lv_iconst (v := iI 1) hx hb dL_isStep_552 rfl ?_
  refine z_add hx hb dL_isStep_553 ?_
  refine pU (n := 2) (rest := []) ⟨hx, hb, hml, hown, hts⟩ (c_L_up l D cy y ((M.1.length : Int) + 1) (by omega)) gL_isStep_L_up rfl (by decide +kernel) ⟨Nat.le_of_ble_eq_true rfl, Nat.le_of_ble_eq_true rfl⟩ hK hT hA rfl hl.1 rfl (Nat.le_of_ble_eq_true rfl) dL_isStep_554 ⟨show 0 ≤ 200 by omega, show 0 ≤ 1200 by omega⟩ hI hS (fun r_1 t_1 H locs hw_1 hI hS => ?_)
  obtain ⟨a_1, b_1, er_1⟩ := hw_1
  have b_1 : t_1 < ((M.1.length : Int) + 1) := b_1
  subst er_1
  have hI : PR D cy A ad ae (M, h, sl, ([] : List Int32)) (mirM M, h.map mirM, mirS sl, ([] : List Int32)) H := hI
  refine lv_istore (lv' := [(7, .int (iI t_1)), (0, .ref (ad 0)), (1, .ref (ae 0)), (2, .int x), (3, .int y), (4, .int w4), (5, .int (iI kd)), (6, .int (iI (M.1.length : Int)))]) hx hb dL_isStep_557 hl (by decide) rfl (fun ls hl => ?_)
  refine lv_iload hx hb dL_isStep_559 (lv_at hl 5 rfl) ?_
  refine lv_iconst (v := iI 4) hx hb dL_isStep_561 rfl ?_
  refine pU (n := 2) (rest := []) ⟨hx, hb, hml, hown, hts⟩ (c_L_up l D cy w4 (4 : Int) (by omega)) gL_isStep_L_up rfl (by decide +kernel) ⟨Nat.le_of_ble_eq_true rfl, Nat.le_of_ble_eq_true rfl⟩ hK hT hA rfl hl.1 rfl (Nat.le_of_ble_eq_true rfl) dL_isStep_562 ⟨show 0 ≤ 200 by omega, show 0 ≤ 1200 by omega⟩ hI hS (fun r_2 t_2 H locs hw_2 hI hS => ?_)
  obtain ⟨a_2, b_2, er_2⟩ := hw_2
  have b_2 : t_2 < (4 : Int) := b_2
  subst er_2
  have hI : PR D cy A ad ae (M, h, sl, ([] : List Int32)) (mirM M, h.map mirM, mirS sl, ([] : List Int32)) H := hI
  refine lv_istore (lv' := [(8, .int (iI t_2)), (7, .int (iI t_1)), (0, .ref (ad 0)), (1, .ref (ae 0)), (2, .int x), (3, .int y), (4, .int w4), (5, .int (iI kd)), (6, .int (iI (M.1.length : Int)))]) hx hb dL_isStep_565 hl (by decide) rfl (fun ls hl => ?_)
  refine lv_aload_n hx hb dL_isStep_567 rfl (lv_at hl 2 rfl) ?_
  refine lv_iload hx hb dL_isStep_568 (lv_at hl 1 rfl) ?_
  refine lv_iload hx hb dL_isStep_570 (lv_at hl 0 rfl) ?_
  by_cases hin : t_1 < (M.1.length : Int)
  · --
    have hgr : 0 ≤ (gl M.1 (t_1).toNat).toInt ∧ (gl M.1 (t_1).toNat).toInt ≤ 25 := hMI.2.1 (t_1).toNat (by omega)
    refine pS1 (n := 3) (As := [.int (iI t_1), .int (iI t_2)]) (rest := []) ⟨hx, hb, hml, hown, hts⟩ (x_setLetter0 l hfl D cy ad M h sl ([] : List Int32) t_1 t_2 (by omega) (by omega) (by omega)) gL_isStep_L_setLetter rfl (by decide +kernel) ⟨Nat.le_of_ble_eq_true rfl, Nat.le_of_ble_eq_true rfl⟩ hK hT hC hZ hA rfl hl.1 rfl (Nat.le_of_ble_eq_true rfl) dL_isStep_572 ⟨show 0 + 2 ≤ 200 by omega, show 0 + 6 * 2 ≤ 1200 by omega⟩ hI hS (fun H locs hI hS => ?_)
    have hI : PR D cy A ad ae (mSet M t_1.toNat (iI t_2), pushH h M, sl, ([] : List Int32)) (mirM M, h.map mirM, mirS sl, ([] : List Int32)) H := hI
    refine z_top (show (gl M.1 t_1.toNat) = iI ((gl M.1 (t_1).toNat).toInt) from (iI_of _).symm) ?_
    refine lv_istore (lv' := [(9, .int (iI ((gl M.1 (t_1).toNat).toInt))), (8, .int (iI t_2)), (7, .int (iI t_1)), (0, .ref (ad 0)), (1, .ref (ae 0)), (2, .int x), (3, .int y), (4, .int w4), (5, .int (iI kd)), (6, .int (iI (M.1.length : Int)))]) hx hb dL_isStep_575 hl (by decide) rfl (fun ls hl => ?_)
    refine lv_iload hx hb dL_isStep_577 (lv_at hl 0 rfl) ?_
    refine lv_ldc (own := RL) (index := 17) (v := 90001) hx hb hown (hts (.constant RL 17 (90001)) (by decide +kernel)) dL_isStep_579 ?_
    refine z_top (show (90001 : Int32) = iI 90001 from by decide +kernel) ?_
    refine z_icmp_ne (tgt := 615) hx hb (iI_t (by omega) (by omega)) (iI_t (by omega) (by omega)) dL_isStep_581 (by decide) (fun c4 => ?_) (fun c4 => absurd c4 (by omega))
    refine lv_aload_n hx hb dL_isStep_615 rfl (lv_at hl 4 rfl) ?_
    refine lv_iload hx hb dL_isStep_616 (lv_at hl 2 rfl) ?_
    refine lv_bipush (v := iI 25) hx hb dL_isStep_618 (by decide +kernel) ?_
    refine lv_iload hx hb dL_isStep_620 (lv_at hl 1 rfl) ?_
    refine z_sub hx hb dL_isStep_622 ?_
    refine pS2 (n := 3) (As := [.int (iI t_1), .int (iI (25 - t_2))]) (rest := []) ⟨hx, hb, hml, hown, hts⟩ (x_setLetter0 l hfl D cy ae (mirM M) (h.map mirM) (mirS sl) ([] : List Int32) t_1 (25 - t_2) (by omega) (by omega) (by omega)) gL_isStep_L_setLetter rfl (by decide +kernel) ⟨Nat.le_of_ble_eq_true rfl, Nat.le_of_ble_eq_true rfl⟩ hK hT hC hZ hA rfl hl.1 rfl (Nat.le_of_ble_eq_true rfl) dL_isStep_623 ⟨show (0 + 2) + 2 ≤ 200 by omega, show (0 + 6 * 2) + 6 * 2 ≤ 1200 by omega⟩ hI hS (fun H locs hI hS => ?_)
    have hI : PR D cy A ad ae (mSet M t_1.toNat (iI t_2), pushH h M, sl, ([] : List Int32)) (mSet (mirM M) t_1.toNat (iI (25 - t_2)), pushH (h.map mirM) (mirM M), mirS sl, ([] : List Int32)) H := hI
    refine z_top (show (gl (mirM M).1 t_1.toNat) = iI (25 - ((gl M.1 (t_1).toNat).toInt)) from by rw [show gl (mirM M).1 (t_1).toNat = mirX (gl M.1 (t_1).toNat) from gl_mir (by omega), mirX_z]) ?_
    refine lv_bipush (v := iI 25) hx hb dL_isStep_626 (by decide +kernel) ?_
    refine lv_iload hx hb dL_isStep_628 (lv_at hl 0 rfl) ?_
    refine z_sub hx hb dL_isStep_630 ?_
    refine z_icmp_ne (tgt := 649) hx hb (iI_t (by omega) (by omega)) (iI_t (by omega) (by omega)) dL_isStep_631 (by decide) (fun c6 => absurd c6 (by omega)) (fun c6 => ?_)
    refine lv_aload_n hx hb dL_isStep_634 rfl (lv_at hl 3 rfl) ?_
    refine lv_iload hx hb dL_isStep_635 (lv_at hl 2 rfl) ?_
    refine pS1 (n := 2) (As := [.int (iI t_1)]) (rest := []) ⟨hx, hb, hml, hown, hts⟩ (x_lineLetter l hfl D cy ad (mSet M t_1.toNat (iI t_2)) (pushH h M) sl ([] : List Int32) t_1 (by omega) (by rw [show (mSet M (t_1).toNat (iI t_2)).1.length = M.1.length from List.length_set]; omega)) gL_isStep_L_lineLetter rfl (by decide +kernel) ⟨Nat.le_of_ble_eq_true rfl, Nat.le_of_ble_eq_true rfl⟩ hK hT hC hZ hA rfl hl.1 rfl (Nat.le_of_ble_eq_true rfl) dL_isStep_637 ⟨show ((0 + 2) + 2) + 1 ≤ 200 by omega, show ((0 + 6 * 2) + 6 * 2) + 6 * 1 ≤ 1200 by omega⟩ hI hS (fun H locs hI hS => ?_)
    have hI : PR D cy A ad ae (mSet M t_1.toNat (iI t_2), pushH h M, sl, ([] : List Int32)) (mSet (mirM M) t_1.toNat (iI (25 - t_2)), pushH (h.map mirM) (mirM M), mirS sl, ([] : List Int32)) H := hI
    refine z_top (show (gl (mSet M t_1.toNat (iI t_2)).1 t_1.toNat) = iI t_2 from gl_set (by omega)) ?_
    refine lv_iload hx hb dL_isStep_640 (lv_at hl 1 rfl) ?_
    refine z_icmp_ne (tgt := 649) hx hb (iI_t (by omega) (by omega)) (iI_t (by omega) (by omega)) dL_isStep_642 (by decide) (fun c8 => absurd c8 (by omega)) (fun c8 => ?_)
    refine lv_iconst (v := iI 1) hx hb dL_isStep_645 rfl ?_
    refine lv_goto (tgt := 650) hx hb dL_isStep_646 (by decide) ?_
    have hI : PR D cy A ad ae (mSet M t_1.toNat (iI t_2), pushH h M, sl, ([] : List Int32)) (mirM (mSet M t_1.toNat (iI t_2)), (pushH h M).map mirM, mirS sl, ([] : List Int32)) H := by rw [← mSet_mir, mirX_z, iI_t (by omega) (by omega), push_mir]; exact hI
    exact kend 650 _ _ _ _ _ (mSet M t_1.toNat (iI t_2)) (pushH h M) sl dL_isStep_650 hI (I.push (hMI.set (by omega))) hS (by omega) (by omega)
  · --
    refine pS1 (n := 3) (As := [.int (iI t_1), .int (iI t_2)]) (rest := []) ⟨hx, hb, hml, hown, hts⟩ (x_setLetter1 l hfl D cy ad M h sl ([] : List Int32) t_1 t_2 (by omega) (by omega) (by omega)) gL_isStep_L_setLetter rfl (by decide +kernel) ⟨Nat.le_of_ble_eq_true rfl, Nat.le_of_ble_eq_true rfl⟩ hK hT hC hZ hA rfl hl.1 rfl (Nat.le_of_ble_eq_true rfl) dL_isStep_572 ⟨show 0 + 2 ≤ 200 by omega, show 0 + 6 * 2 ≤ 1200 by omega⟩ hI hS (fun H locs hI hS => ?_)
    have hI : PR D cy A ad ae (M, h, sl, ([] : List Int32)) (mirM M, h.map mirM, mirS sl, ([] : List Int32)) H := hI
    refine z_top (show iI 90001 = iI 90001 from rfl) ?_
    refine lv_istore (lv' := [(9, .int (iI 90001)), (8, .int (iI t_2)), (7, .int (iI t_1)), (0, .ref (ad 0)), (1, .ref (ae 0)), (2, .int x), (3, .int y), (4, .int w4), (5, .int (iI kd)), (6, .int (iI (M.1.length : Int)))]) hx hb dL_isStep_575 hl (by decide) rfl (fun ls hl => ?_)
    refine lv_iload hx hb dL_isStep_577 (lv_at hl 0 rfl) ?_
    refine lv_ldc (own := RL) (index := 17) (v := 90001) hx hb hown (hts (.constant RL 17 (90001)) (by decide +kernel)) dL_isStep_579 ?_
    refine z_top (show (90001 : Int32) = iI 90001 from by decide +kernel) ?_
    refine z_icmp_ne (tgt := 615) hx hb (iI_t (by omega) (by omega)) (iI_t (by omega) (by omega)) dL_isStep_581 (by decide) (fun c10 => absurd c10 (by omega)) (fun _ => ?_)
    refine lv_iload hx hb dL_isStep_584 (lv_at hl 2 rfl) ?_
    refine lv_iload hx hb dL_isStep_586 (lv_at hl 9 rfl) ?_
    refine z_icmp_ne (tgt := 611) hx hb (iI_t (by omega) (by omega)) (iI_t (by omega) (by omega)) dL_isStep_588 (by decide) (fun c11 => absurd c11 (by omega)) (fun c11 => ?_)
    refine lv_aload_n hx hb dL_isStep_591 rfl (lv_at hl 4 rfl) ?_
    refine lv_iload hx hb dL_isStep_592 (lv_at hl 2 rfl) ?_
    refine lv_bipush (v := iI 25) hx hb dL_isStep_594 (by decide +kernel) ?_
    refine lv_iload hx hb dL_isStep_596 (lv_at hl 1 rfl) ?_
    refine z_sub hx hb dL_isStep_598 ?_
    refine pS2 (n := 3) (As := [.int (iI t_1), .int (iI (25 - t_2))]) (rest := []) ⟨hx, hb, hml, hown, hts⟩ (x_setLetter1 l hfl D cy ae (mirM M) (h.map mirM) (mirS sl) ([] : List Int32) t_1 (25 - t_2) (by omega) (by omega) (by omega)) gL_isStep_L_setLetter rfl (by decide +kernel) ⟨Nat.le_of_ble_eq_true rfl, Nat.le_of_ble_eq_true rfl⟩ hK hT hC hZ hA rfl hl.1 rfl (Nat.le_of_ble_eq_true rfl) dL_isStep_599 ⟨show (0 + 2) + 2 ≤ 200 by omega, show (0 + 6 * 2) + 6 * 2 ≤ 1200 by omega⟩ hI hS (fun H locs hI hS => ?_)
    have hI : PR D cy A ad ae (M, h, sl, ([] : List Int32)) (mirM M, h.map mirM, mirS sl, ([] : List Int32)) H := hI
    refine lv_ldc (own := RL) (index := 17) (v := 90001) hx hb hown (hts (.constant RL 17 (90001)) (by decide +kernel)) dL_isStep_602 ?_
    refine z_top (show (90001 : Int32) = iI 90001 from by decide +kernel) ?_
    refine z_icmp_ne (tgt := 611) hx hb (iI_t (by omega) (by omega)) (iI_t (by omega) (by omega)) dL_isStep_604 (by decide) (fun c13 => absurd c13 (by omega)) (fun _ => ?_)
    refine lv_iconst (v := iI 1) hx hb dL_isStep_607 rfl ?_
    refine lv_goto (tgt := 650) hx hb dL_isStep_608 (by decide) ?_
    exact kend 650 _ _ _ _ _ M h sl dL_isStep_650 hI I hS (by omega) (by omega)
set_option maxHeartbeats 8000000 in
set_option maxRecDepth 100000 in
theorem st_651 {p : Program} {l : Launch} {e : Env} {s : State} {m : MethodId} {args : Array Value} {below : List Frame} {meth : Method} {c : Code} {A : Nat → Prop} {Q : State → Prop} {D : va_G} {cy : Nat → ClassId} {ad ae : Nat → Nat} (C : KC p l s m args c A D cy) (kend : KE p l e s m args below meth c A Q D cy ad ae) {M : MS} {h : List MS} {sl : Nat → Option MS} (I : IS M h sl) {x y w4 : Int32} {kd : Int} (hkd : 1 ≤ kd ∧ kd ≤ 26) {H : Heap} {locs : List Loc} {ls : Array Slot} (hI : PR D cy A ad ae (M, h, sl, ([] : List Int32)) (mirM M, h.map mirM, mirS sl, ([] : List Int32)) H) (hS : va_S A s.heap H locs) (hl : lv_has ls 11 [(0, .ref (ad 0)), (1, .ref (ae 0)), (2, .int x), (3, .int y), (4, .int w4), (5, .int (iI kd)), (6, .int (iI (M.1.length : Int)))]) : W p l e ({ frames := 10, cells := 200, slots := 6 * 200, locals := 300 } : Room) s m args below meth c H locs 0 0 Q (F0 m 651 ls []) := by
  obtain ⟨hx, hb, hml, hown, hts, hK, hT, hC, hZ, hA, hfl⟩ := id C
  have hMI := I.1
  have hM := hMI.1
  have hn := hM.nums
  have hmL : (mirM M).1.length = M.1.length := mirL_len _
  have hmW : (mirM M).2.1.length = M.2.1.length := mirL_len _
  have hM2 := MOk_mir hM
  refine lv_iload_n hx hb dL_isStep_651 rfl (lv_at hl 3 rfl) ?_
  refine lv_iconst (v := iI 2) hx hb dL_isStep_652 rfl ?_
  refine pU (n := 2) (rest := []) ⟨hx, hb, hml, hown, hts⟩ (c_L_up l D cy y (2 : Int) (by omega)) gL_isStep_L_up rfl (by decide +kernel) ⟨Nat.le_of_ble_eq_true rfl, Nat.le_of_ble_eq_true rfl⟩ hK hT hA rfl hl.1 rfl (Nat.le_of_ble_eq_true rfl) dL_isStep_653 ⟨show 0 ≤ 200 by omega, show 0 ≤ 1200 by omega⟩ hI hS (fun r_1 t_1 H locs hw_1 hI hS => ?_)
  obtain ⟨a_1, b_1, er_1⟩ := hw_1
  have b_1 : t_1 < (2 : Int) := b_1
  subst er_1
  have hI : PR D cy A ad ae (M, h, sl, ([] : List Int32)) (mirM M, h.map mirM, mirS sl, ([] : List Int32)) H := hI
  refine z_if_ne (tgt := 680) hx hb (iI_t (by omega) (by omega)) dL_isStep_656 (by decide) (fun c2 => ?_) (fun c2 => ?_)
  · --
    rcases hs0 : sl 0 with _ | M2
    · --
      refine lv_aload_n hx hb dL_isStep_680 rfl (lv_at hl 0 rfl) ?_
      refine lv_iconst (v := iI 0) hx hb dL_isStep_681 rfl ?_
      refine pS1 (n := 2) (As := [.int (iI 0)]) (rest := []) ⟨hx, hb, hml, hown, hts⟩ (x_load1 l hfl D cy ad M h sl ([] : List Int32)  (hs0)) gL_isStep_L_load rfl (by decide +kernel) ⟨Nat.le_of_ble_eq_true rfl, Nat.le_of_ble_eq_true rfl⟩ hK hT hC hZ hA rfl hl.1 rfl (Nat.le_of_ble_eq_true rfl) dL_isStep_682 ⟨show 0 + 2 ≤ 200 by omega, show 0 + 6 * 2 ≤ 1200 by omega⟩ hI hS (fun H locs hI hS => ?_)
      have hI : PR D cy A ad ae (M, h, sl, ([] : List Int32)) (mirM M, h.map mirM, mirS sl, ([] : List Int32)) H := hI
      refine lv_aload_n hx hb dL_isStep_685 rfl (lv_at hl 1 rfl) ?_
      refine lv_iconst (v := iI 0) hx hb dL_isStep_686 rfl ?_
      refine pS2 (n := 2) (As := [.int (iI 0)]) (rest := [.int (iI 90002)]) ⟨hx, hb, hml, hown, hts⟩ (x_load1 l hfl D cy ae (mirM M) (h.map mirM) (mirS sl) ([] : List Int32)  (show (sl 0).map mirM = none by rw [hs0]; rfl)) gL_isStep_L_load rfl (by decide +kernel) ⟨Nat.le_of_ble_eq_true rfl, Nat.le_of_ble_eq_true rfl⟩ hK hT hC hZ hA rfl hl.1 rfl (Nat.le_of_ble_eq_true rfl) dL_isStep_687 ⟨show (0 + 2) + 2 ≤ 200 by omega, show (0 + 6 * 2) + 6 * 2 ≤ 1200 by omega⟩ hI hS (fun H locs hI hS => ?_)
      have hI : PR D cy A ad ae (M, h, sl, ([] : List Int32)) (mirM M, h.map mirM, mirS sl, ([] : List Int32)) H := hI
      refine z_top (show iI 90002 = iI 90002 from rfl) ?_
      refine z_icmp_ne (tgt := 697) hx hb (iI_t (by omega) (by omega)) (iI_t (by omega) (by omega)) dL_isStep_690 (by decide) (fun c5 => absurd c5 (by omega)) (fun _ => ?_)
      refine lv_iconst (v := iI 1) hx hb dL_isStep_693 rfl ?_
      refine lv_goto (tgt := 698) hx hb dL_isStep_694 (by decide) ?_
      exact kend 698 _ _ _ _ _ M h sl dL_isStep_698 hI I hS (by omega) (by omega)
    · --
      refine lv_aload_n hx hb dL_isStep_680 rfl (lv_at hl 0 rfl) ?_
      refine lv_iconst (v := iI 0) hx hb dL_isStep_681 rfl ?_
      refine pS1 (n := 2) (As := [.int (iI 0)]) (rest := []) ⟨hx, hb, hml, hown, hts⟩ (x_load0 l hfl D cy ad M h sl ([] : List Int32) M2 (hs0)) gL_isStep_L_load rfl (by decide +kernel) ⟨Nat.le_of_ble_eq_true rfl, Nat.le_of_ble_eq_true rfl⟩ hK hT hC hZ hA rfl hl.1 rfl (Nat.le_of_ble_eq_true rfl) dL_isStep_682 ⟨show 0 + 2 ≤ 200 by omega, show 0 + 6 * 2 ≤ 1200 by omega⟩ hI hS (fun H locs hI hS => ?_)
      have hI : PR D cy A ad ae (M2, pushH h M, sl, ([] : List Int32)) (mirM M, h.map mirM, mirS sl, ([] : List Int32)) H := hI
      refine lv_aload_n hx hb dL_isStep_685 rfl (lv_at hl 1 rfl) ?_
      refine lv_iconst (v := iI 0) hx hb dL_isStep_686 rfl ?_
      refine pS2 (n := 2) (As := [.int (iI 0)]) (rest := [.int (iI (M2.1.length : Int))]) ⟨hx, hb, hml, hown, hts⟩ (x_load0 l hfl D cy ae (mirM M) (h.map mirM) (mirS sl) ([] : List Int32) (mirM M2) (show (sl 0).map mirM = some (mirM M2) by rw [hs0]; rfl)) gL_isStep_L_load rfl (by decide +kernel) ⟨Nat.le_of_ble_eq_true rfl, Nat.le_of_ble_eq_true rfl⟩ hK hT hC hZ hA rfl hl.1 rfl (Nat.le_of_ble_eq_true rfl) dL_isStep_687 ⟨show (0 + 2) + 2 ≤ 200 by omega, show (0 + 6 * 2) + 6 * 2 ≤ 1200 by omega⟩ hI hS (fun H locs hI hS => ?_)
      have hI : PR D cy A ad ae (M2, pushH h M, sl, ([] : List Int32)) ((mirM M2), pushH (h.map mirM) (mirM M), mirS sl, ([] : List Int32)) H := hI
      refine z_top (show (iI ((mirM M2).1.length : Int)) = (iI (M2.1.length : Int)) from by rw [show (mirM M2).1.length = M2.1.length from mirL_len _]) ?_
      refine lv_icmp_ne (tgt := 697) hx hb dL_isStep_690 (by decide) (fun c8 => absurd c8 (fun h9 => h9 rfl)) (fun c8 => ?_)
      refine lv_iconst (v := iI 1) hx hb dL_isStep_693 rfl ?_
      refine lv_goto (tgt := 698) hx hb dL_isStep_694 (by decide) ?_
      have hI : PR D cy A ad ae (M2, pushH h M, sl, ([] : List Int32)) (mirM M2, (pushH h M).map mirM, mirS sl, ([] : List Int32)) H := by rw [push_mir]; exact hI
      exact kend 698 _ _ _ _ _ M2 (pushH h M) sl dL_isStep_698 hI (I.push (I.2.2 0 M2 hs0)) hS (by omega) (by omega)
  · --
    refine lv_aload_n hx hb dL_isStep_659 rfl (lv_at hl 0 rfl) ?_
    refine lv_iconst (v := iI 0) hx hb dL_isStep_660 rfl ?_
    refine pS1 (n := 2) (As := [.int (iI 0)]) (rest := []) ⟨hx, hb, hml, hown, hts⟩ (x_save l hfl D cy ad M h sl ([] : List Int32)  ) gL_isStep_L_save rfl (by decide +kernel) ⟨Nat.le_of_ble_eq_true rfl, Nat.le_of_ble_eq_true rfl⟩ hK hT hC hZ hA rfl hl.1 rfl (Nat.le_of_ble_eq_true rfl) dL_isStep_661 ⟨show 0 + 1 ≤ 200 by omega, show 0 + 6 * 1 ≤ 1200 by omega⟩ hI hS (fun H locs hI hS => ?_)
    have hI : PR D cy A ad ae (M, h, fun j => if j = 0 then some M else sl j, ([] : List Int32)) (mirM M, h.map mirM, mirS sl, ([] : List Int32)) H := hI
    refine lv_aload_n hx hb dL_isStep_664 rfl (lv_at hl 1 rfl) ?_
    refine lv_iconst (v := iI 0) hx hb dL_isStep_665 rfl ?_
    refine pS2 (n := 2) (As := [.int (iI 0)]) (rest := [.int (iI (M.1.length : Int))]) ⟨hx, hb, hml, hown, hts⟩ (x_save l hfl D cy ae (mirM M) (h.map mirM) (mirS sl) ([] : List Int32)  ) gL_isStep_L_save rfl (by decide +kernel) ⟨Nat.le_of_ble_eq_true rfl, Nat.le_of_ble_eq_true rfl⟩ hK hT hC hZ hA rfl hl.1 rfl (Nat.le_of_ble_eq_true rfl) dL_isStep_666 ⟨show (0 + 1) + 1 ≤ 200 by omega, show (0 + 6 * 1) + 6 * 1 ≤ 1200 by omega⟩ hI hS (fun H locs hI hS => ?_)
    have hI : PR D cy A ad ae (M, h, fun j => if j = 0 then some M else sl j, ([] : List Int32)) (mirM M, h.map mirM, fun j => if j = 0 then some (mirM M) else (mirS sl) j, ([] : List Int32)) H := hI
    refine z_top (show (iI ((mirM M).1.length : Int)) = (iI (M.1.length : Int)) from by rw [hmL]) ?_
    refine lv_icmp_ne (tgt := 676) hx hb dL_isStep_669 (by decide) (fun c11 => absurd c11 (fun h9 => h9 rfl)) (fun c11 => ?_)
    refine lv_iconst (v := iI 1) hx hb dL_isStep_672 rfl ?_
    refine lv_goto (tgt := 698) hx hb dL_isStep_673 (by decide) ?_
    have hI : PR D cy A ad ae (M, h, fun j => if j = 0 then some M else sl j, ([] : List Int32)) (mirM M, h.map mirM, mirS (fun j => if j = 0 then some M else sl j), ([] : List Int32)) H := by rw [← save_mir]; exact hI
    exact kend 698 _ _ _ _ _ M h (fun j => if j = 0 then some M else sl j) dL_isStep_698 hI I.save hS (by omega) (by omega)
set_option maxHeartbeats 8000000 in
set_option maxRecDepth 100000 in
theorem st_699 {p : Program} {l : Launch} {e : Env} {s : State} {m : MethodId} {args : Array Value} {below : List Frame} {meth : Method} {c : Code} {A : Nat → Prop} {Q : State → Prop} {D : va_G} {cy : Nat → ClassId} {ad ae : Nat → Nat} (C : KC p l s m args c A D cy) (kend : KE p l e s m args below meth c A Q D cy ad ae) {M : MS} {h : List MS} {sl : Nat → Option MS} (I : IS M h sl) {x y w4 : Int32} {kd : Int} (hkd : 1 ≤ kd ∧ kd ≤ 26) {H : Heap} {locs : List Loc} {ls : Array Slot} (hI : PR D cy A ad ae (M, h, sl, ([] : List Int32)) (mirM M, h.map mirM, mirS sl, ([] : List Int32)) H) (hS : va_S A s.heap H locs) (hl : lv_has ls 11 [(0, .ref (ad 0)), (1, .ref (ae 0)), (2, .int x), (3, .int y), (4, .int w4), (5, .int (iI kd)), (6, .int (iI (M.1.length : Int)))]) : W p l e ({ frames := 10, cells := 200, slots := 6 * 200, locals := 300 } : Room) s m args below meth c H locs 0 0 Q (F0 m 699 ls []) := by
  obtain ⟨hx, hb, hml, hown, hts, hK, hT, hC, hZ, hA, hfl⟩ := id C
  have hMI := I.1
  have hM := hMI.1
  have hn := hM.nums
  have hmL : (mirM M).1.length = M.1.length := mirL_len _
  have hmW : (mirM M).2.1.length = M.2.1.length := mirL_len _
  have hM2 := MOk_mir hM
  by_cases hh0 : h.length = 0
  · --
    refine lv_aload_n hx hb dL_isStep_699 rfl (lv_at hl 0 rfl) ?_
    refine pS1 (n := 1) (As := []) (rest := []) ⟨hx, hb, hml, hown, hts⟩ (x_undo1 l hfl D cy ad M h sl ([] : List Int32)  (hh0)) gL_isStep_L_undo rfl (by decide +kernel) ⟨Nat.le_of_ble_eq_true rfl, Nat.le_of_ble_eq_true rfl⟩ hK hT hC hZ hA rfl hl.1 rfl (Nat.le_of_ble_eq_true rfl) dL_isStep_700 ⟨show 0 + 1 ≤ 200 by omega, show 0 + 6 * 1 ≤ 1200 by omega⟩ hI hS (fun H locs hI hS => ?_)
    have hI : PR D cy A ad ae (M, h, sl, ([] : List Int32)) (mirM M, h.map mirM, mirS sl, ([] : List Int32)) H := hI
    refine lv_aload_n hx hb dL_isStep_703 rfl (lv_at hl 1 rfl) ?_
    refine pS2 (n := 1) (As := []) (rest := [.int (iI 90001)]) ⟨hx, hb, hml, hown, hts⟩ (x_undo1 l hfl D cy ae (mirM M) (h.map mirM) (mirS sl) ([] : List Int32)  (by rw [List.length_map]; exact hh0)) gL_isStep_L_undo rfl (by decide +kernel) ⟨Nat.le_of_ble_eq_true rfl, Nat.le_of_ble_eq_true rfl⟩ hK hT hC hZ hA rfl hl.1 rfl (Nat.le_of_ble_eq_true rfl) dL_isStep_704 ⟨show (0 + 1) + 1 ≤ 200 by omega, show (0 + 6 * 1) + 6 * 1 ≤ 1200 by omega⟩ hI hS (fun H locs hI hS => ?_)
    have hI : PR D cy A ad ae (M, h, sl, ([] : List Int32)) (mirM M, h.map mirM, mirS sl, ([] : List Int32)) H := hI
    refine z_top (show iI 90001 = iI 90001 from rfl) ?_
    refine z_icmp_ne (tgt := 714) hx hb (iI_t (by omega) (by omega)) (iI_t (by omega) (by omega)) dL_isStep_707 (by decide) (fun c3 => absurd c3 (by omega)) (fun _ => ?_)
    refine lv_iconst (v := iI 1) hx hb dL_isStep_710 rfl ?_
    refine lv_goto (tgt := 715) hx hb dL_isStep_711 (by decide) ?_
    exact kend 715 _ _ _ _ _ M h sl dL_isStep_715 hI I hS (by omega) (by omega)
  · --
    obtain ⟨M2, hM9⟩ : ∃ M2 : MS, h[h.length - 1]? = some M2 := ⟨_, List.getElem?_eq_getElem (by omega)⟩
    refine lv_aload_n hx hb dL_isStep_699 rfl (lv_at hl 0 rfl) ?_
    refine pS1 (n := 1) (As := []) (rest := []) ⟨hx, hb, hml, hown, hts⟩ (x_undo0 l hfl D cy ad M h sl ([] : List Int32) M2 (hM9)) gL_isStep_L_undo rfl (by decide +kernel) ⟨Nat.le_of_ble_eq_true rfl, Nat.le_of_ble_eq_true rfl⟩ hK hT hC hZ hA rfl hl.1 rfl (Nat.le_of_ble_eq_true rfl) dL_isStep_700 ⟨show 0 + 1 ≤ 200 by omega, show 0 + 6 * 1 ≤ 1200 by omega⟩ hI hS (fun H locs hI hS => ?_)
    have hI : PR D cy A ad ae (M2, h.take (h.length - 1), sl, ([] : List Int32)) (mirM M, h.map mirM, mirS sl, ([] : List Int32)) H := hI
    refine lv_aload_n hx hb dL_isStep_703 rfl (lv_at hl 1 rfl) ?_
    refine pS2 (n := 1) (As := []) (rest := [.int (iI ((h.length : Int) - 1))]) ⟨hx, hb, hml, hown, hts⟩ (x_undo0 l hfl D cy ae (mirM M) (h.map mirM) (mirS sl) ([] : List Int32) (mirM M2) (by rw [List.length_map, List.getElem?_map, hM9, Option.map_some])) gL_isStep_L_undo rfl (by decide +kernel) ⟨Nat.le_of_ble_eq_true rfl, Nat.le_of_ble_eq_true rfl⟩ hK hT hC hZ hA rfl hl.1 rfl (Nat.le_of_ble_eq_true rfl) dL_isStep_704 ⟨show (0 + 1) + 1 ≤ 200 by omega, show (0 + 6 * 1) + 6 * 1 ≤ 1200 by omega⟩ hI hS (fun H locs hI hS => ?_)
    have hI : PR D cy A ad ae (M2, h.take (h.length - 1), sl, ([] : List Int32)) ((mirM M2), (h.map mirM).take ((h.map mirM).length - 1), mirS sl, ([] : List Int32)) H := hI
    refine z_top (show (iI (((h.map mirM).length : Int) - 1)) = (iI ((h.length : Int) - 1)) from by rw [List.length_map]) ?_
    refine lv_icmp_ne (tgt := 714) hx hb dL_isStep_707 (by decide) (fun c6 => absurd c6 (fun h9 => h9 rfl)) (fun c6 => ?_)
    refine lv_iconst (v := iI 1) hx hb dL_isStep_710 rfl ?_
    refine lv_goto (tgt := 715) hx hb dL_isStep_711 (by decide) ?_
    have hI : PR D cy A ad ae (M2, h.take (h.length - 1), sl, ([] : List Int32)) (mirM M2, (h.take (h.length - 1)).map mirM, mirS sl, ([] : List Int32)) H := by rw [List.map_take]; rw [List.length_map] at hI; exact hI
    exact kend 715 _ _ _ _ _ M2 (h.take (h.length - 1)) sl dL_isStep_715 hI (I.back hM9) hS (by omega) (by omega)
set_option maxHeartbeats 8000000 in
set_option maxRecDepth 100000 in
theorem st_716 {p : Program} {l : Launch} {e : Env} {s : State} {m : MethodId} {args : Array Value} {below : List Frame} {meth : Method} {c : Code} {A : Nat → Prop} {Q : State → Prop} {D : va_G} {cy : Nat → ClassId} {ad ae : Nat → Nat} (C : KC p l s m args c A D cy) (kend : KE p l e s m args below meth c A Q D cy ad ae) {M : MS} {h : List MS} {sl : Nat → Option MS} (I : IS M h sl) {x y w4 : Int32} {kd : Int} (hkd : 1 ≤ kd ∧ kd ≤ 26) {H : Heap} {locs : List Loc} {ls : Array Slot} (hI : PR D cy A ad ae (M, h, sl, ([] : List Int32)) (mirM M, h.map mirM, mirS sl, ([] : List Int32)) H) (hS : va_S A s.heap H locs) (hl : lv_has ls 11 [(0, .ref (ad 0)), (1, .ref (ae 0)), (2, .int x), (3, .int y), (4, .int w4), (5, .int (iI kd)), (6, .int (iI (M.1.length : Int)))]) : W p l e ({ frames := 10, cells := 200, slots := 6 * 200, locals := 300 } : Room) s m args below meth c H locs 0 0 Q (F0 m 716 ls []) := by
  obtain ⟨hx, hb, hml, hown, hts, hK, hT, hC, hZ, hA, hfl⟩ := id C
  have hMI := I.1
  have hM := hMI.1
  have hn := hM.nums
  have hmL : (mirM M).1.length = M.1.length := mirL_len _
  have hmW : (mirM M).2.1.length = M.2.1.length := mirL_len _
  have hM2 := MOk_mir hM
  by_cases ho : mOver M
  · --
    refine lv_aload_n hx hb dL_isStep_716 rfl (lv_at hl 0 rfl) ?_
    refine pV1 (n := 0) (As := []) (rest := []) ⟨hx, hb, hml, hown, hts⟩ (x_place l D cy ad M h sl ([] : List Int32)  ) gL_isStep_X4_place rfl (by decide +kernel) ⟨Nat.le_of_ble_eq_true rfl, Nat.le_of_ble_eq_true rfl⟩ hK hT hA rfl hl.1 rfl (Nat.le_of_ble_eq_true rfl) dL_isStep_717 ⟨show 0 ≤ 200 by omega, show 0 ≤ 1200 by omega⟩ hI hS (fun H locs hI hS => ?_)
    have hI : PR D cy A ad ae (M, h, sl, ([] : List Int32)) (mirM M, h.map mirM, mirS sl, ([] : List Int32)) H := hI
    refine lv_istore (lv' := [(7, .int (iI M.2.2.2.2.2.1)), (0, .ref (ad 0)), (1, .ref (ae 0)), (2, .int x), (3, .int y), (4, .int w4), (5, .int (iI kd)), (6, .int (iI (M.1.length : Int)))]) hx hb dL_isStep_720 hl (by decide) rfl (fun ls hl => ?_)
    refine lv_aload_n hx hb dL_isStep_722 rfl (lv_at hl 1 rfl) ?_
    refine pV1 (n := 0) (As := []) (rest := []) ⟨hx, hb, hml, hown, hts⟩ (x_isOver1 l D cy ad M h sl ([] : List Int32)  (ho)) gL_isStep_X4_isOver rfl (by decide +kernel) ⟨Nat.le_of_ble_eq_true rfl, Nat.le_of_ble_eq_true rfl⟩ hK hT hA rfl hl.1 rfl (Nat.le_of_ble_eq_true rfl) dL_isStep_723 ⟨show 0 ≤ 200 by omega, show 0 ≤ 1200 by omega⟩ hI hS (fun H locs hI hS => ?_)
    have hI : PR D cy A ad ae (M, h, sl, ([] : List Int32)) (mirM M, h.map mirM, mirS sl, ([] : List Int32)) H := hI
    refine lv_istore (lv' := [(8, .int (iI 1)), (7, .int (iI M.2.2.2.2.2.1)), (0, .ref (ad 0)), (1, .ref (ae 0)), (2, .int x), (3, .int y), (4, .int w4), (5, .int (iI kd)), (6, .int (iI (M.1.length : Int)))]) hx hb dL_isStep_726 hl (by decide) rfl (fun ls hl => ?_)
    refine lv_iload hx hb dL_isStep_728 (lv_at hl 0 rfl) ?_
    refine z_if_eq (tgt := 737) hx hb (iI_t (by omega) (by omega)) dL_isStep_730 (by decide) (fun c3 => absurd c3 (by omega)) (fun _ => ?_)
    refine lv_iconst (v := iI 0) hx hb dL_isStep_733 rfl ?_
    refine lv_goto (tgt := 743) hx hb dL_isStep_734 (by decide) ?_
    refine lv_istore (lv' := [(9, .int (iI 0)), (8, .int (iI 1)), (7, .int (iI M.2.2.2.2.2.1)), (0, .ref (ad 0)), (1, .ref (ae 0)), (2, .int x), (3, .int y), (4, .int w4), (5, .int (iI kd)), (6, .int (iI (M.1.length : Int)))]) hx hb dL_isStep_743 hl (by decide) rfl (fun ls hl => ?_)
    refine lv_aload_n hx hb dL_isStep_745 rfl (lv_at hl 3 rfl) ?_
    refine pS1 (n := 1) (As := []) (rest := []) ⟨hx, hb, hml, hown, hts⟩ (x_look1 l hfl D cy ad M h sl ([] : List Int32)  (ho)) gL_isStep_L_look rfl (by decide +kernel) ⟨Nat.le_of_ble_eq_true rfl, Nat.le_of_ble_eq_true rfl⟩ hK hT hC hZ hA rfl hl.1 rfl (Nat.le_of_ble_eq_true rfl) dL_isStep_746 ⟨show 0 + 1 ≤ 200 by omega, show 0 + 6 * 1 ≤ 1200 by omega⟩ hI hS (fun H locs hI hS => ?_)
    have hI : PR D cy A ad ae (M, h, sl, ([] : List Int32)) (mirM M, h.map mirM, mirS sl, ([] : List Int32)) H := hI
    refine z_top (show iI 90001 = iI 90001 from rfl) ?_
    refine lv_istore (lv' := [(10, .int (iI 90001)), (9, .int (iI 0)), (8, .int (iI 1)), (7, .int (iI M.2.2.2.2.2.1)), (0, .ref (ad 0)), (1, .ref (ae 0)), (2, .int x), (3, .int y), (4, .int w4), (5, .int (iI kd)), (6, .int (iI (M.1.length : Int)))]) hx hb dL_isStep_749 hl (by decide) rfl (fun ls hl => ?_)
    refine lv_iload hx hb dL_isStep_751 (lv_at hl 0 rfl) ?_
    refine lv_aload_n hx hb dL_isStep_753 rfl (lv_at hl 5 rfl) ?_
    refine pS2 (n := 1) (As := []) (rest := [.int (iI 90001)]) ⟨hx, hb, hml, hown, hts⟩ (x_look1 l hfl D cy ae (mirM M) (h.map mirM) (mirS sl) ([] : List Int32)  ((mOver_mir M).mpr ho)) gL_isStep_L_look rfl (by decide +kernel) ⟨Nat.le_of_ble_eq_true rfl, Nat.le_of_ble_eq_true rfl⟩ hK hT hC hZ hA rfl hl.1 rfl (Nat.le_of_ble_eq_true rfl) dL_isStep_754 ⟨show (0 + 1) + 1 ≤ 200 by omega, show (0 + 6 * 1) + 6 * 1 ≤ 1200 by omega⟩ hI hS (fun H locs hI hS => ?_)
    have hI : PR D cy A ad ae (M, h, sl, ([] : List Int32)) (mirM M, h.map mirM, mirS sl, ([] : List Int32)) H := hI
    refine z_top (show iI 90001 = iI 90001 from rfl) ?_
    refine z_icmp_ne (tgt := 811) hx hb (iI_t (by omega) (by omega)) (iI_t (by omega) (by omega)) dL_isStep_757 (by decide) (fun c6 => absurd c6 (by omega)) (fun _ => ?_)
    refine lv_iload hx hb dL_isStep_760 (lv_at hl 2 rfl) ?_
    refine z_if_eq (tgt := 775) hx hb (iI_t (by omega) (by omega)) dL_isStep_762 (by decide) (fun c7 => absurd c7 (by omega)) (fun _ => ?_)
    refine lv_iload hx hb dL_isStep_765 (lv_at hl 0 rfl) ?_
    refine lv_ldc (own := RL) (index := 17) (v := 90001) hx hb hown (hts (.constant RL 17 (90001)) (by decide +kernel)) dL_isStep_767 ?_
    refine z_top (show (90001 : Int32) = iI 90001 from by decide +kernel) ?_
    refine z_icmp_ne (tgt := 811) hx hb (iI_t (by omega) (by omega)) (iI_t (by omega) (by omega)) dL_isStep_769 (by decide) (fun c8 => absurd c8 (by omega)) (fun _ => ?_)
    refine lv_goto (tgt := 807) hx hb dL_isStep_772 (by decide) ?_
    refine lv_iconst (v := iI 1) hx hb dL_isStep_807 rfl ?_
    refine lv_goto (tgt := 812) hx hb dL_isStep_808 (by decide) ?_
    exact kend 812 _ _ _ _ _ M h sl dL_isStep_812 hI I hS (by omega) (by omega)
  · --
    refine lv_aload_n hx hb dL_isStep_716 rfl (lv_at hl 0 rfl) ?_
    refine pV1 (n := 0) (As := []) (rest := []) ⟨hx, hb, hml, hown, hts⟩ (x_place l D cy ad M h sl ([] : List Int32)  ) gL_isStep_X4_place rfl (by decide +kernel) ⟨Nat.le_of_ble_eq_true rfl, Nat.le_of_ble_eq_true rfl⟩ hK hT hA rfl hl.1 rfl (Nat.le_of_ble_eq_true rfl) dL_isStep_717 ⟨show 0 ≤ 200 by omega, show 0 ≤ 1200 by omega⟩ hI hS (fun H locs hI hS => ?_)
    have hI : PR D cy A ad ae (M, h, sl, ([] : List Int32)) (mirM M, h.map mirM, mirS sl, ([] : List Int32)) H := hI
    refine lv_istore (lv' := [(7, .int (iI M.2.2.2.2.2.1)), (0, .ref (ad 0)), (1, .ref (ae 0)), (2, .int x), (3, .int y), (4, .int w4), (5, .int (iI kd)), (6, .int (iI (M.1.length : Int)))]) hx hb dL_isStep_720 hl (by decide) rfl (fun ls hl => ?_)
    refine lv_aload_n hx hb dL_isStep_722 rfl (lv_at hl 1 rfl) ?_
    refine pV1 (n := 0) (As := []) (rest := []) ⟨hx, hb, hml, hown, hts⟩ (x_isOver0 l D cy ad M h sl ([] : List Int32)  (ho)) gL_isStep_X4_isOver rfl (by decide +kernel) ⟨Nat.le_of_ble_eq_true rfl, Nat.le_of_ble_eq_true rfl⟩ hK hT hA rfl hl.1 rfl (Nat.le_of_ble_eq_true rfl) dL_isStep_723 ⟨show 0 ≤ 200 by omega, show 0 ≤ 1200 by omega⟩ hI hS (fun H locs hI hS => ?_)
    have hI : PR D cy A ad ae (M, h, sl, ([] : List Int32)) (mirM M, h.map mirM, mirS sl, ([] : List Int32)) H := hI
    refine lv_istore (lv' := [(8, .int (iI 0)), (7, .int (iI M.2.2.2.2.2.1)), (0, .ref (ad 0)), (1, .ref (ae 0)), (2, .int x), (3, .int y), (4, .int w4), (5, .int (iI kd)), (6, .int (iI (M.1.length : Int)))]) hx hb dL_isStep_726 hl (by decide) rfl (fun ls hl => ?_)
    refine lv_iload hx hb dL_isStep_728 (lv_at hl 0 rfl) ?_
    refine z_if_eq (tgt := 737) hx hb (iI_t (by omega) (by omega)) dL_isStep_730 (by decide) (fun _ => ?_) (fun c11 => absurd c11 (by omega))
    refine lv_aload_n hx hb dL_isStep_737 rfl (lv_at hl 2 rfl) ?_
    refine lv_iload hx hb dL_isStep_738 (lv_at hl 1 rfl) ?_
    have ho2 : ¬ ((M.2.1.length : Int) = 0 ∨ (M.1.length : Int) - M.2.1.length + 1 ≤ M.2.2.2.2.2.1) := ho
    have hdr := mD_rng M M.2.2.2.2.2.1
    have hsk := sk_rng (M := M) (pl := M.2.2.2.2.2.1) ⟨by omega, by omega⟩
    have hpr := per_rng (M := M) (by omega)
    refine pS1 (n := 2) (As := [.int (iI M.2.2.2.2.2.1)]) (rest := []) ⟨hx, hb, hml, hown, hts⟩ (x_diff0 l hfl D cy ad M h sl ([] : List Int32) M.2.2.2.2.2.1 (by omega) (by omega) (by omega)) gL_isStep_L_difference rfl (by decide +kernel) ⟨Nat.le_of_ble_eq_true rfl, Nat.le_of_ble_eq_true rfl⟩ hK hT hC hZ hA rfl hl.1 rfl (Nat.le_of_ble_eq_true rfl) dL_isStep_740 ⟨show 0 + 1 ≤ 200 by omega, show 0 + 6 * 1 ≤ 1200 by omega⟩ hI hS (fun H locs hI hS => ?_)
    have hI : PR D cy A ad ae (M, h, sl, ([] : List Int32)) (mirM M, h.map mirM, mirS sl, ([] : List Int32)) H := hI
    refine lv_istore (lv' := [(9, .int (iI (mD M M.2.2.2.2.2.1))), (8, .int (iI 0)), (7, .int (iI M.2.2.2.2.2.1)), (0, .ref (ad 0)), (1, .ref (ae 0)), (2, .int x), (3, .int y), (4, .int w4), (5, .int (iI kd)), (6, .int (iI (M.1.length : Int)))]) hx hb dL_isStep_743 hl (by decide) rfl (fun ls hl => ?_)
    refine lv_aload_n hx hb dL_isStep_745 rfl (lv_at hl 3 rfl) ?_
    refine pS1 (n := 1) (As := []) (rest := []) ⟨hx, hb, hml, hown, hts⟩ (x_look0 l hfl D cy ad M h sl ([] : List Int32)  (ho)) gL_isStep_L_look rfl (by decide +kernel) ⟨Nat.le_of_ble_eq_true rfl, Nat.le_of_ble_eq_true rfl⟩ hK hT hC hZ hA rfl hl.1 rfl (Nat.le_of_ble_eq_true rfl) dL_isStep_746 ⟨show (0 + 1) + 1 ≤ 200 by omega, show (0 + 6 * 1) + 6 * 1 ≤ 1200 by omega⟩ hI hS (fun H locs hI hS => ?_)
    have hI : PR D cy A ad ae (mLook M, pushH h M, sl, ([] : List Int32)) (mirM M, h.map mirM, mirS sl, ([] : List Int32)) H := hI
    refine z_top (show (iI (mSk M M.2.2.2.2.2.1 (mD M M.2.2.2.2.2.1))) = iI (mSk M M.2.2.2.2.2.1 (mD M M.2.2.2.2.2.1)) from rfl) ?_
    refine lv_istore (lv' := [(10, .int (iI (mSk M M.2.2.2.2.2.1 (mD M M.2.2.2.2.2.1)))), (9, .int (iI (mD M M.2.2.2.2.2.1))), (8, .int (iI 0)), (7, .int (iI M.2.2.2.2.2.1)), (0, .ref (ad 0)), (1, .ref (ae 0)), (2, .int x), (3, .int y), (4, .int w4), (5, .int (iI kd)), (6, .int (iI (M.1.length : Int)))]) hx hb dL_isStep_749 hl (by decide) rfl (fun ls hl => ?_)
    refine lv_iload hx hb dL_isStep_751 (lv_at hl 0 rfl) ?_
    refine lv_aload_n hx hb dL_isStep_753 rfl (lv_at hl 5 rfl) ?_
    refine pS2 (n := 1) (As := []) (rest := [.int (iI (mSk M M.2.2.2.2.2.1 (mD M M.2.2.2.2.2.1)))]) ⟨hx, hb, hml, hown, hts⟩ (x_look0 l hfl D cy ae (mirM M) (h.map mirM) (mirS sl) ([] : List Int32)  (fun q => ho ((mOver_mir M).mp q))) gL_isStep_L_look rfl (by decide +kernel) ⟨Nat.le_of_ble_eq_true rfl, Nat.le_of_ble_eq_true rfl⟩ hK hT hC hZ hA rfl hl.1 rfl (Nat.le_of_ble_eq_true rfl) dL_isStep_754 ⟨show ((0 + 1) + 1) + 1 ≤ 200 by omega, show ((0 + 6 * 1) + 6 * 1) + 6 * 1 ≤ 1200 by omega⟩ hI hS (fun H locs hI hS => ?_)
    have hI : PR D cy A ad ae (mLook M, pushH h M, sl, ([] : List Int32)) (mLook (mirM M), pushH (h.map mirM) (mirM M), mirS sl, ([] : List Int32)) H := hI
    refine z_top (show (iI (mSk (mirM M) (mirM M).2.2.2.2.2.1 (mD (mirM M) (mirM M).2.2.2.2.2.1))) = iI (mSk M M.2.2.2.2.2.1 (mD M M.2.2.2.2.2.1)) from by rw [show mD (mirM M) (mirM M).2.2.2.2.2.1 = mD M M.2.2.2.2.2.1 from mD_mir (M := M) (s := M.2.2.2.2.2.1) (by omega) (by omega), show mSk (mirM M) (mirM M).2.2.2.2.2.1 (mD M M.2.2.2.2.2.1) = mSk M M.2.2.2.2.2.1 (mD M M.2.2.2.2.2.1) from mSk_mir (M := M) (pl := M.2.2.2.2.2.1) (d := (mD M M.2.2.2.2.2.1)) (by omega) (by omega) hdr.1 hdr.2]) ?_
    refine z_icmp_ne (tgt := 811) hx hb (iI_t (by omega) (by omega)) (iI_t (by omega) (by omega)) dL_isStep_757 (by decide) (fun c15 => absurd c15 (by omega)) (fun c15 => ?_)
    refine lv_iload hx hb dL_isStep_760 (lv_at hl 2 rfl) ?_
    refine z_if_eq (tgt := 775) hx hb (iI_t (by omega) (by omega)) dL_isStep_762 (by decide) (fun _ => ?_) (fun c16 => absurd c16 (by omega))
    refine lv_aload_n hx hb dL_isStep_775 rfl (lv_at hl 4 rfl) ?_
    refine pV1 (n := 0) (As := []) (rest := []) ⟨hx, hb, hml, hown, hts⟩ (x_place l D cy ad (mLook M) (pushH h M) sl ([] : List Int32)  ) gL_isStep_X4_place rfl (by decide +kernel) ⟨Nat.le_of_ble_eq_true rfl, Nat.le_of_ble_eq_true rfl⟩ hK hT hA rfl hl.1 rfl (Nat.le_of_ble_eq_true rfl) dL_isStep_776 ⟨show (((0 + 1) + 1) + 1) ≤ 200 by omega, show (((0 + 6 * 1) + 6 * 1) + 6 * 1) ≤ 1200 by omega⟩ hI hS (fun H locs hI hS => ?_)
    have hI : PR D cy A ad ae (mLook M, pushH h M, sl, ([] : List Int32)) (mLook (mirM M), pushH (h.map mirM) (mirM M), mirS sl, ([] : List Int32)) H := hI
    refine z_top (show (iI (mLook M).2.2.2.2.2.1) = iI (M.2.2.2.2.2.1 + (mSk M M.2.2.2.2.2.1 (mD M M.2.2.2.2.2.1))) from rfl) ?_
    refine lv_iload hx hb dL_isStep_779 (lv_at hl 3 rfl) ?_
    refine lv_iload hx hb dL_isStep_781 (lv_at hl 0 rfl) ?_
    refine z_add hx hb dL_isStep_783 ?_
    refine z_icmp_ne (tgt := 811) hx hb (iI_t (by omega) (by omega)) (iI_t (by omega) (by omega)) dL_isStep_784 (by decide) (fun c18 => absurd c18 (by omega)) (fun c18 => ?_)
    refine lv_iload hx hb dL_isStep_787 (lv_at hl 0 rfl) ?_
    refine lv_iconst (v := iI 1) hx hb dL_isStep_789 rfl ?_
    refine z_icmp_lt (tgt := 811) hx hb (iI_t (by omega) (by omega)) (iI_t (by omega) (by omega)) dL_isStep_790 (by decide) (fun c19 => absurd c19 (by omega)) (fun c19 => ?_)
    refine lv_iload hx hb dL_isStep_793 (lv_at hl 1 rfl) ?_
    refine z_if_ge (tgt := 807) hx hb (iI_t (by omega) (by omega)) dL_isStep_795 (by decide) (fun c20 => ?_) (fun c20 => ?_)
    · --
      refine lv_iconst (v := iI 1) hx hb dL_isStep_807 rfl ?_
      refine lv_goto (tgt := 812) hx hb dL_isStep_808 (by decide) ?_
      have hI : PR D cy A ad ae (mLook M, pushH h M, sl, ([] : List Int32)) (mirM (mLook M), (pushH h M).map mirM, mirS sl, ([] : List Int32)) H := by rw [← mLook_mir hM ho, push_mir]; exact hI
      exact kend 812 _ _ _ _ _ (mLook M) (pushH h M) sl dL_isStep_812 hI (I.push (hMI.look ho)) hS (by omega) (by omega)
    · --
      refine lv_iload hx hb dL_isStep_798 (lv_at hl 0 rfl) ?_
      refine lv_aload_n hx hb dL_isStep_800 rfl (lv_at hl 4 rfl) ?_
      refine pV1 (n := 0) (As := []) (rest := [.int (iI (mSk M M.2.2.2.2.2.1 (mD M M.2.2.2.2.2.1)))]) ⟨hx, hb, hml, hown, hts⟩ (x_period l D cy ad (mLook M) (pushH h M) sl ([] : List Int32)  ) gL_isStep_X4_period rfl (by decide +kernel) ⟨Nat.le_of_ble_eq_true rfl, Nat.le_of_ble_eq_true rfl⟩ hK hT hA rfl hl.1 rfl (Nat.le_of_ble_eq_true rfl) dL_isStep_801 ⟨show (((0 + 1) + 1) + 1) ≤ 200 by omega, show (((0 + 6 * 1) + 6 * 1) + 6 * 1) ≤ 1200 by omega⟩ hI hS (fun H locs hI hS => ?_)
      have hI : PR D cy A ad ae (mLook M, pushH h M, sl, ([] : List Int32)) (mLook (mirM M), pushH (h.map mirM) (mirM M), mirS sl, ([] : List Int32)) H := hI
      refine z_top (show (iI ((perF (mLook M).2.1.length (gl (mLook M).2.1) : Int))) = iI ((perF M.2.1.length (gl M.2.1) : Int)) from rfl) ?_
      refine z_icmp_ne (tgt := 811) hx hb (iI_t (by omega) (by omega)) (iI_t (by omega) (by omega)) dL_isStep_804 (by decide) (fun c22 => absurd c22 (fun h9 => h9 (by rw [sk_per (by omega)]))) (fun c22 => ?_)
      refine lv_iconst (v := iI 1) hx hb dL_isStep_807 rfl ?_
      refine lv_goto (tgt := 812) hx hb dL_isStep_808 (by decide) ?_
      have hI : PR D cy A ad ae (mLook M, pushH h M, sl, ([] : List Int32)) (mirM (mLook M), (pushH h M).map mirM, mirS sl, ([] : List Int32)) H := by rw [← mLook_mir hM ho, push_mir]; exact hI
      exact kend 812 _ _ _ _ _ (mLook M) (pushH h M) sl dL_isStep_812 hI (I.push (hMI.look ho)) hS (by omega) (by omega)
