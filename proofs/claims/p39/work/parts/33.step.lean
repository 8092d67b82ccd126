set_option maxHeartbeats 8000000 in
set_option maxRecDepth 100000 in
theorem c_L_isStep (l : Launch) (hfl : l.stackTraces = false) (D : va_G) (cy : Nat → ClassId) (ad ae : Nat → Nat) (M : MS) (h : List MS) (sl : Nat → Option MS) (I : IS M h sl) (x y : Int32) : YNi l D cy ad ae yL_isStep wsL_isStep 10 300 200 [.int x, .int y] (M, h, sl, []) (mirM M, h.map mirM, mirS sl, []) (fun r S' T' => r = iI 1 ∧ ∃ (M1 : MS) (h1 : List MS) (sl1 : Nat → Option MS), IS M1 h1 sl1 ∧ S' = (M1, h1, sl1, []) ∧ T' = (mirM M1, h1.map mirM, mirS sl1, [])) := by
  intro u v J1 J2
  refine Nc_of (cc := cL_isStep) (maxL := 11) (ret := (some .boolean)) (by decide) rfl rfl ?_
  intro p e s m args below meth c A hx hb hr hts hown hlocks hml hP hK hD hT hC hZ hA ls hl
  have hS : va_S A s.heap s.heap [] := va_S.rf
  have hl : lv_has ls 11 [(0, .ref (ad 0)), (1, .ref (ae 0)), (2, .int x), (3, .int y)] := hl
  have hI : PR D cy A ad ae (M, h, sl, ([] : List Int32)) (mirM M, h.map mirM, mirS sl, ([] : List Int32)) s.heap := ⟨u, v, J1, J2, hP, hD⟩
  have hM := I.1.1
  have hn := hM.nums
  have C : KC p l s m args c A D cy := ⟨hx, hb, hml, hown, hts, hK, hT, hC, hZ, hA, hfl⟩
  suffices hgo : ∀ Q : State → Prop, KE p l e s m args below meth c A Q D cy ad ae → W p l e ({ frames := 10, cells := 200, slots := 6 * 200, locals := 300 } : Room) s m args below meth c s.heap [] 0 0 Q (F0 m 0 ls []) by
    refine hgo _ ?_
    intro pc ls H locs c1 s1 M1 h1 sl1 hd hI I1 hS q1 q2
    obtain ⟨u1, v1, j1, j2, hP, hD⟩ := hI
    refine W.widen (k := 200) (n := 6 * 200) q1 q2 ?_
    exact z_zret hx hb hr hlocks (by decide +kernel) hS (u1, v1) ⟨_, _, ⟨rfl, M1, h1, sl1, I1, rfl, rfl⟩, j1, j2⟩ hP hd
  intro Q kend
  refine lv_iload_n hx hb dL_isStep_0 rfl (lv_at hl 2 rfl) ?_
  refine lv_iconst (v := iI 4) hx hb dL_isStep_1 rfl ?_
  refine lv_ishr hx hb dL_isStep_2 ?_
  refine lv_topi (fun w_1 _ => ?_)
  refine lv_istore (lv' := [(4, .int w_1), (0, .ref (ad 0)), (1, .ref (ae 0)), (2, .int x), (3, .int y)]) hx hb dL_isStep_3 hl (by decide) rfl (fun ls hl => ?_)
  refine lv_iconst (v := iI 1) hx hb dL_isStep_5 rfl ?_
  refine lv_iload hx hb dL_isStep_6 (lv_at hl 0 rfl) ?_
  refine lv_iload hx hb dL_isStep_8 (lv_at hl 0 rfl) ?_
  refine lv_iconst (v := iI 3) hx hb dL_isStep_10 rfl ?_
  refine lv_ishr hx hb dL_isStep_11 ?_
  refine lv_topi (fun w_2 _ => ?_)
  refine lv_iconst (v := iI 3) hx hb dL_isStep_12 rfl ?_
  refine pU (n := 2) (rest := [.int w_1, .int (iI 1)]) ⟨hx, hb, hml, hown, hts⟩ (c_L_up l D cy w_2 (3 : Int) (by omega)) gL_isStep_L_up rfl (by decide +kernel) ⟨Nat.le_of_ble_eq_true rfl, Nat.le_of_ble_eq_true rfl⟩ hK hT hA rfl hl.1 rfl (Nat.le_of_ble_eq_true rfl) dL_isStep_13 ⟨show 0 ≤ 200 by omega, show 0 ≤ 1200 by omega⟩ hI hS (fun r_3 t_3 H locs hw_3 hI hS => ?_)
  obtain ⟨a_3, b_3, er_3⟩ := hw_3
  have b_3 : t_3 < (3 : Int) := b_3
  subst er_3
  have hI : PR D cy A ad ae (M, h, sl, ([] : List Int32)) (mirM M, h.map mirM, mirS sl, ([] : List Int32)) H := hI
  refine z_if_ne (tgt := 24) hx hb (iI_t (by omega) (by omega)) dL_isStep_16 (by decide) (fun c4 => ?_) (fun c4 => ?_)
  · --
    refine lv_iconst (v := iI 3) hx hb dL_isStep_24 rfl ?_
    refine pU (n := 2) (rest := [.int (iI 1)]) ⟨hx, hb, hml, hown, hts⟩ (c_L_up l D cy w_1 (3 : Int) (by omega)) gL_isStep_L_up rfl (by decide +kernel) ⟨Nat.le_of_ble_eq_true rfl, Nat.le_of_ble_eq_true rfl⟩ hK hT hA rfl hl.1 rfl (Nat.le_of_ble_eq_true rfl) dL_isStep_25 ⟨show 0 ≤ 200 by omega, show 0 ≤ 1200 by omega⟩ hI hS (fun r_5 t_5 H locs hw_5 hI hS => ?_)
    obtain ⟨a_5, b_5, er_5⟩ := hw_5
    have b_5 : t_5 < (3 : Int) := b_5
    subst er_5
    have hI : PR D cy A ad ae (M, h, sl, ([] : List Int32)) (mirM M, h.map mirM, mirS sl, ([] : List Int32)) H := hI
    refine z_add hx hb dL_isStep_28 ?_
    refine lv_istore (lv' := [(5, .int (iI (1 + t_5))), (4, .int w_1), (0, .ref (ad 0)), (1, .ref (ae 0)), (2, .int x), (3, .int y)]) hx hb dL_isStep_29 hl (by decide) rfl (fun ls hl => ?_)
    refine lv_aload_n hx hb dL_isStep_31 rfl (lv_at hl 2 rfl) ?_
    refine pV1 (n := 0) (As := []) (rest := []) ⟨hx, hb, hml, hown, hts⟩ (x_lineLength l D cy ad M h sl ([] : List Int32)  ) gL_isStep_X4_lineLength rfl (by decide +kernel) ⟨Nat.le_of_ble_eq_true rfl, Nat.le_of_ble_eq_true rfl⟩ hK hT hA rfl hl.1 rfl (Nat.le_of_ble_eq_true rfl) dL_isStep_32 ⟨show 0 ≤ 200 by omega, show 0 ≤ 1200 by omega⟩ hI hS (fun H locs hI hS => ?_)
    have hI : PR D cy A ad ae (M, h, sl, ([] : List Int32)) (mirM M, h.map mirM, mirS sl, ([] : List Int32)) H := hI
    refine lv_istore (lv' := [(6, .int (iI (M.1.length : Int))), (5, .int (iI (1 + t_5))), (4, .int w_1), (0, .ref (ad 0)), (1, .ref (ae 0)), (2, .int x), (3, .int y)]) hx hb dL_isStep_35 hl (by decide) rfl (fun ls hl => ?_)
    refine lv_iload_n hx hb dL_isStep_37 rfl (lv_at hl 5 rfl) ?_
    refine lv_bipush (v := iI 22) hx hb dL_isStep_38 (by decide +kernel) ?_
    refine pU (n := 2) (rest := []) ⟨hx, hb, hml, hown, hts⟩ (c_L_up l D cy x (22 : Int) (by omega)) gL_isStep_L_up rfl (by decide +kernel) ⟨Nat.le_of_ble_eq_true rfl, Nat.le_of_ble_eq_true rfl⟩ hK hT hA rfl hl.1 rfl (Nat.le_of_ble_eq_true rfl) dL_isStep_40 ⟨show 0 ≤ 200 by omega, show 0 ≤ 1200 by omega⟩ hI hS (fun r_7 t_7 H locs hw_7 hI hS => ?_)
    obtain ⟨a_7, b_7, er_7⟩ := hw_7
    have b_7 : t_7 < (22 : Int) := b_7
    subst er_7
    have hI : PR D cy A ad ae (M, h, sl, ([] : List Int32)) (mirM M, h.map mirM, mirS sl, ([] : List Int32)) H := hI
    have hv9 : (iI t_7).toInt = t_7 := iI_t (by omega) (by omega)
    by_cases h14 : 14 ≤ t_7
    · exact lv_tableOut (tgt := 716) hx hb dL_isStep_43 (by omega) (by decide) (st_716 C kend I (kd := 1 + t_5) (by omega) hI hS (lv_sub hl [3, 4, 5, 6, 2, 1, 0] rfl))
    · rcases (show (iI t_7).toInt = 0 ∨ (iI t_7).toInt = 1 ∨ (iI t_7).toInt = 2 ∨ (iI t_7).toInt = 3 ∨ (iI t_7).toInt = 4 ∨ (iI t_7).toInt = 5 ∨ (iI t_7).toInt = 6 ∨ (iI t_7).toInt = 7 ∨ (iI t_7).toInt = 8 ∨ (iI t_7).toInt = 9 ∨ (iI t_7).toInt = 10 ∨ (iI t_7).toInt = 11 ∨ (iI t_7).toInt = 12 ∨ (iI t_7).toInt = 13 by omega) with hv | hv | hv | hv | hv | hv | hv | hv | hv | hv | hv | hv | hv | hv
      · exact lv_tableIn (off := 69) (tgt := 112) hx hb dL_isStep_43 (by omega) (by omega) (by rw [hv]; rfl) (by decide) (st_112 C kend I (kd := 1 + t_5) (by omega) hI hS (lv_sub hl [3, 4, 5, 6, 2, 1, 0] rfl))
      · exact lv_tableIn (off := 69) (tgt := 112) hx hb dL_isStep_43 (by omega) (by omega) (by rw [hv]; rfl) (by decide) (st_112 C kend I (kd := 1 + t_5) (by omega) hI hS (lv_sub hl [3, 4, 5, 6, 2, 1, 0] rfl))
      · exact lv_tableIn (off := 195) (tgt := 238) hx hb dL_isStep_43 (by omega) (by omega) (by rw [hv]; rfl) (by decide) (st_238 C kend I (kd := 1 + t_5) (by omega) hI hS (lv_sub hl [3, 4, 5, 6, 2, 1, 0] rfl))
      · exact lv_tableIn (off := 195) (tgt := 238) hx hb dL_isStep_43 (by omega) (by omega) (by rw [hv]; rfl) (by decide) (st_238 C kend I (kd := 1 + t_5) (by omega) hI hS (lv_sub hl [3, 4, 5, 6, 2, 1, 0] rfl))
      · exact lv_tableIn (off := 195) (tgt := 238) hx hb dL_isStep_43 (by omega) (by omega) (by rw [hv]; rfl) (by decide) (st_238 C kend I (kd := 1 + t_5) (by omega) hI hS (lv_sub hl [3, 4, 5, 6, 2, 1, 0] rfl))
      · exact lv_tableIn (off := 390) (tgt := 433) hx hb dL_isStep_43 (by omega) (by omega) (by rw [hv]; rfl) (by decide) (st_433 C kend I (kd := 1 + t_5) (by omega) hI hS (lv_sub hl [3, 4, 5, 6, 2, 1, 0] rfl))
      · exact lv_tableIn (off := 390) (tgt := 433) hx hb dL_isStep_43 (by omega) (by omega) (by rw [hv]; rfl) (by decide) (st_433 C kend I (kd := 1 + t_5) (by omega) hI hS (lv_sub hl [3, 4, 5, 6, 2, 1, 0] rfl))
      · exact lv_tableIn (off := 447) (tgt := 490) hx hb dL_isStep_43 (by omega) (by omega) (by rw [hv]; rfl) (by decide) (st_490 C kend I (kd := 1 + t_5) (by omega) hI hS (lv_sub hl [3, 4, 5, 6, 2, 1, 0] rfl))
      · exact lv_tableIn (off := 447) (tgt := 490) hx hb dL_isStep_43 (by omega) (by omega) (by rw [hv]; rfl) (by decide) (st_490 C kend I (kd := 1 + t_5) (by omega) hI hS (lv_sub hl [3, 4, 5, 6, 2, 1, 0] rfl))
      · exact lv_tableIn (off := 489) (tgt := 532) hx hb dL_isStep_43 (by omega) (by omega) (by rw [hv]; rfl) (by decide) (st_532 C kend I (kd := 1 + t_5) (by omega) hI hS (lv_sub hl [3, 4, 5, 6, 2, 1, 0] rfl))
      · exact lv_tableIn (off := 506) (tgt := 549) hx hb dL_isStep_43 (by omega) (by omega) (by rw [hv]; rfl) (by decide) (st_549 C kend I (kd := 1 + t_5) (by omega) hI hS (lv_sub hl [3, 4, 5, 6, 2, 1, 0] rfl))
      · exact lv_tableIn (off := 506) (tgt := 549) hx hb dL_isStep_43 (by omega) (by omega) (by rw [hv]; rfl) (by decide) (st_549 C kend I (kd := 1 + t_5) (by omega) hI hS (lv_sub hl [3, 4, 5, 6, 2, 1, 0] rfl))
      · exact lv_tableIn (off := 608) (tgt := 651) hx hb dL_isStep_43 (by omega) (by omega) (by rw [hv]; rfl) (by decide) (st_651 C kend I (kd := 1 + t_5) (by omega) hI hS (lv_sub hl [3, 4, 5, 6, 2, 1, 0] rfl))
      · exact lv_tableIn (off := 656) (tgt := 699) hx hb dL_isStep_43 (by omega) (by omega) (by rw [hv]; rfl) (by decide) (st_699 C kend I (kd := 1 + t_5) (by omega) hI hS (lv_sub hl [3, 4, 5, 6, 2, 1, 0] rfl))
  · --
    refine lv_bipush (v := iI 26) hx hb dL_isStep_19 (by decide +kernel) ?_
    refine lv_goto (tgt := 25) hx hb dL_isStep_21 (by decide) ?_
    refine pU (n := 2) (rest := [.int (iI 1)]) ⟨hx, hb, hml, hown, hts⟩ (c_L_up l D cy w_1 (26 : Int) (by omega)) gL_isStep_L_up rfl (by decide +kernel) ⟨Nat.le_of_ble_eq_true rfl, Nat.le_of_ble_eq_true rfl⟩ hK hT hA rfl hl.1 rfl (Nat.le_of_ble_eq_true rfl) dL_isStep_25 ⟨show 0 ≤ 200 by omega, show 0 ≤ 1200 by omega⟩ hI hS (fun r_8 t_8 H locs hw_8 hI hS => ?_)
    obtain ⟨a_8, b_8, er_8⟩ := hw_8
    have b_8 : t_8 < (26 : Int) := b_8
    subst er_8
    have hI : PR D cy A ad ae (M, h, sl, ([] : List Int32)) (mirM M, h.map mirM, mirS sl, ([] : List Int32)) H := hI
    refine z_add hx hb dL_isStep_28 ?_
    refine lv_istore (lv' := [(5, .int (iI (1 + t_8))), (4, .int w_1), (0, .ref (ad 0)), (1, .ref (ae 0)), (2, .int x), (3, .int y)]) hx hb dL_isStep_29 hl (by decide) rfl (fun ls hl => ?_)
    refine lv_aload_n hx hb dL_isStep_31 rfl (lv_at hl 2 rfl) ?_
    refine pV1 (n := 0) (As := []) (rest := []) ⟨hx, hb, hml, hown, hts⟩ (x_lineLength l D cy ad M h sl ([] : List Int32)  ) gL_isStep_X4_lineLength rfl (by decide +kernel) ⟨Nat.le_of_ble_eq_true rfl, Nat.le_of_ble_eq_true rfl⟩ hK hT hA rfl hl.1 rfl (Nat.le_of_ble_eq_true rfl) dL_isStep_32 ⟨show 0 ≤ 200 by omega, show 0 ≤ 1200 by omega⟩ hI hS (fun H locs hI hS => ?_)
    have hI : PR D cy A ad ae (M, h, sl, ([] : List Int32)) (mirM M, h.map mirM, mirS sl, ([] : List Int32)) H := hI
    refine lv_istore (lv' := [(6, .int (iI (M.1.length : Int))), (5, .int (iI (1 + t_8))), (4, .int w_1), (0, .ref (ad 0)), (1, .ref (ae 0)), (2, .int x), (3, .int y)]) hx hb dL_isStep_35 hl (by decide) rfl (fun ls hl => ?_)
    refine lv_iload_n hx hb dL_isStep_37 rfl (lv_at hl 5 rfl) ?_
    refine lv_bipush (v := iI 22) hx hb dL_isStep_38 (by decide +kernel) ?_
    refine pU (n := 2) (rest := []) ⟨hx, hb, hml, hown, hts⟩ (c_L_up l D cy x (22 : Int) (by omega)) gL_isStep_L_up rfl (by decide +kernel) ⟨Nat.le_of_ble_eq_true rfl, Nat.le_of_ble_eq_true rfl⟩ hK hT hA rfl hl.1 rfl (Nat.le_of_ble_eq_true rfl) dL_isStep_40 ⟨show 0 ≤ 200 by omega, show 0 ≤ 1200 by omega⟩ hI hS (fun r_10 t_10 H locs hw_10 hI hS => ?_)
    obtain ⟨a_10, b_10, er_10⟩ := hw_10
    have b_10 : t_10 < (22 : Int) := b_10
    subst er_10
    have hI : PR D cy A ad ae (M, h, sl, ([] : List Int32)) (mirM M, h.map mirM, mirS sl, ([] : List Int32)) H := hI
    have hv9 : (iI t_10).toInt = t_10 := iI_t (by omega) (by omega)
    by_cases h14 : 14 ≤ t_10
    · exact lv_tableOut (tgt := 716) hx hb dL_isStep_43 (by omega) (by decide) (st_716 C kend I (kd := 1 + t_8) (by omega) hI hS (lv_sub hl [3, 4, 5, 6, 2, 1, 0] rfl))
    · rcases (show (iI t_10).toInt = 0 ∨ (iI t_10).toInt = 1 ∨ (iI t_10).toInt = 2 ∨ (iI t_10).toInt = 3 ∨ (iI t_10).toInt = 4 ∨ (iI t_10).toInt = 5 ∨ (iI t_10).toInt = 6 ∨ (iI t_10).toInt = 7 ∨ (iI t_10).toInt = 8 ∨ (iI t_10).toInt = 9 ∨ (iI t_10).toInt = 10 ∨ (iI t_10).toInt = 11 ∨ (iI t_10).toInt = 12 ∨ (iI t_10).toInt = 13 by omega) with hv | hv | hv | hv | hv | hv | hv | hv | hv | hv | hv | hv | hv | hv
      · exact lv_tableIn (off := 69) (tgt := 112) hx hb dL_isStep_43 (by omega) (by omega) (by rw [hv]; rfl) (by decide) (st_112 C kend I (kd := 1 + t_8) (by omega) hI hS (lv_sub hl [3, 4, 5, 6, 2, 1, 0] rfl))
      · exact lv_tableIn (off := 69) (tgt := 112) hx hb dL_isStep_43 (by omega) (by omega) (by rw [hv]; rfl) (by decide) (st_112 C kend I (kd := 1 + t_8) (by omega) hI hS (lv_sub hl [3, 4, 5, 6, 2, 1, 0] rfl))
      · exact lv_tableIn (off := 195) (tgt := 238) hx hb dL_isStep_43 (by omega) (by omega) (by rw [hv]; rfl) (by decide) (st_238 C kend I (kd := 1 + t_8) (by omega) hI hS (lv_sub hl [3, 4, 5, 6, 2, 1, 0] rfl))
      · exact lv_tableIn (off := 195) (tgt := 238) hx hb dL_isStep_43 (by omega) (by omega) (by rw [hv]; rfl) (by decide) (st_238 C kend I (kd := 1 + t_8) (by omega) hI hS (lv_sub hl [3, 4, 5, 6, 2, 1, 0] rfl))
      · exact lv_tableIn (off := 195) (tgt := 238) hx hb dL_isStep_43 (by omega) (by omega) (by rw [hv]; rfl) (by decide) (st_238 C kend I (kd := 1 + t_8) (by omega) hI hS (lv_sub hl [3, 4, 5, 6, 2, 1, 0] rfl))
      · exact lv_tableIn (off := 390) (tgt := 433) hx hb dL_isStep_43 (by omega) (by omega) (by rw [hv]; rfl) (by decide) (st_433 C kend I (kd := 1 + t_8) (by omega) hI hS (lv_sub hl [3, 4, 5, 6, 2, 1, 0] rfl))
      · exact lv_tableIn (off := 390) (tgt := 433) hx hb dL_isStep_43 (by omega) (by omega) (by rw [hv]; rfl) (by decide) (st_433 C kend I (kd := 1 + t_8) (by omega) hI hS (lv_sub hl [3, 4, 5, 6, 2, 1, 0] rfl))
      · exact lv_tableIn (off := 447) (tgt := 490) hx hb dL_isStep_43 (by omega) (by omega) (by rw [hv]; rfl) (by decide) (st_490 C kend I (kd := 1 + t_8) (by omega) hI hS (lv_sub hl [3, 4, 5, 6, 2, 1, 0] rfl))
      · exact lv_tableIn (off := 447) (tgt := 490) hx hb dL_isStep_43 (by omega) (by omega) (by rw [hv]; rfl) (by decide) (st_490 C kend I (kd := 1 + t_8) (by omega) hI hS (lv_sub hl [3, 4, 5, 6, 2, 1, 0] rfl))
      · exact lv_tableIn (off := 489) (tgt := 532) hx hb dL_isStep_43 (by omega) (by omega) (by rw [hv]; rfl) (by decide) (st_532 C kend I (kd := 1 + t_8) (by omega) hI hS (lv_sub hl [3, 4, 5, 6, 2, 1, 0] rfl))
      · exact lv_tableIn (off := 506) (tgt := 549) hx hb dL_isStep_43 (by omega) (by omega) (by rw [hv]; rfl) (by decide) (st_549 C kend I (kd := 1 + t_8) (by omega) hI hS (lv_sub hl [3, 4, 5, 6, 2, 1, 0] rfl))
      · exact lv_tableIn (off := 506) (tgt := 549) hx hb dL_isStep_43 (by omega) (by omega) (by rw [hv]; rfl) (by decide) (st_549 C kend I (kd := 1 + t_8) (by omega) hI hS (lv_sub hl [3, 4, 5, 6, 2, 1, 0] rfl))
      · exact lv_tableIn (off := 608) (tgt := 651) hx hb dL_isStep_43 (by omega) (by omega) (by rw [hv]; rfl) (by decide) (st_651 C kend I (kd := 1 + t_8) (by omega) hI hS (lv_sub hl [3, 4, 5, 6, 2, 1, 0] rfl))
      · exact lv_tableIn (off := 656) (tgt := 699) hx hb dL_isStep_43 (by omega) (by omega) (by rw [hv]; rfl) (by decide) (st_699 C kend I (kd := 1 + t_8) (by omega) hI hS (lv_sub hl [3, 4, 5, 6, 2, 1, 0] rfl))
