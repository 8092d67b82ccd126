theorem dX2_init_0 : decode cX2_init 0 = .ok (.aload_n 0, 1) := by decide +kernel
theorem dX2_init_1 : decode cX2_init 1 = .ok (.invokespecial 3, 3) := by decide +kernel
theorem dX2_init_4 : decode cX2_init 4 = .ok (.aload_n 0, 1) := by decide +kernel
theorem dX2_init_5 : decode cX2_init 5 = .ok (.iload_n 1, 1) := by decide +kernel
theorem dX2_init_6 : decode cX2_init 6 = .ok (.iconst 0, 1) := by decide +kernel
theorem dX2_init_7 : decode cX2_init 7 = .ok (.invokestatic 9, 3) := by decide +kernel
theorem dX2_init_10 : decode cX2_init 10 = .ok (.newarray .int, 2) := by decide +kernel
theorem dX2_init_12 : decode cX2_init 12 = .ok (.putfield 15, 3) := by decide +kernel
theorem dX2_init_15 : decode cX2_init 15 = .ok (.return_, 1) := by decide +kernel
theorem dX3_init_0 : decode cX3_init 0 = .ok (.aload_n 0, 1) := by decide +kernel
theorem dX3_init_1 : decode cX3_init 1 = .ok (.invokespecial 3, 3) := by decide +kernel
theorem dX3_init_4 : decode cX3_init 4 = .ok (.aload_n 0, 1) := by decide +kernel
theorem dX3_init_5 : decode cX3_init 5 = .ok (.new 9, 3) := by decide +kernel
theorem dX3_init_8 : decode cX3_init 8 = .ok (.dup, 1) := by decide +kernel
theorem dX3_init_9 : decode cX3_init 9 = .ok (.bipush 60, 2) := by decide +kernel
theorem dX3_init_11 : decode cX3_init 11 = .ok (.invokespecial 11, 3) := by decide +kernel
theorem dX3_init_14 : decode cX3_init 14 = .ok (.putfield 14, 3) := by decide +kernel
theorem dX3_init_17 : decode cX3_init 17 = .ok (.aload_n 0, 1) := by decide +kernel
theorem dX3_init_18 : decode cX3_init 18 = .ok (.new 9, 3) := by decide +kernel
theorem dX3_init_21 : decode cX3_init 21 = .ok (.dup, 1) := by decide +kernel
theorem dX3_init_22 : decode cX3_init 22 = .ok (.bipush 16, 2) := by decide +kernel
theorem dX3_init_24 : decode cX3_init 24 = .ok (.invokespecial 11, 3) := by decide +kernel
theorem dX3_init_27 : decode cX3_init 27 = .ok (.putfield 20, 3) := by decide +kernel
theorem dX3_init_30 : decode cX3_init 30 = .ok (.aload_n 0, 1) := by decide +kernel
theorem dX3_init_31 : decode cX3_init 31 = .ok (.new 9, 3) := by decide +kernel
theorem dX3_init_34 : decode cX3_init 34 = .ok (.dup, 1) := by decide +kernel
theorem dX3_init_35 : decode cX3_init 35 = .ok (.bipush 60, 2) := by decide +kernel
theorem dX3_init_37 : decode cX3_init 37 = .ok (.invokespecial 11, 3) := by decide +kernel
theorem dX3_init_40 : decode cX3_init 40 = .ok (.putfield 23, 3) := by decide +kernel
theorem dX3_init_43 : decode cX3_init 43 = .ok (.aload_n 0, 1) := by decide +kernel
theorem dX3_init_44 : decode cX3_init 44 = .ok (.iconst 1, 1) := by decide +kernel
theorem dX3_init_45 : decode cX3_init 45 = .ok (.putfield 26, 3) := by decide +kernel
theorem dX3_init_48 : decode cX3_init 48 = .ok (.aload_n 0, 1) := by decide +kernel
theorem dX3_init_49 : decode cX3_init 49 = .ok (.iconst 1, 1) := by decide +kernel
theorem dX3_init_50 : decode cX3_init 50 = .ok (.putfield 30, 3) := by decide +kernel
theorem dX3_init_53 : decode cX3_init 53 = .ok (.return_, 1) := by decide +kernel
set_option maxRecDepth 20000 in
theorem ggX3_init_X2_init : GoodIn wsX3_init wsX2_init := goodIn_r _ [14, 15, 2, 3, 16, 17, 18, 19, 20, 21, 22, 23] (by decide +kernel) (by decide +kernel)
set_option maxRecDepth 20000 in
theorem gX3_init_X2_init : GoodIn wsX3_init (wsX2_init) := ggX3_init_X2_init
theorem dX0_init_0 : decode cX0_init 0 = .ok (.aload_n 0, 1) := by decide +kernel
theorem dX0_init_1 : decode cX0_init 1 = .ok (.invokespecial 3, 3) := by decide +kernel
theorem dX0_init_4 : decode cX0_init 4 = .ok (.aload_n 0, 1) := by decide +kernel
theorem dX0_init_5 : decode cX0_init 5 = .ok (.bipush 17, 2) := by decide +kernel
theorem dX0_init_7 : decode cX0_init 7 = .ok (.newarray .int, 2) := by decide +kernel
theorem dX0_init_9 : decode cX0_init 9 = .ok (.putfield 9, 3) := by decide +kernel
theorem dX0_init_12 : decode cX0_init 12 = .ok (.aload_n 0, 1) := by decide +kernel
theorem dX0_init_13 : decode cX0_init 13 = .ok (.bipush 17, 2) := by decide +kernel
theorem dX0_init_15 : decode cX0_init 15 = .ok (.newarray .int, 2) := by decide +kernel
theorem dX0_init_17 : decode cX0_init 17 = .ok (.putfield 15, 3) := by decide +kernel
theorem dX0_init_20 : decode cX0_init 20 = .ok (.return_, 1) := by decide +kernel
theorem dX5_init_0 : decode cX5_init 0 = .ok (.aload_n 0, 1) := by decide +kernel
theorem dX5_init_1 : decode cX5_init 1 = .ok (.invokespecial 1, 3) := by decide +kernel
theorem dX5_init_4 : decode cX5_init 4 = .ok (.aload_n 0, 1) := by decide +kernel
theorem dX5_init_5 : decode cX5_init 5 = .ok (.sipush 144, 3) := by decide +kernel
theorem dX5_init_8 : decode cX5_init 8 = .ok (.newarray .int, 2) := by decide +kernel
theorem dX5_init_10 : decode cX5_init 10 = .ok (.putfield 7, 3) := by decide +kernel
theorem dX5_init_13 : decode cX5_init 13 = .ok (.aload_n 0, 1) := by decide +kernel
theorem dX5_init_14 : decode cX5_init 14 = .ok (.sipush 864, 3) := by decide +kernel
theorem dX5_init_17 : decode cX5_init 17 = .ok (.newarray .int, 2) := by decide +kernel
theorem dX5_init_19 : decode cX5_init 19 = .ok (.putfield 13, 3) := by decide +kernel
theorem dX5_init_22 : decode cX5_init 22 = .ok (.aload_n 0, 1) := by decide +kernel
theorem dX5_init_23 : decode cX5_init 23 = .ok (.sipush 288, 3) := by decide +kernel
theorem dX5_init_26 : decode cX5_init 26 = .ok (.newarray .int, 2) := by decide +kernel
theorem dX5_init_28 : decode cX5_init 28 = .ok (.putfield 16, 3) := by decide +kernel
theorem dX5_init_31 : decode cX5_init 31 = .ok (.aload_n 0, 1) := by decide +kernel
theorem dX5_init_32 : decode cX5_init 32 = .ok (.iconst 2, 1) := by decide +kernel
theorem dX5_init_33 : decode cX5_init 33 = .ok (.newarray .int, 2) := by decide +kernel
theorem dX5_init_35 : decode cX5_init 35 = .ok (.putfield 19, 3) := by decide +kernel
theorem dX5_init_38 : decode cX5_init 38 = .ok (.aload_n 0, 1) := by decide +kernel
theorem dX5_init_39 : decode cX5_init 39 = .ok (.bipush 80, 2) := by decide +kernel
theorem dX5_init_41 : decode cX5_init 41 = .ok (.newarray .int, 2) := by decide +kernel
theorem dX5_init_43 : decode cX5_init 43 = .ok (.putfield 22, 3) := by decide +kernel
theorem dX5_init_46 : decode cX5_init 46 = .ok (.aload_n 0, 1) := by decide +kernel
theorem dX5_init_47 : decode cX5_init 47 = .ok (.getfield 7, 3) := by decide +kernel
theorem dX5_init_50 : decode cX5_init 50 = .ok (.bipush 78, 2) := by decide +kernel
theorem dX5_init_52 : decode cX5_init 52 = .ok (.iconst 1, 1) := by decide +kernel
theorem dX5_init_53 : decode cX5_init 53 = .ok (.iastore, 1) := by decide +kernel
theorem dX5_init_54 : decode cX5_init 54 = .ok (.aload_n 0, 1) := by decide +kernel
theorem dX5_init_55 : decode cX5_init 55 = .ok (.getfield 7, 3) := by decide +kernel
theorem dX5_init_58 : decode cX5_init 58 = .ok (.bipush 79, 2) := by decide +kernel
theorem dX5_init_60 : decode cX5_init 60 = .ok (.iconst 1, 1) := by decide +kernel
theorem dX5_init_61 : decode cX5_init 61 = .ok (.iastore, 1) := by decide +kernel
theorem dX5_init_62 : decode cX5_init 62 = .ok (.return_, 1) := by decide +kernel
set_option maxHeartbeats 4000000 in
set_option maxRecDepth 100000 in
theorem c_X2_init (l : Launch) (D : va_G) (cy : Nat → ClassId) (h0 : Nat) (K : Nat) (x : Int) (hK8 : x = (K : Int) ∧ K ≤ 1000) : Wv l D cy yX2_init wsX2_init 1 21 1 K [.ref h0, .int (iI x)] [(h0, .inr (2, [.null, .int (iI 0)]))] (fun (u : Nat) => True) (fun u : Nat => [(h0, .inr (2, [.ref u, .int (iI 0)])), (u, .inl (cy 0, K, .inl (fun _ => iI 0)))]) := by
  refine Wv_of (cc := cX2_init) (maxL := 2) (ret := none) (by decide) rfl rfl ?_
  intro p e s m args below meth c A hx hb hr hts hown hlocks hml hin hP hK hD hT hO hA ls hl
  have hS : va_S A s.heap s.heap [] := va_S.rf
  have hl : lv_has ls 2 [(0, .ref h0), (1, .int (iI x))] := hl
  have hP : va_P D vwCl [(h0, .inr (2, [.null, .int (iI 0)]))] s.heap := hP
  have hD : va_D A [(h0, .inr (2, [.null, .int (iI 0)]))] := hD
  have hiX2 : ∀ w ∈ wsX20, w ∈ wsX2_init := by decide +kernel
  refine lv_aload_n hx hb dX2_init_0 rfl (lv_at hl 0 rfl) ?_
  refine W.objInit hx hb hown (hts (.methodLink RX2 3 objectInit) (by decide +kernel)) (hts (.instanceMethod objectInit) (by decide +kernel)) (hts (.code objectInit ⟨#[0xb1]⟩ 1 none) (by decide +kernel)) rfl (by rw [hml]; exact hl.1) rfl dX2_init_1 (Nat.le_of_ble_eq_true rfl) (Nat.le_of_ble_eq_true rfl) ?_
  refine W.eq (g2 := F0 m 4 ls []) rfl ?_
  refine lv_aload_n hx hb dX2_init_4 rfl (lv_at hl 0 rfl) ?_
  refine lv_iload_n hx hb dX2_init_5 rfl (lv_at hl 1 rfl) ?_
  refine lv_iconst (v := iI 0) hx hb dX2_init_6 rfl ?_
  refine z_mmax (hml := hml.trans hl.1.symm) hx hb hown (hts (.methodLink RX2 9 Lib.Math.max.name) (by decide +kernel)) (hts (.static Lib.Math.max.name) (by decide +kernel)) (hts (.initialized "java/lang/Math") (by decide +kernel)) (hts (.code Lib.Math.max.name Lib.Math.max.code 2 (some .int)) (by decide +kernel)) (Nat.le_of_ble_eq_true rfl) (Nat.le_of_ble_eq_true rfl) (Nat.zero_le _) (Nat.zero_le _) (by omega) (by omega) (by omega) (by omega) dX2_init_7 (fun z_1 e_1 => ?_)
  refine zi_newi hx hb (hts (.arrayClass .int) (by decide +kernel)) hK hP hD hS hA (z := z_1) K (by omega) (by omega) (by first | decide | (dsimp only; omega)) (by first | decide | (dsimp only; omega)) dX2_init_10 (fun q_2 H hP hD hS => ?_)
  have hP : va_P D vwCl [(h0, .inr (2, [.null, .int (iI 0)])), (q_2, .inl (cy 0, K, .inl (fun _ => iI 0)))] H := hP
  have hD : va_D A [(h0, .inr (2, [.null, .int (iI 0)])), (q_2, .inl (cy 0, K, .inl (fun _ => iI 0)))] := hD
  refine va_putF (D := D) (ci := 2) (v := .ref q_2) (ty := tyX2 0) (C := RX2) (T := TX2) (N := 2) hx hb hts hiX2 tyX2 tyX2_ok nmX2 hown hK hP hD hS 0 rfl rfl 0 (by decide) (hts (.fieldLink RX2 15 "BackwardSearch$Row" "numbers" "[I") (by decide +kernel)) (fun _ h9 => h9) rfl hin rfl (tyX2_ok 0 (by decide)) rfl rfl (Nat.le_of_ble_eq_true rfl) dX2_init_12 (fun H locs hP hD hS => ?_)
  have hP : va_P D vwCl [(h0, .inr (2, [.ref q_2, .int (iI 0)])), (q_2, .inl (cy 0, K, .inl (fun _ => iI 0)))] H := hP
  have hD : va_D A [(h0, .inr (2, [.ref q_2, .int (iI 0)])), (q_2, .inl (cy 0, K, .inl (fun _ => iI 0)))] := hD
  exact zi_vret hx hb hr hlocks hS (q_2) (show True from trivial) (hP.sub (ws' := [(h0, .inr (2, [.ref q_2, .int (iI 0)])), (q_2, .inl (cy 0, K, .inl (fun _ => iI 0)))]) [0, 1] rfl) (hD.sub (ws' := [(h0, .inr (2, [.ref q_2, .int (iI 0)])), (q_2, .inl (cy 0, K, .inl (fun _ => iI 0)))]) [0, 1] (by decide) rfl) dX2_init_15 (by first | rfl | omega) (by first | rfl | omega)
set_option maxHeartbeats 4000000 in
set_option maxRecDepth 100000 in
theorem c_X3_init (l : Launch) (D : va_G) (cy : Nat → ClassId) (h0 : Nat) : Wv l D cy yX3_init wsX3_init 2 42 6 142 [.ref h0] [(h0, .inr (3, [.null, .null, .null, .int (iI 0), .int (iI 0), .int (iI 0), .int (iI 0), .int (iI 0)]))] (fun (u : Nat × Nat × Nat × Nat × Nat × Nat) => True) (fun u : Nat × Nat × Nat × Nat × Nat × Nat => [(h0, .inr (3, [.ref u.1, .ref u.2.2.1, .ref u.2.2.2.2.1, .int (iI 1), .int (iI 1), .int (iI 0), .int (iI 0), .int (iI 0)])), (u.1, .inr (2, [.ref u.2.1, .int (iI 0)])), (u.2.1, .inl (cy 0, 60, .inl (fun _ => iI 0))), (u.2.2.1, .inr (2, [.ref u.2.2.2.1, .int (iI 0)])), (u.2.2.2.1, .inl (cy 0, 16, .inl (fun _ => iI 0))), (u.2.2.2.2.1, .inr (2, [.ref u.2.2.2.2.2, .int (iI 0)])), (u.2.2.2.2.2, .inl (cy 0, 60, .inl (fun _ => iI 0)))]) := by
  refine Wv_of (cc := cX3_init) (maxL := 1) (ret := none) (by decide) rfl rfl ?_
  intro p e s m args below meth c A hx hb hr hts hown hlocks hml hin hP hK hD hT hO hA ls hl
  have hS : va_S A s.heap s.heap [] := va_S.rf
  have hl : lv_has ls 1 [(0, .ref h0)] := hl
  have hP : va_P D vwCl [(h0, .inr (3, [.null, .null, .null, .int (iI 0), .int (iI 0), .int (iI 0), .int (iI 0), .int (iI 0)]))] s.heap := hP
  have hD : va_D A [(h0, .inr (3, [.null, .null, .null, .int (iI 0), .int (iI 0), .int (iI 0), .int (iI 0), .int (iI 0)]))] := hD
  have hiX2 : ∀ w ∈ wsX20, w ∈ wsX3_init := by decide +kernel
  have hiX3 : ∀ w ∈ wsX30, w ∈ wsX3_init := by decide +kernel
  refine lv_aload_n hx hb dX3_init_0 rfl (lv_at hl 0 rfl) ?_
  refine W.objInit hx hb hown (hts (.methodLink RX3 3 objectInit) (by decide +kernel)) (hts (.instanceMethod objectInit) (by decide +kernel)) (hts (.code objectInit ⟨#[0xb1]⟩ 1 none) (by decide +kernel)) rfl (by rw [hml]; exact hl.1) rfl dX3_init_1 (Nat.le_of_ble_eq_true rfl) (Nat.le_of_ble_eq_true rfl) ?_
  refine W.eq (g2 := F0 m 4 ls []) rfl ?_
  refine lv_aload_n hx hb dX3_init_4 rfl (lv_at hl 0 rfl) ?_
  refine va_new (ci := 2) (fs := [.null, .int (iI 0)]) (C := RX2) (T := TX2) (N := 2) hx hb hts hiX2 tyX2 tyX2_ok hown (hts (.classLink RX3 9 RX2) (by decide +kernel)) (hts (.instantiable RX2 2) (by decide +kernel)) (hts (.initialized RX2) (by decide +kernel)) hK hP hD hS hA rfl (fun j hj => by rcases (show j = 0 ∨ j = 1 by omega) with rfl | rfl <;> rfl) (by first | decide | (dsimp only; omega)) (by first | decide | (dsimp only; omega)) dX3_init_5 (fun q_1 H hP hD hS => ?_)
  have hP : va_P D vwCl [(h0, .inr (3, [.null, .null, .null, .int (iI 0), .int (iI 0), .int (iI 0), .int (iI 0), .int (iI 0)])), (q_1, .inr (2, [.null, .int (iI 0)]))] H := hP
  have hD : va_D A [(h0, .inr (3, [.null, .null, .null, .int (iI 0), .int (iI 0), .int (iI 0), .int (iI 0), .int (iI 0)])), (q_1, .inr (2, [.null, .int (iI 0)]))] := hD
  refine lv_dup hx hb dX3_init_8 rfl ?_
  refine lv_bipush (v := iI 60) hx hb dX3_init_9 (by decide +kernel) ?_
  refine zi_call (wr := [(h0, .inr (3, [.null, .null, .null, .int (iI 0), .int (iI 0), .int (iI 0), .int (iI 0), .int (iI 0)]))]) (b := q_1) (As := [.int (iI 60)]) (rest := [.ref q_1, .ref h0]) ⟨hx, hb, hml, hown, hts⟩ (c_X2_init l D cy q_1 60 (60 : Int) (by omega)) (cwI 1 hts gX3_init_X2_init rfl rfl rfl (hts (.initialized RX2) (by decide +kernel)) (hts (.methodLink RX3 11 yX2_init) (by decide +kernel)) (hts (.instanceMethod yX2_init) (by decide +kernel)) rfl (by decide +kernel) ⟨Nat.le_of_ble_eq_true rfl, Nat.le_of_ble_eq_true rfl⟩) hK hT hO hP hD hS hA [1] [0] rfl rfl rfl rfl (by decide) rfl hl.1 rfl (Nat.le_of_ble_eq_true rfl) dX3_init_11 ⟨(by first | decide | (dsimp only; omega)), (by first | decide | (dsimp only; omega))⟩ (fun u_2 H locs hw_2 hP hD hS => ?_)
  obtain ⟨a1_2, rfl⟩ : ∃ z, z = u_2 := ⟨_, rfl⟩
  have hP : va_P D vwCl [(h0, .inr (3, [.null, .null, .null, .int (iI 0), .int (iI 0), .int (iI 0), .int (iI 0), .int (iI 0)])), (q_1, .inr (2, [.ref a1_2, .int (iI 0)])), (a1_2, .inl (cy 0, 60, .inl (fun _ => iI 0)))] H := hP
  have hD : va_D A [(h0, .inr (3, [.null, .null, .null, .int (iI 0), .int (iI 0), .int (iI 0), .int (iI 0), .int (iI 0)])), (q_1, .inr (2, [.ref a1_2, .int (iI 0)])), (a1_2, .inl (cy 0, 60, .inl (fun _ => iI 0)))] := hD
  refine va_putF (D := D) (ci := 3) (v := .ref q_1) (ty := tyX3 0) (C := RX3) (T := TX3) (N := 8) hx hb hts hiX3 tyX3 tyX3_ok nmX3 hown hK hP hD hS 0 rfl rfl 0 (by decide) (hts (.fieldLink RX3 14 "BackwardSearch$State" "line" "LBackwardSearch$Row;") (by decide +kernel)) (fun _ h9 => h9) rfl hin rfl (tyX3_ok 0 (by decide)) rfl rfl (Nat.le_of_ble_eq_true rfl) dX3_init_14 (fun H locs hP hD hS => ?_)
  have hP : va_P D vwCl [(h0, .inr (3, [.ref q_1, .null, .null, .int (iI 0), .int (iI 0), .int (iI 0), .int (iI 0), .int (iI 0)])), (q_1, .inr (2, [.ref a1_2, .int (iI 0)])), (a1_2, .inl (cy 0, 60, .inl (fun _ => iI 0)))] H := hP
  have hD : va_D A [(h0, .inr (3, [.ref q_1, .null, .null, .int (iI 0), .int (iI 0), .int (iI 0), .int (iI 0), .int (iI 0)])), (q_1, .inr (2, [.ref a1_2, .int (iI 0)])), (a1_2, .inl (cy 0, 60, .inl (fun _ => iI 0)))] := hD
  refine lv_aload_n hx hb dX3_init_17 rfl (lv_at hl 0 rfl) ?_
  refine va_new (ci := 2) (fs := [.null, .int (iI 0)]) (C := RX2) (T := TX2) (N := 2) hx hb hts hiX2 tyX2 tyX2_ok hown (hts (.classLink RX3 9 RX2) (by decide +kernel)) (hts (.instantiable RX2 2) (by decide +kernel)) (hts (.initialized RX2) (by decide +kernel)) hK hP hD hS hA rfl (fun j hj => by rcases (show j = 0 ∨ j = 1 by omega) with rfl | rfl <;> rfl) (by first | decide | (dsimp only; omega)) (by first | decide | (dsimp only; omega)) dX3_init_18 (fun q_3 H hP hD hS => ?_)
  have hP : va_P D vwCl [(h0, .inr (3, [.ref q_1, .null, .null, .int (iI 0), .int (iI 0), .int (iI 0), .int (iI 0), .int (iI 0)])), (q_1, .inr (2, [.ref a1_2, .int (iI 0)])), (a1_2, .inl (cy 0, 60, .inl (fun _ => iI 0))), (q_3, .inr (2, [.null, .int (iI 0)]))] H := hP
  have hD : va_D A [(h0, .inr (3, [.ref q_1, .null, .null, .int (iI 0), .int (iI 0), .int (iI 0), .int (iI 0), .int (iI 0)])), (q_1, .inr (2, [.ref a1_2, .int (iI 0)])), (a1_2, .inl (cy 0, 60, .inl (fun _ => iI 0))), (q_3, .inr (2, [.null, .int (iI 0)]))] := hD
  refine lv_dup hx hb dX3_init_21 rfl ?_
  refine lv_bipush (v := iI 16) hx hb dX3_init_22 (by decide +kernel) ?_
  refine zi_call (wr := [(h0, .inr (3, [.ref q_1, .null, .null, .int (iI 0), .int (iI 0), .int (iI 0), .int (iI 0), .int (iI 0)])), (q_1, .inr (2, [.ref a1_2, .int (iI 0)])), (a1_2, .inl (cy 0, 60, .inl (fun _ => iI 0)))]) (b := q_3) (As := [.int (iI 16)]) (rest := [.ref q_3, .ref h0]) ⟨hx, hb, hml, hown, hts⟩ (c_X2_init l D cy q_3 16 (16 : Int) (by omega)) (cwI 1 hts gX3_init_X2_init rfl rfl rfl (hts (.initialized RX2) (by decide +kernel)) (hts (.methodLink RX3 11 yX2_init) (by decide +kernel)) (hts (.instanceMethod yX2_init) (by decide +kernel)) rfl (by decide +kernel) ⟨Nat.le_of_ble_eq_true rfl, Nat.le_of_ble_eq_true rfl⟩) hK hT hO hP hD hS hA [3] [0, 1, 2] rfl rfl rfl rfl (by decide) rfl hl.1 rfl (Nat.le_of_ble_eq_true rfl) dX3_init_24 ⟨(by first | decide | (dsimp only; omega)), (by first | decide | (dsimp only; omega))⟩ (fun u_4 H locs hw_4 hP hD hS => ?_)
  obtain ⟨a1_4, rfl⟩ : ∃ z, z = u_4 := ⟨_, rfl⟩
  have hP : va_P D vwCl [(h0, .inr (3, [.ref q_1, .null, .null, .int (iI 0), .int (iI 0), .int (iI 0), .int (iI 0), .int (iI 0)])), (q_1, .inr (2, [.ref a1_2, .int (iI 0)])), (a1_2, .inl (cy 0, 60, .inl (fun _ => iI 0))), (q_3, .inr (2, [.ref a1_4, .int (iI 0)])), (a1_4, .inl (cy 0, 16, .inl (fun _ => iI 0)))] H := hP
  have hD : va_D A [(h0, .inr (3, [.ref q_1, .null, .null, .int (iI 0), .int (iI 0), .int (iI 0), .int (iI 0), .int (iI 0)])), (q_1, .inr (2, [.ref a1_2, .int (iI 0)])), (a1_2, .inl (cy 0, 60, .inl (fun _ => iI 0))), (q_3, .inr (2, [.ref a1_4, .int (iI 0)])), (a1_4, .inl (cy 0, 16, .inl (fun _ => iI 0)))] := hD
  refine va_putF (D := D) (ci := 3) (v := .ref q_3) (ty := tyX3 1) (C := RX3) (T := TX3) (N := 8) hx hb hts hiX3 tyX3 tyX3_ok nmX3 hown hK hP hD hS 0 rfl rfl 1 (by decide) (hts (.fieldLink RX3 20 "BackwardSearch$State" "word" "LBackwardSearch$Row;") (by decide +kernel)) (fun _ h9 => h9) rfl hin rfl (tyX3_ok 1 (by decide)) rfl rfl (Nat.le_of_ble_eq_true rfl) dX3_init_27 (fun H locs hP hD hS => ?_)
  have hP : va_P D vwCl [(h0, .inr (3, [.ref q_1, .ref q_3, .null, .int (iI 0), .int (iI 0), .int (iI 0), .int (iI 0), .int (iI 0)])), (q_1, .inr (2, [.ref a1_2, .int (iI 0)])), (a1_2, .inl (cy 0, 60, .inl (fun _ => iI 0))), (q_3, .inr (2, [.ref a1_4, .int (iI 0)])), (a1_4, .inl (cy 0, 16, .inl (fun _ => iI 0)))] H := hP
  have hD : va_D A [(h0, .inr (3, [.ref q_1, .ref q_3, .null, .int (iI 0), .int (iI 0), .int (iI 0), .int (iI 0), .int (iI 0)])), (q_1, .inr (2, [.ref a1_2, .int (iI 0)])), (a1_2, .inl (cy 0, 60, .inl (fun _ => iI 0))), (q_3, .inr (2, [.ref a1_4, .int (iI 0)])), (a1_4, .inl (cy 0, 16, .inl (fun _ => iI 0)))] := hD
  refine lv_aload_n hx hb dX3_init_30 rfl (lv_at hl 0 rfl) ?_
  refine va_new (ci := 2) (fs := [.null, .int (iI 0)]) (C := RX2) (T := TX2) (N := 2) hx hb hts hiX2 tyX2 tyX2_ok hown (hts (.classLink RX3 9 RX2) (by decide +kernel)) (hts (.instantiable RX2 2) (by decide +kernel)) (hts (.initialized RX2) (by decide +kernel)) hK hP hD hS hA rfl (fun j hj => by rcases (show j = 0 ∨ j = 1 by omega) with rfl | rfl <;> rfl) (by first | decide | (dsimp only; omega)) (by first | decide | (dsimp only; omega)) dX3_init_31 (fun q_5 H hP hD hS => ?_)
  have hP : va_P D vwCl [(h0, .inr (3, [.ref q_1, .ref q_3, .null, .int (iI 0), .int (iI 0), .int (iI 0), .int (iI 0), .int (iI 0)])), (q_1, .inr (2, [.ref a1_2, .int (iI 0)])), (a1_2, .inl (cy 0, 60, .inl (fun _ => iI 0))), (q_3, .inr (2, [.ref a1_4, .int (iI 0)])), (a1_4, .inl (cy 0, 16, .inl (fun _ => iI 0))), (q_5, .inr (2, [.null, .int (iI 0)]))] H := hP
  have hD : va_D A [(h0, .inr (3, [.ref q_1, .ref q_3, .null, .int (iI 0), .int (iI 0), .int (iI 0), .int (iI 0), .int (iI 0)])), (q_1, .inr (2, [.ref a1_2, .int (iI 0)])), (a1_2, .inl (cy 0, 60, .inl (fun _ => iI 0))), (q_3, .inr (2, [.ref a1_4, .int (iI 0)])), (a1_4, .inl (cy 0, 16, .inl (fun _ => iI 0))), (q_5, .inr (2, [.null, .int (iI 0)]))] := hD
  refine lv_dup hx hb dX3_init_34 rfl ?_
  refine lv_bipush (v := iI 60) hx hb dX3_init_35 (by decide +kernel) ?_
  refine zi_call (wr := [(h0, .inr (3, [.ref q_1, .ref q_3, .null, .int (iI 0), .int (iI 0), .int (iI 0), .int (iI 0), .int (iI 0)])), (q_1, .inr (2, [.ref a1_2, .int (iI 0)])), (a1_2, .inl (cy 0, 60, .inl (fun _ => iI 0))), (q_3, .inr (2, [.ref a1_4, .int (iI 0)])), (a1_4, .inl (cy 0, 16, .inl (fun _ => iI 0)))]) (b := q_5) (As := [.int (iI 60)]) (rest := [.ref q_5, .ref h0]) ⟨hx, hb, hml, hown, hts⟩ (c_X2_init l D cy q_5 60 (60 : Int) (by omega)) (cwI 1 hts gX3_init_X2_init rfl rfl rfl (hts (.initialized RX2) (by decide +kernel)) (hts (.methodLink RX3 11 yX2_init) (by decide +kernel)) (hts (.instanceMethod yX2_init) (by decide +kernel)) rfl (by decide +kernel) ⟨Nat.le_of_ble_eq_true rfl, Nat.le_of_ble_eq_true rfl⟩) hK hT hO hP hD hS hA [5] [0, 1, 2, 3, 4] rfl rfl rfl rfl (by decide) rfl hl.1 rfl (Nat.le_of_ble_eq_true rfl) dX3_init_37 ⟨(by first | decide | (dsimp only; omega)), (by first | decide | (dsimp only; omega))⟩ (fun u_6 H locs hw_6 hP hD hS => ?_)
  obtain ⟨a1_6, rfl⟩ : ∃ z, z = u_6 := ⟨_, rfl⟩
  have hP : va_P D vwCl [(h0, .inr (3, [.ref q_1, .ref q_3, .null, .int (iI 0), .int (iI 0), .int (iI 0), .int (iI 0), .int (iI 0)])), (q_1, .inr (2, [.ref a1_2, .int (iI 0)])), (a1_2, .inl (cy 0, 60, .inl (fun _ => iI 0))), (q_3, .inr (2, [.ref a1_4, .int (iI 0)])), (a1_4, .inl (cy 0, 16, .inl (fun _ => iI 0))), (q_5, .inr (2, [.ref a1_6, .int (iI 0)])), (a1_6, .inl (cy 0, 60, .inl (fun _ => iI 0)))] H := hP
  have hD : va_D A [(h0, .inr (3, [.ref q_1, .ref q_3, .null, .int (iI 0), .int (iI 0), .int (iI 0), .int (iI 0), .int (iI 0)])), (q_1, .inr (2, [.ref a1_2, .int (iI 0)])), (a1_2, .inl (cy 0, 60, .inl (fun _ => iI 0))), (q_3, .inr (2, [.ref a1_4, .int (iI 0)])), (a1_4, .inl (cy 0, 16, .inl (fun _ => iI 0))), (q_5, .inr (2, [.ref a1_6, .int (iI 0)])), (a1_6, .inl (cy 0, 60, .inl (fun _ => iI 0)))] := hD
  refine va_putF (D := D) (ci := 3) (v := .ref q_5) (ty := tyX3 2) (C := RX3) (T := TX3) (N := 8) hx hb hts hiX3 tyX3 tyX3_ok nmX3 hown hK hP hD hS 0 rfl rfl 2 (by decide) (hts (.fieldLink RX3 23 "BackwardSearch$State" "found" "LBackwardSearch$Row;") (by decide +kernel)) (fun _ h9 => h9) rfl hin rfl (tyX3_ok 2 (by decide)) rfl rfl (Nat.le_of_ble_eq_true rfl) dX3_init_40 (fun H locs hP hD hS => ?_)
  have hP : va_P D vwCl [(h0, .inr (3, [.ref q_1, .ref q_3, .ref q_5, .int (iI 0), .int (iI 0), .int (iI 0), .int (iI 0), .int (iI 0)])), (q_1, .inr (2, [.ref a1_2, .int (iI 0)])), (a1_2, .inl (cy 0, 60, .inl (fun _ => iI 0))), (q_3, .inr (2, [.ref a1_4, .int (iI 0)])), (a1_4, .inl (cy 0, 16, .inl (fun _ => iI 0))), (q_5, .inr (2, [.ref a1_6, .int (iI 0)])), (a1_6, .inl (cy 0, 60, .inl (fun _ => iI 0)))] H := hP
  have hD : va_D A [(h0, .inr (3, [.ref q_1, .ref q_3, .ref q_5, .int (iI 0), .int (iI 0), .int (iI 0), .int (iI 0), .int (iI 0)])), (q_1, .inr (2, [.ref a1_2, .int (iI 0)])), (a1_2, .inl (cy 0, 60, .inl (fun _ => iI 0))), (q_3, .inr (2, [.ref a1_4, .int (iI 0)])), (a1_4, .inl (cy 0, 16, .inl (fun _ => iI 0))), (q_5, .inr (2, [.ref a1_6, .int (iI 0)])), (a1_6, .inl (cy 0, 60, .inl (fun _ => iI 0)))] := hD
  refine lv_aload_n hx hb dX3_init_43 rfl (lv_at hl 0 rfl) ?_
  refine lv_iconst (v := iI 1) hx hb dX3_init_44 rfl ?_
  refine va_put (D := D) (ci := 3) (v := .int (iI 1)) (ty := .boolean) (C := RX3) (T := TX3) (N := 8) hx hb hts hiX3 tyX3 tyX3_ok nmX3 hown hK hP hD hS 0 rfl rfl 3 (by decide) (hts (.fieldLink RX3 26 "BackwardSearch$State" "letterRule" "Z") (by decide +kernel)) (fun _ h9 => h9) rfl (by decide +kernel) (z_nb (by omega) (by omega)) (z_fb (by omega) (by omega)) (Nat.le_of_ble_eq_true rfl) dX3_init_45 (fun H locs hP hD hS => ?_)
  have hP : va_P D vwCl [(h0, .inr (3, [.ref q_1, .ref q_3, .ref q_5, .int (iI 1), .int (iI 0), .int (iI 0), .int (iI 0), .int (iI 0)])), (q_1, .inr (2, [.ref a1_2, .int (iI 0)])), (a1_2, .inl (cy 0, 60, .inl (fun _ => iI 0))), (q_3, .inr (2, [.ref a1_4, .int (iI 0)])), (a1_4, .inl (cy 0, 16, .inl (fun _ => iI 0))), (q_5, .inr (2, [.ref a1_6, .int (iI 0)])), (a1_6, .inl (cy 0, 60, .inl (fun _ => iI 0)))] H := hP
  have hD : va_D A [(h0, .inr (3, [.ref q_1, .ref q_3, .ref q_5, .int (iI 1), .int (iI 0), .int (iI 0), .int (iI 0), .int (iI 0)])), (q_1, .inr (2, [.ref a1_2, .int (iI 0)])), (a1_2, .inl (cy 0, 60, .inl (fun _ => iI 0))), (q_3, .inr (2, [.ref a1_4, .int (iI 0)])), (a1_4, .inl (cy 0, 16, .inl (fun _ => iI 0))), (q_5, .inr (2, [.ref a1_6, .int (iI 0)])), (a1_6, .inl (cy 0, 60, .inl (fun _ => iI 0)))] := hD
  refine lv_aload_n hx hb dX3_init_48 rfl (lv_at hl 0 rfl) ?_
  refine lv_iconst (v := iI 1) hx hb dX3_init_49 rfl ?_
  refine va_put (D := D) (ci := 3) (v := .int (iI 1)) (ty := .boolean) (C := RX3) (T := TX3) (N := 8) hx hb hts hiX3 tyX3 tyX3_ok nmX3 hown hK hP hD hS 0 rfl rfl 4 (by decide) (hts (.fieldLink RX3 30 "BackwardSearch$State" "endRule" "Z") (by decide +kernel)) (fun _ h9 => h9) rfl (by decide +kernel) (z_nb (by omega) (by omega)) (z_fb (by omega) (by omega)) (Nat.le_of_ble_eq_true rfl) dX3_init_50 (fun H locs hP hD hS => ?_)
  have hP : va_P D vwCl [(h0, .inr (3, [.ref q_1, .ref q_3, .ref q_5, .int (iI 1), .int (iI 1), .int (iI 0), .int (iI 0), .int (iI 0)])), (q_1, .inr (2, [.ref a1_2, .int (iI 0)])), (a1_2, .inl (cy 0, 60, .inl (fun _ => iI 0))), (q_3, .inr (2, [.ref a1_4, .int (iI 0)])), (a1_4, .inl (cy 0, 16, .inl (fun _ => iI 0))), (q_5, .inr (2, [.ref a1_6, .int (iI 0)])), (a1_6, .inl (cy 0, 60, .inl (fun _ => iI 0)))] H := hP
  have hD : va_D A [(h0, .inr (3, [.ref q_1, .ref q_3, .ref q_5, .int (iI 1), .int (iI 1), .int (iI 0), .int (iI 0), .int (iI 0)])), (q_1, .inr (2, [.ref a1_2, .int (iI 0)])), (a1_2, .inl (cy 0, 60, .inl (fun _ => iI 0))), (q_3, .inr (2, [.ref a1_4, .int (iI 0)])), (a1_4, .inl (cy 0, 16, .inl (fun _ => iI 0))), (q_5, .inr (2, [.ref a1_6, .int (iI 0)])), (a1_6, .inl (cy 0, 60, .inl (fun _ => iI 0)))] := hD
  exact zi_vret hx hb hr hlocks hS (q_1, a1_2, q_3, a1_4, q_5, a1_6) (show True from trivial) (hP.sub (ws' := [(h0, .inr (3, [.ref q_1, .ref q_3, .ref q_5, .int (iI 1), .int (iI 1), .int (iI 0), .int (iI 0), .int (iI 0)])), (q_1, .inr (2, [.ref a1_2, .int (iI 0)])), (a1_2, .inl (cy 0, 60, .inl (fun _ => iI 0))), (q_3, .inr (2, [.ref a1_4, .int (iI 0)])), (a1_4, .inl (cy 0, 16, .inl (fun _ => iI 0))), (q_5, .inr (2, [.ref a1_6, .int (iI 0)])), (a1_6, .inl (cy 0, 60, .inl (fun _ => iI 0)))]) [0, 1, 2, 3, 4, 5, 6] rfl) (hD.sub (ws' := [(h0, .inr (3, [.ref q_1, .ref q_3, .ref q_5, .int (iI 1), .int (iI 1), .int (iI 0), .int (iI 0), .int (iI 0)])), (q_1, .inr (2, [.ref a1_2, .int (iI 0)])), (a1_2, .inl (cy 0, 60, .inl (fun _ => iI 0))), (q_3, .inr (2, [.ref a1_4, .int (iI 0)])), (a1_4, .inl (cy 0, 16, .inl (fun _ => iI 0))), (q_5, .inr (2, [.ref a1_6, .int (iI 0)])), (a1_6, .inl (cy 0, 60, .inl (fun _ => iI 0)))]) [0, 1, 2, 3, 4, 5, 6] (by decide) rfl) dX3_init_53 (by first | rfl | omega) (by first | rfl | omega)
set_option maxHeartbeats 4000000 in
set_option maxRecDepth 100000 in
theorem c_X0_init (l : Launch) (D : va_G) (cy : Nat → ClassId) (h0 : Nat) : Wv l D cy yX0_init wsX0_init 1 12 2 34 [.ref h0] [(h0, .inr (0, [.null, .null, .int (iI 0)]))] (fun (u : Nat × Nat) => True) (fun u : Nat × Nat => [(h0, .inr (0, [.ref u.1, .ref u.2, .int (iI 0)])), (u.1, .inl (cy 0, 17, .inl (fun _ => iI 0))), (u.2, .inl (cy 0, 17, .inl (fun _ => iI 0)))]) := by
  refine Wv_of (cc := cX0_init) (maxL := 1) (ret := none) (by decide) rfl rfl ?_
  intro p e s m args below meth c A hx hb hr hts hown hlocks hml hin hP hK hD hT hO hA ls hl
  have hS : va_S A s.heap s.heap [] := va_S.rf
  have hl : lv_has ls 1 [(0, .ref h0)] := hl
  have hP : va_P D vwCl [(h0, .inr (0, [.null, .null, .int (iI 0)]))] s.heap := hP
  have hD : va_D A [(h0, .inr (0, [.null, .null, .int (iI 0)]))] := hD
  have hiX0 : ∀ w ∈ wsX00, w ∈ wsX0_init := by decide +kernel
  refine lv_aload_n hx hb dX0_init_0 rfl (lv_at hl 0 rfl) ?_
  refine W.objInit hx hb hown (hts (.methodLink RX0 3 objectInit) (by decide +kernel)) (hts (.instanceMethod objectInit) (by decide +kernel)) (hts (.code objectInit ⟨#[0xb1]⟩ 1 none) (by decide +kernel)) rfl (by rw [hml]; exact hl.1) rfl dX0_init_1 (Nat.le_of_ble_eq_true rfl) (Nat.le_of_ble_eq_true rfl) ?_
  refine W.eq (g2 := F0 m 4 ls []) rfl ?_
  refine lv_aload_n hx hb dX0_init_4 rfl (lv_at hl 0 rfl) ?_
  refine lv_bipush (v := iI 17) hx hb dX0_init_5 (by decide +kernel) ?_
  refine zi_newi hx hb (hts (.arrayClass .int) (by decide +kernel)) hK hP hD hS hA (z := 17) 17 (by omega) (by omega) (by first | decide | (dsimp only; omega)) (by first | decide | (dsimp only; omega)) dX0_init_7 (fun q_1 H hP hD hS => ?_)
  have hP : va_P D vwCl [(h0, .inr (0, [.null, .null, .int (iI 0)])), (q_1, .inl (cy 0, 17, .inl (fun _ => iI 0)))] H := hP
  have hD : va_D A [(h0, .inr (0, [.null, .null, .int (iI 0)])), (q_1, .inl (cy 0, 17, .inl (fun _ => iI 0)))] := hD
  refine va_putF (D := D) (ci := 0) (v := .ref q_1) (ty := tyX0 0) (C := RX0) (T := TX0) (N := 3) hx hb hts hiX0 tyX0 tyX0_ok nmX0 hown hK hP hD hS 0 rfl rfl 0 (by decide) (hts (.fieldLink RX0 9 "BackwardSearch$Ends" "borderOf" "[I") (by decide +kernel)) (fun _ h9 => h9) rfl hin rfl (tyX0_ok 0 (by decide)) rfl rfl (Nat.le_of_ble_eq_true rfl) dX0_init_9 (fun H locs hP hD hS => ?_)
  have hP : va_P D vwCl [(h0, .inr (0, [.ref q_1, .null, .int (iI 0)])), (q_1, .inl (cy 0, 17, .inl (fun _ => iI 0)))] H := hP
  have hD : va_D A [(h0, .inr (0, [.ref q_1, .null, .int (iI 0)])), (q_1, .inl (cy 0, 17, .inl (fun _ => iI 0)))] := hD
  refine lv_aload_n hx hb dX0_init_12 rfl (lv_at hl 0 rfl) ?_
  refine lv_bipush (v := iI 17) hx hb dX0_init_13 (by decide +kernel) ?_
  refine zi_newi hx hb (hts (.arrayClass .int) (by decide +kernel)) hK hP hD hS hA (z := 17) 17 (by omega) (by omega) (by first | decide | (dsimp only; omega)) (by first | decide | (dsimp only; omega)) dX0_init_15 (fun q_2 H hP hD hS => ?_)
  have hP : va_P D vwCl [(h0, .inr (0, [.ref q_1, .null, .int (iI 0)])), (q_1, .inl (cy 0, 17, .inl (fun _ => iI 0))), (q_2, .inl (cy 0, 17, .inl (fun _ => iI 0)))] H := hP
  have hD : va_D A [(h0, .inr (0, [.ref q_1, .null, .int (iI 0)])), (q_1, .inl (cy 0, 17, .inl (fun _ => iI 0))), (q_2, .inl (cy 0, 17, .inl (fun _ => iI 0)))] := hD
  refine va_putF (D := D) (ci := 0) (v := .ref q_2) (ty := tyX0 1) (C := RX0) (T := TX0) (N := 3) hx hb hts hiX0 tyX0 tyX0_ok nmX0 hown hK hP hD hS 0 rfl rfl 1 (by decide) (hts (.fieldLink RX0 15 "BackwardSearch$Ends" "skipOf" "[I") (by decide +kernel)) (fun _ h9 => h9) rfl hin rfl (tyX0_ok 1 (by decide)) rfl rfl (Nat.le_of_ble_eq_true rfl) dX0_init_17 (fun H locs hP hD hS => ?_)
  have hP : va_P D vwCl [(h0, .inr (0, [.ref q_1, .ref q_2, .int (iI 0)])), (q_1, .inl (cy 0, 17, .inl (fun _ => iI 0))), (q_2, .inl (cy 0, 17, .inl (fun _ => iI 0)))] H := hP
  have hD : va_D A [(h0, .inr (0, [.ref q_1, .ref q_2, .int (iI 0)])), (q_1, .inl (cy 0, 17, .inl (fun _ => iI 0))), (q_2, .inl (cy 0, 17, .inl (fun _ => iI 0)))] := hD
  exact zi_vret hx hb hr hlocks hS (q_1, q_2) (show True from trivial) (hP.sub (ws' := [(h0, .inr (0, [.ref q_1, .ref q_2, .int (iI 0)])), (q_1, .inl (cy 0, 17, .inl (fun _ => iI 0))), (q_2, .inl (cy 0, 17, .inl (fun _ => iI 0)))]) [0, 1, 2] rfl) (hD.sub (ws' := [(h0, .inr (0, [.ref q_1, .ref q_2, .int (iI 0)])), (q_1, .inl (cy 0, 17, .inl (fun _ => iI 0))), (q_2, .inl (cy 0, 17, .inl (fun _ => iI 0)))]) [0, 1, 2] (by decide) rfl) dX0_init_20 (by first | rfl | omega) (by first | rfl | omega)
set_option maxHeartbeats 4000000 in
set_option maxRecDepth 100000 in
theorem c_X5_init (l : Launch) (D : va_G) (cy : Nat → ClassId) (m0 : Nat) : Wv l D cy yX5_init wsX5_init 1 12 5 1378 [.ref m0] [(m0, .inr (5, [.null, .null, .int (iI 0), .null, .null, .int (iI 0), .null, .int (iI 0)]))] (fun (u : Nat × Nat × Nat × Nat × Nat) => True) (fun u : Nat × Nat × Nat × Nat × Nat => [(m0, .inr (5, [.ref u.1, .ref u.2.1, .int (iI 0), .ref u.2.2.1, .ref u.2.2.2.1, .int (iI 0), .ref u.2.2.2.2, .int (iI 0)])), (u.1, .inl (cy 0, 144, .inl (upd (upd (fun _ => iI 0) (78 : Int).toNat (iI 1)) (79 : Int).toNat (iI 1)))), (u.2.1, .inl (cy 0, 864, .inl (fun _ => iI 0))), (u.2.2.1, .inl (cy 0, 288, .inl (fun _ => iI 0))), (u.2.2.2.1, .inl (cy 0, 2, .inl (fun _ => iI 0))), (u.2.2.2.2, .inl (cy 0, 80, .inl (fun _ => iI 0)))]) := by
  refine Wv_of (cc := cX5_init) (maxL := 1) (ret := none) (by decide) rfl rfl ?_
  intro p e s m args below meth c A hx hb hr hts hown hlocks hml hin hP hK hD hT hO hA ls hl
  have hS : va_S A s.heap s.heap [] := va_S.rf
  have hl : lv_has ls 1 [(0, .ref m0)] := hl
  have hP : va_P D vwCl [(m0, .inr (5, [.null, .null, .int (iI 0), .null, .null, .int (iI 0), .null, .int (iI 0)]))] s.heap := hP
  have hD : va_D A [(m0, .inr (5, [.null, .null, .int (iI 0), .null, .null, .int (iI 0), .null, .int (iI 0)]))] := hD
  have hiX5 : ∀ w ∈ wsX50, w ∈ wsX5_init := by decide +kernel
  refine lv_aload_n hx hb dX5_init_0 rfl (lv_at hl 0 rfl) ?_
  refine W.objInit hx hb hown (hts (.methodLink RX5 1 objectInit) (by decide +kernel)) (hts (.instanceMethod objectInit) (by decide +kernel)) (hts (.code objectInit ⟨#[0xb1]⟩ 1 none) (by decide +kernel)) rfl (by rw [hml]; exact hl.1) rfl dX5_init_1 (Nat.le_of_ble_eq_true rfl) (Nat.le_of_ble_eq_true rfl) ?_
  refine W.eq (g2 := F0 m 4 ls []) rfl ?_
  refine lv_aload_n hx hb dX5_init_4 rfl (lv_at hl 0 rfl) ?_
  refine lv_sipush (v := iI 144) hx hb dX5_init_5 (by decide +kernel) ?_
  refine zi_newi hx hb (hts (.arrayClass .int) (by decide +kernel)) hK hP hD hS hA (z := 144) 144 (by omega) (by omega) (by first | decide | (dsimp only; omega)) (by first | decide | (dsimp only; omega)) dX5_init_8 (fun q_1 H hP hD hS => ?_)
  have hP : va_P D vwCl [(m0, .inr (5, [.null, .null, .int (iI 0), .null, .null, .int (iI 0), .null, .int (iI 0)])), (q_1, .inl (cy 0, 144, .inl (fun _ => iI 0)))] H := hP
  have hD : va_D A [(m0, .inr (5, [.null, .null, .int (iI 0), .null, .null, .int (iI 0), .null, .int (iI 0)])), (q_1, .inl (cy 0, 144, .inl (fun _ => iI 0)))] := hD
  refine va_putF (D := D) (ci := 5) (v := .ref q_1) (ty := tyX5 0) (C := RX5) (T := TX5) (N := 8) hx hb hts hiX5 tyX5 tyX5_ok nmX5 hown hK hP hD hS 0 rfl rfl 0 (by decide) (hts (.fieldLink RX5 7 "BackwardSearchModel" "all" "[I") (by decide +kernel)) (fun _ h9 => h9) rfl hin rfl (tyX5_ok 0 (by decide)) rfl rfl (Nat.le_of_ble_eq_true rfl) dX5_init_10 (fun H locs hP hD hS => ?_)
  have hP : va_P D vwCl [(m0, .inr (5, [.ref q_1, .null, .int (iI 0), .null, .null, .int (iI 0), .null, .int (iI 0)])), (q_1, .inl (cy 0, 144, .inl (fun _ => iI 0)))] H := hP
  have hD : va_D A [(m0, .inr (5, [.ref q_1, .null, .int (iI 0), .null, .null, .int (iI 0), .null, .int (iI 0)])), (q_1, .inl (cy 0, 144, .inl (fun _ => iI 0)))] := hD
  refine lv_aload_n hx hb dX5_init_13 rfl (lv_at hl 0 rfl) ?_
  refine lv_sipush (v := iI 864) hx hb dX5_init_14 (by decide +kernel) ?_
  refine zi_newi hx hb (hts (.arrayClass .int) (by decide +kernel)) hK hP hD hS hA (z := 864) 864 (by omega) (by omega) (by first | decide | (dsimp only; omega)) (by first | decide | (dsimp only; omega)) dX5_init_17 (fun q_2 H hP hD hS => ?_)
  have hP : va_P D vwCl [(m0, .inr (5, [.ref q_1, .null, .int (iI 0), .null, .null, .int (iI 0), .null, .int (iI 0)])), (q_1, .inl (cy 0, 144, .inl (fun _ => iI 0))), (q_2, .inl (cy 0, 864, .inl (fun _ => iI 0)))] H := hP
  have hD : va_D A [(m0, .inr (5, [.ref q_1, .null, .int (iI 0), .null, .null, .int (iI 0), .null, .int (iI 0)])), (q_1, .inl (cy 0, 144, .inl (fun _ => iI 0))), (q_2, .inl (cy 0, 864, .inl (fun _ => iI 0)))] := hD
  refine va_putF (D := D) (ci := 5) (v := .ref q_2) (ty := tyX5 1) (C := RX5) (T := TX5) (N := 8) hx hb hts hiX5 tyX5 tyX5_ok nmX5 hown hK hP hD hS 0 rfl rfl 1 (by decide) (hts (.fieldLink RX5 13 "BackwardSearchModel" "history" "[I") (by decide +kernel)) (fun _ h9 => h9) rfl hin rfl (tyX5_ok 1 (by decide)) rfl rfl (Nat.le_of_ble_eq_true rfl) dX5_init_19 (fun H locs hP hD hS => ?_)
  have hP : va_P D vwCl [(m0, .inr (5, [.ref q_1, .ref q_2, .int (iI 0), .null, .null, .int (iI 0), .null, .int (iI 0)])), (q_1, .inl (cy 0, 144, .inl (fun _ => iI 0))), (q_2, .inl (cy 0, 864, .inl (fun _ => iI 0)))] H := hP
  have hD : va_D A [(m0, .inr (5, [.ref q_1, .ref q_2, .int (iI 0), .null, .null, .int (iI 0), .null, .int (iI 0)])), (q_1, .inl (cy 0, 144, .inl (fun _ => iI 0))), (q_2, .inl (cy 0, 864, .inl (fun _ => iI 0)))] := hD
  refine lv_aload_n hx hb dX5_init_22 rfl (lv_at hl 0 rfl) ?_
  refine lv_sipush (v := iI 288) hx hb dX5_init_23 (by decide +kernel) ?_
  refine zi_newi hx hb (hts (.arrayClass .int) (by decide +kernel)) hK hP hD hS hA (z := 288) 288 (by omega) (by omega) (by first | decide | (dsimp only; omega)) (by first | decide | (dsimp only; omega)) dX5_init_26 (fun q_3 H hP hD hS => ?_)
  have hP : va_P D vwCl [(m0, .inr (5, [.ref q_1, .ref q_2, .int (iI 0), .null, .null, .int (iI 0), .null, .int (iI 0)])), (q_1, .inl (cy 0, 144, .inl (fun _ => iI 0))), (q_2, .inl (cy 0, 864, .inl (fun _ => iI 0))), (q_3, .inl (cy 0, 288, .inl (fun _ => iI 0)))] H := hP
  have hD : va_D A [(m0, .inr (5, [.ref q_1, .ref q_2, .int (iI 0), .null, .null, .int (iI 0), .null, .int (iI 0)])), (q_1, .inl (cy 0, 144, .inl (fun _ => iI 0))), (q_2, .inl (cy 0, 864, .inl (fun _ => iI 0))), (q_3, .inl (cy 0, 288, .inl (fun _ => iI 0)))] := hD
  refine va_putF (D := D) (ci := 5) (v := .ref q_3) (ty := tyX5 3) (C := RX5) (T := TX5) (N := 8) hx hb hts hiX5 tyX5 tyX5_ok nmX5 hown hK hP hD hS 0 rfl rfl 3 (by decide) (hts (.fieldLink RX5 16 "BackwardSearchModel" "slots" "[I") (by decide +kernel)) (fun _ h9 => h9) rfl hin rfl (tyX5_ok 3 (by decide)) rfl rfl (Nat.le_of_ble_eq_true rfl) dX5_init_28 (fun H locs hP hD hS => ?_)
  have hP : va_P D vwCl [(m0, .inr (5, [.ref q_1, .ref q_2, .int (iI 0), .ref q_3, .null, .int (iI 0), .null, .int (iI 0)])), (q_1, .inl (cy 0, 144, .inl (fun _ => iI 0))), (q_2, .inl (cy 0, 864, .inl (fun _ => iI 0))), (q_3, .inl (cy 0, 288, .inl (fun _ => iI 0)))] H := hP
  have hD : va_D A [(m0, .inr (5, [.ref q_1, .ref q_2, .int (iI 0), .ref q_3, .null, .int (iI 0), .null, .int (iI 0)])), (q_1, .inl (cy 0, 144, .inl (fun _ => iI 0))), (q_2, .inl (cy 0, 864, .inl (fun _ => iI 0))), (q_3, .inl (cy 0, 288, .inl (fun _ => iI 0)))] := hD
  refine lv_aload_n hx hb dX5_init_31 rfl (lv_at hl 0 rfl) ?_
  refine lv_iconst (v := iI 2) hx hb dX5_init_32 rfl ?_
  refine zi_newi hx hb (hts (.arrayClass .int) (by decide +kernel)) hK hP hD hS hA (z := 2) 2 (by omega) (by omega) (by first | decide | (dsimp only; omega)) (by first | decide | (dsimp only; omega)) dX5_init_33 (fun q_4 H hP hD hS => ?_)
  have hP : va_P D vwCl [(m0, .inr (5, [.ref q_1, .ref q_2, .int (iI 0), .ref q_3, .null, .int (iI 0), .null, .int (iI 0)])), (q_1, .inl (cy 0, 144, .inl (fun _ => iI 0))), (q_2, .inl (cy 0, 864, .inl (fun _ => iI 0))), (q_3, .inl (cy 0, 288, .inl (fun _ => iI 0))), (q_4, .inl (cy 0, 2, .inl (fun _ => iI 0)))] H := hP
  have hD : va_D A [(m0, .inr (5, [.ref q_1, .ref q_2, .int (iI 0), .ref q_3, .null, .int (iI 0), .null, .int (iI 0)])), (q_1, .inl (cy 0, 144, .inl (fun _ => iI 0))), (q_2, .inl (cy 0, 864, .inl (fun _ => iI 0))), (q_3, .inl (cy 0, 288, .inl (fun _ => iI 0))), (q_4, .inl (cy 0, 2, .inl (fun _ => iI 0)))] := hD
  refine va_putF (D := D) (ci := 5) (v := .ref q_4) (ty := tyX5 4) (C := RX5) (T := TX5) (N := 8) hx hb hts hiX5 tyX5 tyX5_ok nmX5 hown hK hP hD hS 0 rfl rfl 4 (by decide) (hts (.fieldLink RX5 19 "BackwardSearchModel" "isSaved" "[I") (by decide +kernel)) (fun _ h9 => h9) rfl hin rfl (tyX5_ok 4 (by decide)) rfl rfl (Nat.le_of_ble_eq_true rfl) dX5_init_35 (fun H locs hP hD hS => ?_)
  have hP : va_P D vwCl [(m0, .inr (5, [.ref q_1, .ref q_2, .int (iI 0), .ref q_3, .ref q_4, .int (iI 0), .null, .int (iI 0)])), (q_1, .inl (cy 0, 144, .inl (fun _ => iI 0))), (q_2, .inl (cy 0, 864, .inl (fun _ => iI 0))), (q_3, .inl (cy 0, 288, .inl (fun _ => iI 0))), (q_4, .inl (cy 0, 2, .inl (fun _ => iI 0)))] H := hP
  have hD : va_D A [(m0, .inr (5, [.ref q_1, .ref q_2, .int (iI 0), .ref q_3, .ref q_4, .int (iI 0), .null, .int (iI 0)])), (q_1, .inl (cy 0, 144, .inl (fun _ => iI 0))), (q_2, .inl (cy 0, 864, .inl (fun _ => iI 0))), (q_3, .inl (cy 0, 288, .inl (fun _ => iI 0))), (q_4, .inl (cy 0, 2, .inl (fun _ => iI 0)))] := hD
  refine lv_aload_n hx hb dX5_init_38 rfl (lv_at hl 0 rfl) ?_
  refine lv_bipush (v := iI 80) hx hb dX5_init_39 (by decide +kernel) ?_
  refine zi_newi hx hb (hts (.arrayClass .int) (by decide +kernel)) hK hP hD hS hA (z := 80) 80 (by omega) (by omega) (by first | decide | (dsimp only; omega)) (by first | decide | (dsimp only; omega)) dX5_init_41 (fun q_5 H hP hD hS => ?_)
  have hP : va_P D vwCl [(m0, .inr (5, [.ref q_1, .ref q_2, .int (iI 0), .ref q_3, .ref q_4, .int (iI 0), .null, .int (iI 0)])), (q_1, .inl (cy 0, 144, .inl (fun _ => iI 0))), (q_2, .inl (cy 0, 864, .inl (fun _ => iI 0))), (q_3, .inl (cy 0, 288, .inl (fun _ => iI 0))), (q_4, .inl (cy 0, 2, .inl (fun _ => iI 0))), (q_5, .inl (cy 0, 80, .inl (fun _ => iI 0)))] H := hP
  have hD : va_D A [(m0, .inr (5, [.ref q_1, .ref q_2, .int (iI 0), .ref q_3, .ref q_4, .int (iI 0), .null, .int (iI 0)])), (q_1, .inl (cy 0, 144, .inl (fun _ => iI 0))), (q_2, .inl (cy 0, 864, .inl (fun _ => iI 0))), (q_3, .inl (cy 0, 288, .inl (fun _ => iI 0))), (q_4, .inl (cy 0, 2, .inl (fun _ => iI 0))), (q_5, .inl (cy 0, 80, .inl (fun _ => iI 0)))] := hD
  refine va_putF (D := D) (ci := 5) (v := .ref q_5) (ty := tyX5 6) (C := RX5) (T := TX5) (N := 8) hx hb hts hiX5 tyX5 tyX5_ok nmX5 hown hK hP hD hS 0 rfl rfl 6 (by decide) (hts (.fieldLink RX5 22 "BackwardSearchModel" "text" "[I") (by decide +kernel)) (fun _ h9 => h9) rfl hin rfl (tyX5_ok 6 (by decide)) rfl rfl (Nat.le_of_ble_eq_true rfl) dX5_init_43 (fun H locs hP hD hS => ?_)
  have hP : va_P D vwCl [(m0, .inr (5, [.ref q_1, .ref q_2, .int (iI 0), .ref q_3, .ref q_4, .int (iI 0), .ref q_5, .int (iI 0)])), (q_1, .inl (cy 0, 144, .inl (fun _ => iI 0))), (q_2, .inl (cy 0, 864, .inl (fun _ => iI 0))), (q_3, .inl (cy 0, 288, .inl (fun _ => iI 0))), (q_4, .inl (cy 0, 2, .inl (fun _ => iI 0))), (q_5, .inl (cy 0, 80, .inl (fun _ => iI 0)))] H := hP
  have hD : va_D A [(m0, .inr (5, [.ref q_1, .ref q_2, .int (iI 0), .ref q_3, .ref q_4, .int (iI 0), .ref q_5, .int (iI 0)])), (q_1, .inl (cy 0, 144, .inl (fun _ => iI 0))), (q_2, .inl (cy 0, 864, .inl (fun _ => iI 0))), (q_3, .inl (cy 0, 288, .inl (fun _ => iI 0))), (q_4, .inl (cy 0, 2, .inl (fun _ => iI 0))), (q_5, .inl (cy 0, 80, .inl (fun _ => iI 0)))] := hD
  refine lv_aload_n hx hb dX5_init_46 rfl (lv_at hl 0 rfl) ?_
  refine va_get (D := D) (ci := 5) (v := .ref q_1) (C := RX5) (T := TX5) (N := 8) hx hb hts hiX5 hown hK hP 0 rfl rfl 0 (by decide) (hts (.fieldLink RX5 7 "BackwardSearchModel" "all" "[I") (by decide +kernel)) (fun _ h9 => h9) rfl dX5_init_47 ?_
  refine lv_bipush (v := iI 78) hx hb dX5_init_50 (by decide +kernel) ?_
  refine lv_iconst (v := iI 1) hx hb dX5_init_52 rfl ?_
  refine z_iast hx hb hK hP hD hS 1 rfl (by omega) (by omega) (by omega) dX5_init_53 (fun H locs hP hD hS => ?_)
  have hP : va_P D vwCl [(m0, .inr (5, [.ref q_1, .ref q_2, .int (iI 0), .ref q_3, .ref q_4, .int (iI 0), .ref q_5, .int (iI 0)])), (q_1, .inl (cy 0, 144, .inl (upd (fun _ => iI 0) ((78 : Int).toNat) (iI 1)))), (q_2, .inl (cy 0, 864, .inl (fun _ => iI 0))), (q_3, .inl (cy 0, 288, .inl (fun _ => iI 0))), (q_4, .inl (cy 0, 2, .inl (fun _ => iI 0))), (q_5, .inl (cy 0, 80, .inl (fun _ => iI 0)))] H := hP
  have hD : va_D A [(m0, .inr (5, [.ref q_1, .ref q_2, .int (iI 0), .ref q_3, .ref q_4, .int (iI 0), .ref q_5, .int (iI 0)])), (q_1, .inl (cy 0, 144, .inl (upd (fun _ => iI 0) ((78 : Int).toNat) (iI 1)))), (q_2, .inl (cy 0, 864, .inl (fun _ => iI 0))), (q_3, .inl (cy 0, 288, .inl (fun _ => iI 0))), (q_4, .inl (cy 0, 2, .inl (fun _ => iI 0))), (q_5, .inl (cy 0, 80, .inl (fun _ => iI 0)))] := hD
  refine lv_aload_n hx hb dX5_init_54 rfl (lv_at hl 0 rfl) ?_
  refine va_get (D := D) (ci := 5) (v := .ref q_1) (C := RX5) (T := TX5) (N := 8) hx hb hts hiX5 hown hK hP 0 rfl rfl 0 (by decide) (hts (.fieldLink RX5 7 "BackwardSearchModel" "all" "[I") (by decide +kernel)) (fun _ h9 => h9) rfl dX5_init_55 ?_
  refine lv_bipush (v := iI 79) hx hb dX5_init_58 (by decide +kernel) ?_
  refine lv_iconst (v := iI 1) hx hb dX5_init_60 rfl ?_
  refine z_iast hx hb hK hP hD hS 1 rfl (by omega) (by omega) (by omega) dX5_init_61 (fun H locs hP hD hS => ?_)
  have hP : va_P D vwCl [(m0, .inr (5, [.ref q_1, .ref q_2, .int (iI 0), .ref q_3, .ref q_4, .int (iI 0), .ref q_5, .int (iI 0)])), (q_1, .inl (cy 0, 144, .inl (upd (upd (fun _ => iI 0) ((78 : Int).toNat) (iI 1)) ((79 : Int).toNat) (iI 1)))), (q_2, .inl (cy 0, 864, .inl (fun _ => iI 0))), (q_3, .inl (cy 0, 288, .inl (fun _ => iI 0))), (q_4, .inl (cy 0, 2, .inl (fun _ => iI 0))), (q_5, .inl (cy 0, 80, .inl (fun _ => iI 0)))] H := hP
  have hD : va_D A [(m0, .inr (5, [.ref q_1, .ref q_2, .int (iI 0), .ref q_3, .ref q_4, .int (iI 0), .ref q_5, .int (iI 0)])), (q_1, .inl (cy 0, 144, .inl (upd (upd (fun _ => iI 0) ((78 : Int).toNat) (iI 1)) ((79 : Int).toNat) (iI 1)))), (q_2, .inl (cy 0, 864, .inl (fun _ => iI 0))), (q_3, .inl (cy 0, 288, .inl (fun _ => iI 0))), (q_4, .inl (cy 0, 2, .inl (fun _ => iI 0))), (q_5, .inl (cy 0, 80, .inl (fun _ => iI 0)))] := hD
  exact zi_vret hx hb hr hlocks hS (q_1, q_2, q_3, q_4, q_5) (show True from trivial) (hP.sub (ws' := [(m0, .inr (5, [.ref q_1, .ref q_2, .int (iI 0), .ref q_3, .ref q_4, .int (iI 0), .ref q_5, .int (iI 0)])), (q_1, .inl (cy 0, 144, .inl (upd (upd (fun _ => iI 0) (78 : Int).toNat (iI 1)) (79 : Int).toNat (iI 1)))), (q_2, .inl (cy 0, 864, .inl (fun _ => iI 0))), (q_3, .inl (cy 0, 288, .inl (fun _ => iI 0))), (q_4, .inl (cy 0, 2, .inl (fun _ => iI 0))), (q_5, .inl (cy 0, 80, .inl (fun _ => iI 0)))]) [0, 1, 2, 3, 4, 5] rfl) (hD.sub (ws' := [(m0, .inr (5, [.ref q_1, .ref q_2, .int (iI 0), .ref q_3, .ref q_4, .int (iI 0), .ref q_5, .int (iI 0)])), (q_1, .inl (cy 0, 144, .inl (upd (upd (fun _ => iI 0) (78 : Int).toNat (iI 1)) (79 : Int).toNat (iI 1)))), (q_2, .inl (cy 0, 864, .inl (fun _ => iI 0))), (q_3, .inl (cy 0, 288, .inl (fun _ => iI 0))), (q_4, .inl (cy 0, 2, .inl (fun _ => iI 0))), (q_5, .inl (cy 0, 80, .inl (fun _ => iI 0)))]) [0, 1, 2, 3, 4, 5] (by decide) rfl) dX5_init_62 (by first | rfl | omega) (by first | rfl | omega)
