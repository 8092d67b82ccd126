theorem dX2_init_0 : decode cX2_init 0 = .ok (.aload_n 0, 1) := by decide +kernel
theorem dX2_init_1 : decode cX2_init 1 = .ok (.invokespecial 3, 3) := by decide +kernel
theorem dX2_init_4 : decode cX2_init 4 = .ok (.aload_n 0, 1) := by decide +kernel
theorem dX2_init_5 : decode cX2_init 5 = .ok (.iload_n 1, 1) := by decide +kernel
theorem dX2_init_6 : decode cX2_init 6 = .ok (.iconst 0, 1) := by decide +kernel
theorem dX2_init_7 : decode cX2_init 7 = .ok (.invokestatic 9, 3) := by decide +kernel
theorem dX2_init_10 : decode cX2_init 10 = .ok (.newarray .int, 2) := by decide +kernel
theorem dX2_init_12 : decode cX2_init 12 = .ok (.putfield 15, 3) := by decide +kernel
theorem dX2_init_15 : decode cX2_init 15 = .ok (.return_, 1) := by decide +kernel
set_option maxHeartbeats 4000000 in
set_option maxRecDepth 100000 in
theorem c_X2_init (l : Launch) (D : va_G) (cy : Nat → ClassId) (h0 : Nat) (K : Nat) (x : Int) (hK8 : x = (K : Int) ∧ K ≤ 1000) : Wv l D cy yX2_init wsX2_init 1 21 1 K [.ref h0, .int (iI x)] [(h0, .inr (2, [.null, .int (iI 0)]))] (fun (u : Nat) => True) (fun u : Nat => [(h0, .inr (2, [.ref u, .int (iI 0)])), (u, .inl (cy 0, K, .inl (fun _ => iI 0)))]) := by
  refine Wv_of (cc := cX2_init) (maxL := 2) (ret := none) (by decide) rfl rfl ?_
  intro p e s m args below meth c A hx hb hr hts hown hlocks hml hin hP hK hD hT hO hA ls hl
  have hS : va_S A s.heap s.heap [] := va_S.rf
  have hl : lv_has ls 2 [(0, .ref h0), (1, .int (iI x))] := hl
  have hP : va_P D vwCl [(h0, .inr (2, [.null, .int (iI 0)]))] s.heap := hP
  have hD : va_D A [(h0, .inr (2, [.null, .int (iI 0)]))] := hD
  have hiX2 : ∀ w ∈ wsX20, w ∈ wsX2_init := by decide +kernel
  refine lv_aload_n hx hb dX2_init_0 rfl (lv_at hl 0 rfl) ?_
  refine W.objInit hx hb hown (hts (.methodLink RX2 3 objectInit) (by decide +kernel)) (hts (.instanceMethod objectInit) (by decide +kernel)) (hts (.code objectInit ⟨#[0xb1]⟩ 1 none) (by decide +kernel)) rfl (by rw [hml]; exact hl.1) rfl dX2_init_1 (Nat.le_of_ble_eq_true rfl) (Nat.le_of_ble_eq_true rfl) ?_
  refine W.eq (g2 := F0 m 4 ls []) rfl ?_
  refine lv_aload_n hx hb dX2_init_4 rfl (lv_at hl 0 rfl) ?_
  refine lv_iload_n hx hb dX2_init_5 rfl (lv_at hl 1 rfl) ?_
  refine lv_iconst (v := iI 0) hx hb dX2_init_6 rfl ?_
  refine z_mmax (hml := hml.trans hl.1.symm) hx hb hown (hts (.methodLink RX2 9 Lib.Math.max.name) (by decide +kernel)) (hts (.static Lib.Math.max.name) (by decide +kernel)) (hts (.initialized "java/lang/Math") (by decide +kernel)) (hts (.code Lib.Math.max.name Lib.Math.max.code 2 (some .int)) (by decide +kernel)) (Nat.le_of_ble_eq_true rfl) (Nat.le_of_ble_eq_true rfl) (Nat.zero_le _) (Nat.zero_le _) (by omega) (by omega) (by omega) (by omega) dX2_init_7 (fun z_1 e_1 => ?_)
  refine zi_newi hx hb (hts (.arrayClass .int) (by decide +kernel)) hK hP hD hS hA (z := z_1) K (by omega) (by omega) (by first | decide | (dsimp only; omega)) (by first | decide | (dsimp only; omega)) dX2_init_10 (fun q_2 H hP hD hS => ?_)
  have hP : va_P D vwCl [(h0, .inr (2, [.null, .int (iI 0)])), (q_2, .inl (cy 0, K, .inl (fun _ => iI 0)))] H := hP
  have hD : va_D A [(h0, .inr (2, [.null, .int (iI 0)])), (q_2, .inl (cy 0, K, .inl (fun _ => iI 0)))] := hD
  refine va_putF (D := D) (ci := 2) (v := .ref q_2) (ty := tyX2 0) (C := RX2) (T := TX2) (N := 2) hx hb hts hiX2 tyX2 tyX2_ok nmX2 hown hK hP hD hS 0 rfl rfl 0 (by decide) (hts (.fieldLink RX2 15 "BackwardSearch$Row" "numbers" "[I") (by decide +kernel)) (fun _ h9 => h9) rfl hin rfl (tyX2_ok 0 (by decide)) rfl rfl (Nat.le_of_ble_eq_true rfl) dX2_init_12 (fun H locs hP hD hS => ?_)
  have hP : va_P D vwCl [(h0, .inr (2, [.ref q_2, .int (iI 0)])), (q_2, .inl (cy 0, K, .inl (fun _ => iI 0)))] H := hP
  have hD : va_D A [(h0, .inr (2, [.ref q_2, .int (iI 0)])), (q_2, .inl (cy 0, K, .inl (fun _ => iI 0)))] := hD
  exact zi_vret hx hb hr hlocks hS (q_2) (show True from trivial) (hP.sub (ws' := [(h0, .inr (2, [.ref q_2, .int (iI 0)])), (q_2, .inl (cy 0, K, .inl (fun _ => iI 0)))]) [0, 1] rfl) (hD.sub (ws' := [(h0, .inr (2, [.ref q_2, .int (iI 0)])), (q_2, .inl (cy 0, K, .inl (fun _ => iI 0)))]) [0, 1] (by decide) rfl) dX2_init_15 (by first | rfl | omega) (by first | rfl | omega)
