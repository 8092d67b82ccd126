theorem dX2_size_0 : decode cX2_size 0 = .ok (.aload_n 0, 1) := by decide +kernel
theorem dX2_size_1 : decode cX2_size 1 = .ok (.getfield 21, 3) := by decide +kernel
theorem dX2_size_4 : decode cX2_size 4 = .ok (.ireturn, 1) := by decide +kernel
theorem dX2_isEmpty_0 : decode cX2_isEmpty 0 = .ok (.aload_n 0, 1) := by decide +kernel
theorem dX2_isEmpty_1 : decode cX2_isEmpty 1 = .ok (.getfield 21, 3) := by decide +kernel
theorem dX2_isEmpty_4 : decode cX2_isEmpty 4 = .ok (.ifCond .ne 7, 3) := by decide +kernel
theorem dX2_isEmpty_7 : decode cX2_isEmpty 7 = .ok (.iconst 1, 1) := by decide +kernel
theorem dX2_isEmpty_8 : decode cX2_isEmpty 8 = .ok (.goto 4, 3) := by decide +kernel
theorem dX2_isEmpty_11 : decode cX2_isEmpty 11 = .ok (.iconst 0, 1) := by decide +kernel
theorem dX2_isEmpty_12 : decode cX2_isEmpty 12 = .ok (.ireturn, 1) := by decide +kernel
theorem dX2_has_0 : decode cX2_has 0 = .ok (.iload_n 1, 1) := by decide +kernel
theorem dX2_has_1 : decode cX2_has 1 = .ok (.ifCond .lt 15, 3) := by decide +kernel
theorem dX2_has_4 : decode cX2_has 4 = .ok (.iload_n 1, 1) := by decide +kernel
theorem dX2_has_5 : decode cX2_has 5 = .ok (.aload_n 0, 1) := by decide +kernel
theorem dX2_has_6 : decode cX2_has 6 = .ok (.getfield 21, 3) := by decide +kernel
theorem dX2_has_9 : decode cX2_has 9 = .ok (.if_icmp .ge 7, 3) := by decide +kernel
theorem dX2_has_12 : decode cX2_has 12 = .ok (.iconst 1, 1) := by decide +kernel
theorem dX2_has_13 : decode cX2_has 13 = .ok (.goto 4, 3) := by decide +kernel
theorem dX2_has_16 : decode cX2_has 16 = .ok (.iconst 0, 1) := by decide +kernel
theorem dX2_has_17 : decode cX2_has 17 = .ok (.ireturn, 1) := by decide +kernel
theorem dX2_at_0 : decode cX2_at 0 = .ok (.aload_n 0, 1) := by decide +kernel
theorem dX2_at_1 : decode cX2_at 1 = .ok (.iload_n 1, 1) := by decide +kernel
theorem dX2_at_2 : decode cX2_at 2 = .ok (.invokevirtual 25, 3) := by decide +kernel
theorem dX2_at_5 : decode cX2_at 5 = .ok (.ifCond .eq 12, 3) := by decide +kernel
theorem dX2_at_8 : decode cX2_at 8 = .ok (.aload_n 0, 1) := by decide +kernel
theorem dX2_at_9 : decode cX2_at 9 = .ok (.getfield 15, 3) := by decide +kernel
theorem dX2_at_12 : decode cX2_at 12 = .ok (.iload_n 1, 1) := by decide +kernel
theorem dX2_at_13 : decode cX2_at 13 = .ok (.iaload, 1) := by decide +kernel
theorem dX2_at_14 : decode cX2_at 14 = .ok (.goto 4, 3) := by decide +kernel
theorem dX2_at_17 : decode cX2_at 17 = .ok (.iconst (-1), 1) := by decide +kernel
theorem dX2_at_18 : decode cX2_at 18 = .ok (.ireturn, 1) := by decide +kernel
set_option maxRecDepth 20000 in
theorem ggX2_at_X2_has : GoodIn wsX2_at wsX2_has := goodIn_r _ [6, 7, 8, 9] (by decide +kernel) (by decide +kernel)
set_option maxRecDepth 20000 in
theorem gX2_at_X2_has : GoodIn wsX2_at (wsV RX2 25 RX2 yX2_has wsX2_has) := goodIn_app (goodIn_of _ (by decide +kernel)) ggX2_at_X2_has
theorem dX2_put_0 : decode cX2_put 0 = .ok (.aload_n 0, 1) := by decide +kernel
theorem dX2_put_1 : decode cX2_put 1 = .ok (.iload_n 1, 1) := by decide +kernel
theorem dX2_put_2 : decode cX2_put 2 = .ok (.invokevirtual 25, 3) := by decide +kernel
theorem dX2_put_5 : decode cX2_put 5 = .ok (.ifCond .eq 10, 3) := by decide +kernel
theorem dX2_put_8 : decode cX2_put 8 = .ok (.aload_n 0, 1) := by decide +kernel
theorem dX2_put_9 : decode cX2_put 9 = .ok (.getfield 15, 3) := by decide +kernel
theorem dX2_put_12 : decode cX2_put 12 = .ok (.iload_n 1, 1) := by decide +kernel
theorem dX2_put_13 : decode cX2_put 13 = .ok (.iload_n 2, 1) := by decide +kernel
theorem dX2_put_14 : decode cX2_put 14 = .ok (.iastore, 1) := by decide +kernel
theorem dX2_put_15 : decode cX2_put 15 = .ok (.return_, 1) := by decide +kernel
set_option maxRecDepth 20000 in
theorem ggX2_put_X2_has : GoodIn wsX2_put wsX2_has := goodIn_r _ [6, 7, 8, 9] (by decide +kernel) (by decide +kernel)
set_option maxRecDepth 20000 in
theorem gX2_put_X2_has : GoodIn wsX2_put (wsV RX2 25 RX2 yX2_has wsX2_has) := goodIn_app (goodIn_of _ (by decide +kernel)) ggX2_put_X2_has
theorem dX2_add_0 : decode cX2_add 0 = .ok (.aload_n 0, 1) := by decide +kernel
theorem dX2_add_1 : decode cX2_add 1 = .ok (.getfield 21, 3) := by decide +kernel
theorem dX2_add_4 : decode cX2_add 4 = .ok (.aload_n 0, 1) := by decide +kernel
theorem dX2_add_5 : decode cX2_add 5 = .ok (.getfield 15, 3) := by decide +kernel
theorem dX2_add_8 : decode cX2_add 8 = .ok (.arraylength, 1) := by decide +kernel
theorem dX2_add_9 : decode cX2_add 9 = .ok (.if_icmp .ge 23, 3) := by decide +kernel
theorem dX2_add_12 : decode cX2_add 12 = .ok (.aload_n 0, 1) := by decide +kernel
theorem dX2_add_13 : decode cX2_add 13 = .ok (.getfield 15, 3) := by decide +kernel
theorem dX2_add_16 : decode cX2_add 16 = .ok (.aload_n 0, 1) := by decide +kernel
theorem dX2_add_17 : decode cX2_add 17 = .ok (.getfield 21, 3) := by decide +kernel
theorem dX2_add_20 : decode cX2_add 20 = .ok (.iload_n 1, 1) := by decide +kernel
theorem dX2_add_21 : decode cX2_add 21 = .ok (.iastore, 1) := by decide +kernel
theorem dX2_add_22 : decode cX2_add 22 = .ok (.aload_n 0, 1) := by decide +kernel
theorem dX2_add_23 : decode cX2_add 23 = .ok (.dup, 1) := by decide +kernel
theorem dX2_add_24 : decode cX2_add 24 = .ok (.getfield 21, 3) := by decide +kernel
theorem dX2_add_27 : decode cX2_add 27 = .ok (.iconst 1, 1) := by decide +kernel
theorem dX2_add_28 : decode cX2_add 28 = .ok (.iadd, 1) := by decide +kernel
theorem dX2_add_29 : decode cX2_add 29 = .ok (.putfield 21, 3) := by decide +kernel
theorem dX2_add_32 : decode cX2_add 32 = .ok (.return_, 1) := by decide +kernel
theorem dX2_clear_0 : decode cX2_clear 0 = .ok (.aload_n 0, 1) := by decide +kernel
theorem dX2_clear_1 : decode cX2_clear 1 = .ok (.iconst 0, 1) := by decide +kernel
theorem dX2_clear_2 : decode cX2_clear 2 = .ok (.putfield 21, 3) := by decide +kernel
theorem dX2_clear_5 : decode cX2_clear 5 = .ok (.return_, 1) := by decide +kernel
theorem dX2_copy_0 : decode cX2_copy 0 = .ok (.aload_n 0, 1) := by decide +kernel
theorem dX2_copy_1 : decode cX2_copy 1 = .ok (.invokevirtual 29, 3) := by decide +kernel
theorem dX2_copy_4 : decode cX2_copy 4 = .ok (.iconst 0, 1) := by decide +kernel
theorem dX2_copy_5 : decode cX2_copy 5 = .ok (.istore_n 2, 1) := by decide +kernel
theorem dX2_copy_6 : decode cX2_copy 6 = .ok (.iload_n 2, 1) := by decide +kernel
theorem dX2_copy_7 : decode cX2_copy 7 = .ok (.aload_n 1, 1) := by decide +kernel
theorem dX2_copy_8 : decode cX2_copy 8 = .ok (.getfield 21, 3) := by decide +kernel
theorem dX2_copy_11 : decode cX2_copy 11 = .ok (.if_icmp .ge 19, 3) := by decide +kernel
theorem dX2_copy_14 : decode cX2_copy 14 = .ok (.aload_n 0, 1) := by decide +kernel
theorem dX2_copy_15 : decode cX2_copy 15 = .ok (.aload_n 1, 1) := by decide +kernel
theorem dX2_copy_16 : decode cX2_copy 16 = .ok (.getfield 15, 3) := by decide +kernel
theorem dX2_copy_19 : decode cX2_copy 19 = .ok (.iload_n 2, 1) := by decide +kernel
theorem dX2_copy_20 : decode cX2_copy 20 = .ok (.iaload, 1) := by decide +kernel
theorem dX2_copy_21 : decode cX2_copy 21 = .ok (.invokevirtual 32, 3) := by decide +kernel
theorem dX2_copy_24 : decode cX2_copy 24 = .ok (.iinc 2 1, 3) := by decide +kernel
theorem dX2_copy_27 : decode cX2_copy 27 = .ok (.goto (-21), 3) := by decide +kernel
theorem dX2_copy_30 : decode cX2_copy 30 = .ok (.return_, 1) := by decide +kernel
set_option maxRecDepth 20000 in
theorem ggX2_copy_X2_clear : GoodIn wsX2_copy wsX2_clear := goodIn_r _ [7, 1, 12, 13] (by decide +kernel) (by decide +kernel)
set_option maxRecDepth 20000 in
theorem gX2_copy_X2_clear : GoodIn wsX2_copy (wsV RX2 29 RX2 yX2_clear wsX2_clear) := goodIn_app (goodIn_of _ (by decide +kernel)) ggX2_copy_X2_clear
set_option maxRecDepth 20000 in
theorem ggX2_copy_X2_add : GoodIn wsX2_copy wsX2_add := goodIn_r _ [11, 1, 2, 12, 13] (by decide +kernel) (by decide +kernel)
set_option maxRecDepth 20000 in
theorem gX2_copy_X2_add : GoodIn wsX2_copy (wsV RX2 32 RX2 yX2_add wsX2_add) := goodIn_app (goodIn_of _ (by decide +kernel)) ggX2_copy_X2_add
theorem dX2_lastPlaceWith_0 : decode cX2_lastPlaceWith 0 = .ok (.aload_n 0, 1) := by decide +kernel
theorem dX2_lastPlaceWith_1 : decode cX2_lastPlaceWith 1 = .ok (.getfield 21, 3) := by decide +kernel
theorem dX2_lastPlaceWith_4 : decode cX2_lastPlaceWith 4 = .ok (.iconst 1, 1) := by decide +kernel
theorem dX2_lastPlaceWith_5 : decode cX2_lastPlaceWith 5 = .ok (.isub, 1) := by decide +kernel
theorem dX2_lastPlaceWith_6 : decode cX2_lastPlaceWith 6 = .ok (.istore_n 2, 1) := by decide +kernel
theorem dX2_lastPlaceWith_7 : decode cX2_lastPlaceWith 7 = .ok (.iload_n 2, 1) := by decide +kernel
theorem dX2_lastPlaceWith_8 : decode cX2_lastPlaceWith 8 = .ok (.ifCond .lt 21, 3) := by decide +kernel
theorem dX2_lastPlaceWith_11 : decode cX2_lastPlaceWith 11 = .ok (.aload_n 0, 1) := by decide +kernel
theorem dX2_lastPlaceWith_12 : decode cX2_lastPlaceWith 12 = .ok (.getfield 15, 3) := by decide +kernel
theorem dX2_lastPlaceWith_15 : decode cX2_lastPlaceWith 15 = .ok (.iload_n 2, 1) := by decide +kernel
theorem dX2_lastPlaceWith_16 : decode cX2_lastPlaceWith 16 = .ok (.iaload, 1) := by decide +kernel
theorem dX2_lastPlaceWith_17 : decode cX2_lastPlaceWith 17 = .ok (.iload_n 1, 1) := by decide +kernel
theorem dX2_lastPlaceWith_18 : decode cX2_lastPlaceWith 18 = .ok (.if_icmp .ne 5, 3) := by decide +kernel
theorem dX2_lastPlaceWith_21 : decode cX2_lastPlaceWith 21 = .ok (.iload_n 2, 1) := by decide +kernel
theorem dX2_lastPlaceWith_22 : decode cX2_lastPlaceWith 22 = .ok (.ireturn, 1) := by decide +kernel
theorem dX2_lastPlaceWith_23 : decode cX2_lastPlaceWith 23 = .ok (.iinc 2 (-1), 3) := by decide +kernel
theorem dX2_lastPlaceWith_26 : decode cX2_lastPlaceWith 26 = .ok (.goto (-19), 3) := by decide +kernel
theorem dX2_lastPlaceWith_29 : decode cX2_lastPlaceWith 29 = .ok (.iconst (-1), 1) := by decide +kernel
theorem dX2_lastPlaceWith_30 : decode cX2_lastPlaceWith 30 = .ok (.ireturn, 1) := by decide +kernel
set_option maxHeartbeats 4000000 in
set_option maxRecDepth 100000 in
theorem c_X2_size (l : Launch) (D : va_G) (cy : Nat → ClassId) (h0 : Nat) (a0 : Nat) (n : Int) : Ci l D cy yX2_size wsX2_size 0 0 [.ref h0] [(h0, .inr (2, [.ref a0, .int (iI n)]))] (fun (r : Int32) (u : Unit) => r = iI n) (fun u : Unit => [(h0, .inr (2, [.ref a0, .int (iI n)]))]) := by
  refine Ci_of (cc := cX2_size) (maxL := 1) (ret := (some .int)) (by decide) rfl rfl ?_
  intro p e s m args below meth c A hx hb hr hts hown hlocks hml hP hK hD hT hA ls hl
  have hS : va_S A s.heap s.heap [] := va_S.rf
  have hl : lv_has ls 1 [(0, .ref h0)] := hl
  have hiX2 : ∀ w ∈ wsX20, w ∈ wsX2_size := by decide +kernel
  refine lv_aload_n hx hb dX2_size_0 rfl (lv_at hl 0 rfl) ?_
  refine va_get (D := D) (ci := 2) (v := .int (iI n)) (C := RX2) (T := TX2) (N := 2) hx hb hts hiX2 hown hK hP 0 rfl rfl 1 (by decide) (hts (.fieldLink RX2 21 "BackwardSearch$Row" "length" "I") (by decide +kernel)) (fun _ h9 => h9) rfl dX2_size_1 ?_
  exact z_iret hx hb hr hlocks hS () (show (iI n) = iI n from rfl) hP dX2_size_4
set_option maxHeartbeats 4000000 in
set_option maxRecDepth 100000 in
theorem c_X2_isEmpty (l : Launch) (D : va_G) (cy : Nat → ClassId) (h0 : Nat) (a0 : Nat) (n : Int) (hn : 0 ≤ n ∧ n < 2147483648) : Ci l D cy yX2_isEmpty wsX2_isEmpty 0 0 [.ref h0] [(h0, .inr (2, [.ref a0, .int (iI n)]))] (fun (r : Int32) (u : Unit) => (n = 0 ∧ r = iI 1) ∨ (¬ n = 0 ∧ r = iI 0)) (fun u : Unit => [(h0, .inr (2, [.ref a0, .int (iI n)]))]) := by
  refine Ci_of (cc := cX2_isEmpty) (maxL := 1) (ret := (some .boolean)) (by decide) rfl rfl ?_
  intro p e s m args below meth c A hx hb hr hts hown hlocks hml hP hK hD hT hA ls hl
  have hS : va_S A s.heap s.heap [] := va_S.rf
  have hl : lv_has ls 1 [(0, .ref h0)] := hl
  have hiX2 : ∀ w ∈ wsX20, w ∈ wsX2_isEmpty := by decide +kernel
  refine lv_aload_n hx hb dX2_isEmpty_0 rfl (lv_at hl 0 rfl) ?_
  refine va_get (D := D) (ci := 2) (v := .int (iI n)) (C := RX2) (T := TX2) (N := 2) hx hb hts hiX2 hown hK hP 0 rfl rfl 1 (by decide) (hts (.fieldLink RX2 21 "BackwardSearch$Row" "length" "I") (by decide +kernel)) (fun _ h9 => h9) rfl dX2_isEmpty_1 ?_
  refine z_if_ne (tgt := 11) hx hb (iI_t (by omega) (by omega)) dX2_isEmpty_4 (by decide) (fun c1 => ?_) (fun c1 => ?_)
  · --
    refine lv_iconst (v := iI 0) hx hb dX2_isEmpty_11 rfl ?_
    exact z_zret hx hb hr hlocks (by decide +kernel) hS () (show (n = 0 ∧ (iI 0) = iI 1) ∨ (¬ n = 0 ∧ (iI 0) = iI 0) from (by first | exact Or.inl ⟨by omega, rfl⟩ | exact Or.inr ⟨by omega, rfl⟩)) hP dX2_isEmpty_12
  · --
    refine lv_iconst (v := iI 1) hx hb dX2_isEmpty_7 rfl ?_
    refine lv_goto (tgt := 12) hx hb dX2_isEmpty_8 (by decide) ?_
    exact z_zret hx hb hr hlocks (by decide +kernel) hS () (show (n = 0 ∧ (iI 1) = iI 1) ∨ (¬ n = 0 ∧ (iI 1) = iI 0) from (by first | exact Or.inl ⟨by omega, rfl⟩ | exact Or.inr ⟨by omega, rfl⟩)) hP dX2_isEmpty_12
set_option maxHeartbeats 4000000 in
set_option maxRecDepth 100000 in
theorem c_X2_has (l : Launch) (D : va_G) (cy : Nat → ClassId) (h0 : Nat) (a0 : Nat) (n : Int) (i : Int) (hn : 0 ≤ n ∧ n < 2147483648) (hi : -2147483648 ≤ i ∧ i < 2147483648) : Ci l D cy yX2_has wsX2_has 0 0 [.ref h0, .int (iI i)] [(h0, .inr (2, [.ref a0, .int (iI n)]))] (fun (r : Int32) (u : Unit) => (0 ≤ i ∧ i < n ∧ r = iI 1) ∨ (¬ (0 ≤ i ∧ i < n) ∧ r = iI 0)) (fun u : Unit => [(h0, .inr (2, [.ref a0, .int (iI n)]))]) := by
  refine Ci_of (cc := cX2_has) (maxL := 2) (ret := (some .boolean)) (by decide) rfl rfl ?_
  intro p e s m args below meth c A hx hb hr hts hown hlocks hml hP hK hD hT hA ls hl
  have hS : va_S A s.heap s.heap [] := va_S.rf
  have hl : lv_has ls 2 [(0, .ref h0), (1, .int (iI i))] := hl
  have hiX2 : ∀ w ∈ wsX20, w ∈ wsX2_has := by decide +kernel
  refine lv_iload_n hx hb dX2_has_0 rfl (lv_at hl 1 rfl) ?_
  refine z_if_lt (tgt := 16) hx hb (iI_t (by omega) (by omega)) dX2_has_1 (by decide) (fun c1 => ?_) (fun c1 => ?_)
  · --
    refine lv_iconst (v := iI 0) hx hb dX2_has_16 rfl ?_
    exact z_zret hx hb hr hlocks (by decide +kernel) hS () (show (0 ≤ i ∧ i < n ∧ (iI 0) = iI 1) ∨ (¬ (0 ≤ i ∧ i < n) ∧ (iI 0) = iI 0) from (by first | exact Or.inl ⟨by omega, by omega, rfl⟩ | exact Or.inr ⟨by omega, rfl⟩)) hP dX2_has_17
  · --
    refine lv_iload_n hx hb dX2_has_4 rfl (lv_at hl 1 rfl) ?_
    refine lv_aload_n hx hb dX2_has_5 rfl (lv_at hl 0 rfl) ?_
    refine va_get (D := D) (ci := 2) (v := .int (iI n)) (C := RX2) (T := TX2) (N := 2) hx hb hts hiX2 hown hK hP 0 rfl rfl 1 (by decide) (hts (.fieldLink RX2 21 "BackwardSearch$Row" "length" "I") (by decide +kernel)) (fun _ h9 => h9) rfl dX2_has_6 ?_
    refine z_icmp_ge (tgt := 16) hx hb (iI_t (by omega) (by omega)) (iI_t (by omega) (by omega)) dX2_has_9 (by decide) (fun c2 => ?_) (fun c2 => ?_)
    · --
      refine lv_iconst (v := iI 0) hx hb dX2_has_16 rfl ?_
      exact z_zret hx hb hr hlocks (by decide +kernel) hS () (show (0 ≤ i ∧ i < n ∧ (iI 0) = iI 1) ∨ (¬ (0 ≤ i ∧ i < n) ∧ (iI 0) = iI 0) from (by first | exact Or.inl ⟨by omega, by omega, rfl⟩ | exact Or.inr ⟨by omega, rfl⟩)) hP dX2_has_17
    · --
      refine lv_iconst (v := iI 1) hx hb dX2_has_12 rfl ?_
      refine lv_goto (tgt := 17) hx hb dX2_has_13 (by decide) ?_
      exact z_zret hx hb hr hlocks (by decide +kernel) hS () (show (0 ≤ i ∧ i < n ∧ (iI 1) = iI 1) ∨ (¬ (0 ≤ i ∧ i < n) ∧ (iI 1) = iI 0) from (by first | exact Or.inl ⟨by omega, by omega, rfl⟩ | exact Or.inr ⟨by omega, rfl⟩)) hP dX2_has_17
set_option maxHeartbeats 4000000 in
set_option maxRecDepth 100000 in
theorem c_X2_at (l : Launch) (D : va_G) (cy : Nat → ClassId) (h0 : Nat) (a0 : Nat) (K : Nat) (n : Int) (f : Nat → Int32) (i : Int) (hn : 0 ≤ n ∧ n ≤ K ∧ K < 2147483648) (hi : -2147483648 ≤ i ∧ i < 2147483648) : Ci l D cy yX2_at wsX2_at 1 21 [.ref h0, .int (iI i)] [(h0, .inr (2, [.ref a0, .int (iI n)])), (a0, .inl (cy 0, K, .inl f))] (fun (r : Int32) (u : Unit) => (0 ≤ i ∧ i < n ∧ r = f i.toNat) ∨ (¬ (0 ≤ i ∧ i < n) ∧ r = iI (-1))) (fun u : Unit => [(h0, .inr (2, [.ref a0, .int (iI n)])), (a0, .inl (cy 0, K, .inl f))]) := by
  refine Ci_of (cc := cX2_at) (maxL := 2) (ret := (some .int)) (by decide) rfl rfl ?_
  intro p e s m args below meth c A hx hb hr hts hown hlocks hml hP hK hD hT hA ls hl
  have hS : va_S A s.heap s.heap [] := va_S.rf
  have hl : lv_has ls 2 [(0, .ref h0), (1, .int (iI i))] := hl
  have hiX2 : ∀ w ∈ wsX20, w ∈ wsX2_at := by decide +kernel
  refine lv_aload_n hx hb dX2_at_0 rfl (lv_at hl 0 rfl) ?_
  refine lv_iload_n hx hb dX2_at_1 rfl (lv_at hl 1 rfl) ?_
  refine z_cVi (n := 1) (b := h0) (As := [.int (iI i)]) (rest := []) ⟨hx, hb, hml, hown, hts⟩ (c_X2_has l D cy h0 a0 n i (by omega) (by omega)) gX2_at_X2_has rfl (by decide +kernel) ⟨Nat.le_of_ble_eq_true rfl, Nat.le_of_ble_eq_true rfl⟩ hK hT hP hD hS hA [0] rfl rfl 0 2 rfl rfl rfl (fun _ => rfl) rfl hl.1 rfl (Nat.le_of_ble_eq_true rfl) dX2_at_2 ⟨Nat.zero_le _, Nat.zero_le _⟩ (fun r_1 u_1 H locs hw_1 hP hD hS => ?_)
  have hw_1 : (0 ≤ i ∧ i < n ∧ r_1 = iI 1) ∨ (¬ (0 ≤ i ∧ i < n) ∧ r_1 = iI 0) := hw_1
  have hP : va_P D vwCl [(h0, .inr (2, [.ref a0, .int (iI n)])), (a0, .inl (cy 0, K, .inl f))] H := hP
  have hD : va_D A [(h0, .inr (2, [.ref a0, .int (iI n)])), (a0, .inl (cy 0, K, .inl f))] := hD
  rcases hw_1 with ⟨h_1, g_1, rfl⟩ | ⟨h_1, rfl⟩
  · --
    refine z_if_eq (tgt := 17) hx hb (iI_t (by omega) (by omega)) dX2_at_5 (by decide) (fun c2 => absurd c2 (by omega)) (fun _ => ?_)
    refine lv_aload_n hx hb dX2_at_8 rfl (lv_at hl 0 rfl) ?_
    refine va_get (D := D) (ci := 2) (v := .ref a0) (C := RX2) (T := TX2) (N := 2) hx hb hts hiX2 hown hK hP 0 rfl rfl 0 (by decide) (hts (.fieldLink RX2 15 "BackwardSearch$Row" "numbers" "[I") (by decide +kernel)) (fun _ h9 => h9) rfl dX2_at_9 ?_
    refine lv_iload_n hx hb dX2_at_12 rfl (lv_at hl 1 rfl) ?_
    refine z_iald hx hb hK hP 1 rfl (by omega) (by omega) (by omega) dX2_at_13 ?_
    refine lv_goto (tgt := 18) hx hb dX2_at_14 (by decide) ?_
    exact z_iret hx hb hr hlocks hS () (show (0 ≤ i ∧ i < n ∧ (f i.toNat) = f i.toNat) ∨ (¬ (0 ≤ i ∧ i < n) ∧ (f i.toNat) = iI (-1)) from (by first | exact Or.inl ⟨by omega, by omega, rfl⟩ | exact Or.inr ⟨by omega, rfl⟩)) hP dX2_at_18
  · --
    refine z_if_eq (tgt := 17) hx hb (iI_t (by omega) (by omega)) dX2_at_5 (by decide) (fun _ => ?_) (fun c3 => absurd c3 (by omega))
    refine lv_iconst (v := iI (-1)) hx hb dX2_at_17 rfl ?_
    exact z_iret hx hb hr hlocks hS () (show (0 ≤ i ∧ i < n ∧ (iI (-1)) = f i.toNat) ∨ (¬ (0 ≤ i ∧ i < n) ∧ (iI (-1)) = iI (-1)) from (by first | exact Or.inl ⟨by omega, by omega, rfl⟩ | exact Or.inr ⟨by omega, rfl⟩)) hP dX2_at_18
set_option maxHeartbeats 4000000 in
set_option maxRecDepth 100000 in
theorem c_X2_put (l : Launch) (D : va_G) (cy : Nat → ClassId) (h0 : Nat) (a0 : Nat) (K : Nat) (n : Int) (f : Nat → Int32) (i : Int) (x : Int32) (hn : 0 ≤ n ∧ n ≤ K ∧ K < 2147483648) (hi : -2147483648 ≤ i ∧ i < 2147483648) : Cv l D cy yX2_put wsX2_put 1 21 [.ref h0, .int (iI i), .int x] [(h0, .inr (2, [.ref a0, .int (iI n)])), (a0, .inl (cy 0, K, .inl f))] (fun (u : (Nat → Int32)) => (0 ≤ i ∧ i < n ∧ u = upd f i.toNat x) ∨ (¬ (0 ≤ i ∧ i < n) ∧ u = f)) (fun u : (Nat → Int32) => [(h0, .inr (2, [.ref a0, .int (iI n)])), (a0, .inl (cy 0, K, .inl u))]) := by
  refine Cv_of (cc := cX2_put) (maxL := 3) (ret := none) (by decide) rfl rfl ?_
  intro p e s m args below meth c A hx hb hr hts hown hlocks hml hP hK hD hT hA ls hl
  have hS : va_S A s.heap s.heap [] := va_S.rf
  have hl : lv_has ls 3 [(0, .ref h0), (1, .int (iI i)), (2, .int x)] := hl
  have hiX2 : ∀ w ∈ wsX20, w ∈ wsX2_put := by decide +kernel
  refine lv_aload_n hx hb dX2_put_0 rfl (lv_at hl 0 rfl) ?_
  refine lv_iload_n hx hb dX2_put_1 rfl (lv_at hl 1 rfl) ?_
  refine z_cVi (n := 1) (b := h0) (As := [.int (iI i)]) (rest := []) ⟨hx, hb, hml, hown, hts⟩ (c_X2_has l D cy h0 a0 n i (by omega) (by omega)) gX2_put_X2_has rfl (by decide +kernel) ⟨Nat.le_of_ble_eq_true rfl, Nat.le_of_ble_eq_true rfl⟩ hK hT hP hD hS hA [0] rfl rfl 0 2 rfl rfl rfl (fun _ => rfl) rfl hl.1 rfl (Nat.le_of_ble_eq_true rfl) dX2_put_2 ⟨Nat.zero_le _, Nat.zero_le _⟩ (fun r_1 u_1 H locs hw_1 hP hD hS => ?_)
  have hw_1 : (0 ≤ i ∧ i < n ∧ r_1 = iI 1) ∨ (¬ (0 ≤ i ∧ i < n) ∧ r_1 = iI 0) := hw_1
  have hP : va_P D vwCl [(h0, .inr (2, [.ref a0, .int (iI n)])), (a0, .inl (cy 0, K, .inl f))] H := hP
  have hD : va_D A [(h0, .inr (2, [.ref a0, .int (iI n)])), (a0, .inl (cy 0, K, .inl f))] := hD
  rcases hw_1 with ⟨h_1, g_1, rfl⟩ | ⟨h_1, rfl⟩
  · --
    refine z_if_eq (tgt := 15) hx hb (iI_t (by omega) (by omega)) dX2_put_5 (by decide) (fun c2 => absurd c2 (by omega)) (fun _ => ?_)
    refine lv_aload_n hx hb dX2_put_8 rfl (lv_at hl 0 rfl) ?_
    refine va_get (D := D) (ci := 2) (v := .ref a0) (C := RX2) (T := TX2) (N := 2) hx hb hts hiX2 hown hK hP 0 rfl rfl 0 (by decide) (hts (.fieldLink RX2 15 "BackwardSearch$Row" "numbers" "[I") (by decide +kernel)) (fun _ h9 => h9) rfl dX2_put_9 ?_
    refine lv_iload_n hx hb dX2_put_12 rfl (lv_at hl 1 rfl) ?_
    refine lv_iload_n hx hb dX2_put_13 rfl (lv_at hl 2 rfl) ?_
    refine z_iast hx hb hK hP hD hS 1 rfl (by omega) (by omega) (by omega) dX2_put_14 (fun H locs hP hD hS => ?_)
    have hP : va_P D vwCl [(h0, .inr (2, [.ref a0, .int (iI n)])), (a0, .inl (cy 0, K, .inl (upd f i.toNat x)))] H := hP
    have hD : va_D A [(h0, .inr (2, [.ref a0, .int (iI n)])), (a0, .inl (cy 0, K, .inl (upd f i.toNat x)))] := hD
    exact z_vret hx hb hr hlocks hS (upd f i.toNat x) (show (0 ≤ i ∧ i < n ∧ (upd f i.toNat x) = upd f i.toNat x) ∨ (¬ (0 ≤ i ∧ i < n) ∧ (upd f i.toNat x) = f) from (by first | exact Or.inl ⟨by omega, by omega, rfl⟩ | exact Or.inr ⟨by omega, rfl⟩)) hP dX2_put_15
  · --
    refine z_if_eq (tgt := 15) hx hb (iI_t (by omega) (by omega)) dX2_put_5 (by decide) (fun _ => ?_) (fun c3 => absurd c3 (by omega))
    exact z_vret hx hb hr hlocks hS (f) (show (0 ≤ i ∧ i < n ∧ f = upd f i.toNat x) ∨ (¬ (0 ≤ i ∧ i < n) ∧ f = f) from (by first | exact Or.inl ⟨by omega, by omega, rfl⟩ | exact Or.inr ⟨by omega, rfl⟩)) hP dX2_put_15
set_option maxHeartbeats 4000000 in
set_option maxRecDepth 100000 in
theorem c_X2_add (l : Launch) (D : va_G) (cy : Nat → ClassId) (h0 : Nat) (a0 : Nat) (K : Nat) (n : Int) (f : Nat → Int32) (x : Int32) (hn : 0 ≤ n ∧ n ≤ K ∧ K < 2147483648) : Cv l D cy yX2_add wsX2_add 0 0 [.ref h0, .int x] [(h0, .inr (2, [.ref a0, .int (iI n)])), (a0, .inl (cy 0, K, .inl f))] (fun (u : Int × (Nat → Int32)) => (n < K ∧ u.1 = n + 1 ∧ u.2 = upd f n.toNat x) ∨ (¬ n < K ∧ u.1 = n ∧ u.2 = f)) (fun u : Int × (Nat → Int32) => [(h0, .inr (2, [.ref a0, .int (iI u.1)])), (a0, .inl (cy 0, K, .inl u.2))]) := by
  refine Cv_of (cc := cX2_add) (maxL := 2) (ret := none) (by decide) rfl rfl ?_
  intro p e s m args below meth c A hx hb hr hts hown hlocks hml hP hK hD hT hA ls hl
  have hS : va_S A s.heap s.heap [] := va_S.rf
  have hl : lv_has ls 2 [(0, .ref h0), (1, .int x)] := hl
  have hiX2 : ∀ w ∈ wsX20, w ∈ wsX2_add := by decide +kernel
  refine lv_aload_n hx hb dX2_add_0 rfl (lv_at hl 0 rfl) ?_
  refine va_get (D := D) (ci := 2) (v := .int (iI n)) (C := RX2) (T := TX2) (N := 2) hx hb hts hiX2 hown hK hP 0 rfl rfl 1 (by decide) (hts (.fieldLink RX2 21 "BackwardSearch$Row" "length" "I") (by decide +kernel)) (fun _ h9 => h9) rfl dX2_add_1 ?_
  refine lv_aload_n hx hb dX2_add_4 rfl (lv_at hl 0 rfl) ?_
  refine va_get (D := D) (ci := 2) (v := .ref a0) (C := RX2) (T := TX2) (N := 2) hx hb hts hiX2 hown hK hP 0 rfl rfl 0 (by decide) (hts (.fieldLink RX2 15 "BackwardSearch$Row" "numbers" "[I") (by decide +kernel)) (fun _ h9 => h9) rfl dX2_add_5 ?_
  refine z_alen hx hb hK hP 1 0 rfl rfl dX2_add_8 ?_
  refine z_icmp_ge (tgt := 32) hx hb (iI_t (by omega) (by omega)) (iI_t (by omega) (by omega)) dX2_add_9 (by decide) (fun c1 => ?_) (fun c1 => ?_)
  · --
    exact z_vret hx hb hr hlocks hS (n, f) (show (n < K ∧ n = n + 1 ∧ f = upd f n.toNat x) ∨ (¬ n < K ∧ n = n ∧ f = f) from (by first | exact Or.inl ⟨by omega, rfl, rfl⟩ | exact Or.inr ⟨by omega, rfl, rfl⟩)) hP dX2_add_32
  · --
    refine lv_aload_n hx hb dX2_add_12 rfl (lv_at hl 0 rfl) ?_
    refine va_get (D := D) (ci := 2) (v := .ref a0) (C := RX2) (T := TX2) (N := 2) hx hb hts hiX2 hown hK hP 0 rfl rfl 0 (by decide) (hts (.fieldLink RX2 15 "BackwardSearch$Row" "numbers" "[I") (by decide +kernel)) (fun _ h9 => h9) rfl dX2_add_13 ?_
    refine lv_aload_n hx hb dX2_add_16 rfl (lv_at hl 0 rfl) ?_
    refine va_get (D := D) (ci := 2) (v := .int (iI n)) (C := RX2) (T := TX2) (N := 2) hx hb hts hiX2 hown hK hP 0 rfl rfl 1 (by decide) (hts (.fieldLink RX2 21 "BackwardSearch$Row" "length" "I") (by decide +kernel)) (fun _ h9 => h9) rfl dX2_add_17 ?_
    refine lv_iload_n hx hb dX2_add_20 rfl (lv_at hl 1 rfl) ?_
    refine z_iast hx hb hK hP hD hS 1 rfl (by omega) (by omega) (by omega) dX2_add_21 (fun H locs hP hD hS => ?_)
    have hP : va_P D vwCl [(h0, .inr (2, [.ref a0, .int (iI n)])), (a0, .inl (cy 0, K, .inl (upd f n.toNat x)))] H := hP
    have hD : va_D A [(h0, .inr (2, [.ref a0, .int (iI n)])), (a0, .inl (cy 0, K, .inl (upd f n.toNat x)))] := hD
    refine lv_aload_n hx hb dX2_add_22 rfl (lv_at hl 0 rfl) ?_
    refine lv_dup hx hb dX2_add_23 rfl ?_
    refine va_get (D := D) (ci := 2) (v := .int (iI n)) (C := RX2) (T := TX2) (N := 2) hx hb hts hiX2 hown hK hP 0 rfl rfl 1 (by decide) (hts (.fieldLink RX2 21 "BackwardSearch$Row" "length" "I") (by decide +kernel)) (fun _ h9 => h9) rfl dX2_add_24 ?_
    refine lv_iconst (v := iI 1) hx hb dX2_add_27 rfl ?_
    refine z_add hx hb dX2_add_28 ?_
    refine va_put (D := D) (ci := 2) (v := .int (iI (n + 1))) (ty := .int) (C := RX2) (T := TX2) (N := 2) hx hb hts hiX2 tyX2 tyX2_ok nmX2 hown hK hP hD hS 0 rfl rfl 1 (by decide) (hts (.fieldLink RX2 21 "BackwardSearch$Row" "length" "I") (by decide +kernel)) (fun _ h9 => h9) rfl (by decide +kernel) rfl rfl (Nat.le_of_ble_eq_true rfl) dX2_add_29 (fun H locs hP hD hS => ?_)
    have hP : va_P D vwCl [(h0, .inr (2, [.ref a0, .int (iI (n + 1))])), (a0, .inl (cy 0, K, .inl (upd f n.toNat x)))] H := hP
    have hD : va_D A [(h0, .inr (2, [.ref a0, .int (iI (n + 1))])), (a0, .inl (cy 0, K, .inl (upd f n.toNat x)))] := hD
    exact z_vret hx hb hr hlocks hS (n + 1, upd f n.toNat x) (show (n < K ∧ (n + 1) = n + 1 ∧ (upd f n.toNat x) = upd f n.toNat x) ∨ (¬ n < K ∧ (n + 1) = n ∧ (upd f n.toNat x) = f) from (by first | exact Or.inl ⟨by omega, rfl, rfl⟩ | exact Or.inr ⟨by omega, rfl, rfl⟩)) hP dX2_add_32
set_option maxHeartbeats 4000000 in
set_option maxRecDepth 100000 in
theorem c_X2_clear (l : Launch) (D : va_G) (cy : Nat → ClassId) (h0 : Nat) (a0 : Nat) (n : Int) : Cv l D cy yX2_clear wsX2_clear 0 0 [.ref h0] [(h0, .inr (2, [.ref a0, .int (iI n)]))] (fun (u : Unit) => True) (fun u : Unit => [(h0, .inr (2, [.ref a0, .int (iI 0)]))]) := by
  refine Cv_of (cc := cX2_clear) (maxL := 1) (ret := none) (by decide) rfl rfl ?_
  intro p e s m args below meth c A hx hb hr hts hown hlocks hml hP hK hD hT hA ls hl
  have hS : va_S A s.heap s.heap [] := va_S.rf
  have hl : lv_has ls 1 [(0, .ref h0)] := hl
  have hiX2 : ∀ w ∈ wsX20, w ∈ wsX2_clear := by decide +kernel
  refine lv_aload_n hx hb dX2_clear_0 rfl (lv_at hl 0 rfl) ?_
  refine lv_iconst (v := iI 0) hx hb dX2_clear_1 rfl ?_
  refine va_put (D := D) (ci := 2) (v := .int (iI 0)) (ty := .int) (C := RX2) (T := TX2) (N := 2) hx hb hts hiX2 tyX2 tyX2_ok nmX2 hown hK hP hD hS 0 rfl rfl 1 (by decide) (hts (.fieldLink RX2 21 "BackwardSearch$Row" "length" "I") (by decide +kernel)) (fun _ h9 => h9) rfl (by decide +kernel) rfl rfl (Nat.le_of_ble_eq_true rfl) dX2_clear_2 (fun H locs hP hD hS => ?_)
  have hP : va_P D vwCl [(h0, .inr (2, [.ref a0, .int (iI 0)]))] H := hP
  have hD : va_D A [(h0, .inr (2, [.ref a0, .int (iI 0)]))] := hD
  exact z_vret hx hb hr hlocks hS () (show True from trivial) hP dX2_clear_5
set_option maxHeartbeats 4000000 in
set_option maxRecDepth 100000 in
theorem c_X2_copy (l : Launch) (D : va_G) (cy : Nat → ClassId) (h0 : Nat) (a0 : Nat) (K0 : Nat) (n0 : Int) (f0 : Nat → Int32) (h1 : Nat) (a1 : Nat) (K1 : Nat) (n1 : Int) (f1 : Nat → Int32) (hn : 0 ≤ n1 ∧ n1 ≤ K0 ∧ n1 ≤ K1 ∧ K0 < 2147483648 ∧ K1 < 2147483648) : Cv l D cy yX2_copy wsX2_copy 1 21 [.ref h0, .ref h1] [(h0, .inr (2, [.ref a0, .int (iI n0)])), (a0, .inl (cy 0, K0, .inl f0)), (h1, .inr (2, [.ref a1, .int (iI n1)])), (a1, .inl (cy 0, K1, .inl f1))] (fun (u : (Nat → Int32)) => ∀ j : Nat, (j : Int) < n1 → u j = f1 j) (fun u : (Nat → Int32) => [(h0, .inr (2, [.ref a0, .int (iI n1)])), (a0, .inl (cy 0, K0, .inl u)), (h1, .inr (2, [.ref a1, .int (iI n1)])), (a1, .inl (cy 0, K1, .inl f1))]) := by
  refine Cv_of (cc := cX2_copy) (maxL := 3) (ret := none) (by decide) rfl rfl ?_
  intro p e s m args below meth c A hx hb hr hts hown hlocks hml hP hK hD hT hA ls hl
  have hS : va_S A s.heap s.heap [] := va_S.rf
  have hl : lv_has ls 3 [(0, .ref h0), (1, .ref h1)] := hl
  have hiX2 : ∀ w ∈ wsX20, w ∈ wsX2_copy := by decide +kernel
  refine lv_aload_n hx hb dX2_copy_0 rfl (lv_at hl 0 rfl) ?_
  refine z_cVv (n := 0) (b := h0) (As := []) (rest := []) ⟨hx, hb, hml, hown, hts⟩ (c_X2_clear l D cy h0 a0 n0 ) gX2_copy_X2_clear rfl (by decide +kernel) ⟨Nat.le_of_ble_eq_true rfl, Nat.le_of_ble_eq_true rfl⟩ hK hT hP hD hS hA [0] rfl rfl 0 2 rfl rfl rfl (fun _ => rfl) rfl hl.1 rfl (Nat.le_of_ble_eq_true rfl) dX2_copy_1 ⟨Nat.zero_le _, Nat.zero_le _⟩ (fun  u_1 H locs hw_1 hP hD hS => ?_)
  have hw_1 : True := hw_1
  have hP : va_P D vwCl [(h0, .inr (2, [.ref a0, .int (iI 0)])), (a0, .inl (cy 0, K0, .inl f0)), (h1, .inr (2, [.ref a1, .int (iI n1)])), (a1, .inl (cy 0, K1, .inl f1))] H := hP
  have hD : va_D A [(h0, .inr (2, [.ref a0, .int (iI 0)])), (a0, .inl (cy 0, K0, .inl f0)), (h1, .inr (2, [.ref a1, .int (iI n1)])), (a1, .inl (cy 0, K1, .inl f1))] := hD
  refine lv_iconst (v := iI 0) hx hb dX2_copy_4 rfl ?_
  refine lv_istore_n (lv' := [(2, .int (iI 0)), (0, .ref h0), (1, .ref h1)]) hx hb dX2_copy_5 rfl hl (by decide) rfl (fun ls hl => ?_)
  have hloop2 : ∀ (n2 : Nat) (i : Int) (g : Nat → Int32) (hi : 0 ≤ i ∧ i ≤ n1) (hg : ∀ j : Nat, (j : Int) < i → g j = f1 j) (hm : n1 - i < (n2 : Int)) (H : Heap) (locs : List Loc) (ls : Array Slot) (hP : va_P D vwCl [(h0, .inr (2, [.ref a0, .int (iI i)])), (a0, .inl (cy 0, K0, .inl g)), (h1, .inr (2, [.ref a1, .int (iI n1)])), (a1, .inl (cy 0, K1, .inl f1))] H) (hD : va_D A [(h0, .inr (2, [.ref a0, .int (iI i)])), (a0, .inl (cy 0, K0, .inl g)), (h1, .inr (2, [.ref a1, .int (iI n1)])), (a1, .inl (cy 0, K1, .inl f1))]) (hS : va_S A s.heap H locs) (hl : lv_has ls 3 [(2, .int (iI i)), (0, .ref h0), (1, .ref h1)]), W p l e ({ frames := 1, cells := 0, slots := 0, locals := 21 } : Room) s m args below meth c H locs 0 0 (MQ below (va_Qv (fun (u : (Nat → Int32)) => ∀ j : Nat, (j : Int) < n1 → u j = f1 j) (fun u t => va_P D vwCl ((fun u : (Nat → Int32) => [(h0, .inr (2, [.ref a0, .int (iI n1)])), (a0, .inl (cy 0, K0, .inl u)), (h1, .inr (2, [.ref a1, .int (iI n1)])), (a1, .inl (cy 0, K1, .inl f1))]) u) t.heap) A) args s 0 0 A) (F0 m 6 ls []) := by
    intro n2
    induction n2 with
    | zero =>
      intro i g hi hg hm; exact absurd hm (by omega)
    | succ n2 ih2 =>
      intro i g hi hg hm H locs ls hP hD hS hl
      refine lv_iload_n hx hb dX2_copy_6 rfl (lv_at hl 0 rfl) ?_
      refine lv_aload_n hx hb dX2_copy_7 rfl (lv_at hl 2 rfl) ?_
      refine va_get (D := D) (ci := 2) (v := .int (iI n1)) (C := RX2) (T := TX2) (N := 2) hx hb hts hiX2 hown hK hP 2 rfl rfl 1 (by decide) (hts (.fieldLink RX2 21 "BackwardSearch$Row" "length" "I") (by decide +kernel)) (fun _ h9 => h9) rfl dX2_copy_8 ?_
      refine z_icmp_ge (tgt := 30) hx hb (iI_t (by omega) (by omega)) (iI_t (by omega) (by omega)) dX2_copy_11 (by decide) (fun c3 => ?_) (fun c3 => ?_)
      · --
        obtain rfl : n1 = i := by omega
        exact z_vret hx hb hr hlocks hS (g) (show ∀ j : Nat, (j : Int) < n1 → g j = f1 j from (fun j hj => hg j (by omega))) hP dX2_copy_30
      · --
        refine lv_aload_n hx hb dX2_copy_14 rfl (lv_at hl 1 rfl) ?_
        refine lv_aload_n hx hb dX2_copy_15 rfl (lv_at hl 2 rfl) ?_
        refine va_get (D := D) (ci := 2) (v := .ref a1) (C := RX2) (T := TX2) (N := 2) hx hb hts hiX2 hown hK hP 2 rfl rfl 0 (by decide) (hts (.fieldLink RX2 15 "BackwardSearch$Row" "numbers" "[I") (by decide +kernel)) (fun _ h9 => h9) rfl dX2_copy_16 ?_
        refine lv_iload_n hx hb dX2_copy_19 rfl (lv_at hl 0 rfl) ?_
        refine z_iald hx hb hK hP 3 rfl (by omega) (by omega) (by omega) dX2_copy_20 ?_
        refine z_cVv (n := 1) (b := h0) (As := [.int (f1 i.toNat)]) (rest := []) ⟨hx, hb, hml, hown, hts⟩ (c_X2_add l D cy h0 a0 K0 i g (f1 i.toNat) (by omega)) gX2_copy_X2_add rfl (by decide +kernel) ⟨Nat.le_of_ble_eq_true rfl, Nat.le_of_ble_eq_true rfl⟩ hK hT hP hD hS hA [0, 1] rfl rfl 0 2 rfl rfl rfl (fun _ => rfl) rfl hl.1 rfl (Nat.le_of_ble_eq_true rfl) dX2_copy_21 ⟨Nat.zero_le _, Nat.zero_le _⟩ (fun  u_4 H locs hw_4 hP hD hS => ?_)
        obtain ⟨n1_4, f1_4⟩ := u_4
        have hw_4 : (i < K0 ∧ n1_4 = i + 1 ∧ f1_4 = upd g i.toNat (f1 i.toNat)) ∨ (¬ i < K0 ∧ n1_4 = i ∧ f1_4 = g) := hw_4
        have hP : va_P D vwCl [(h0, .inr (2, [.ref a0, .int (iI n1_4)])), (a0, .inl (cy 0, K0, .inl f1_4)), (h1, .inr (2, [.ref a1, .int (iI n1)])), (a1, .inl (cy 0, K1, .inl f1))] H := hP
        have hD : va_D A [(h0, .inr (2, [.ref a0, .int (iI n1_4)])), (a0, .inl (cy 0, K0, .inl f1_4)), (h1, .inr (2, [.ref a1, .int (iI n1)])), (a1, .inl (cy 0, K1, .inl f1))] := hD
        rcases hw_4 with ⟨h_4, rfl, rfl⟩ | ⟨h_4, rfl, rfl⟩
        · --
          refine z_iinc (lv' := [(2, .int (iI (i + 1))), (0, .ref h0), (1, .ref h1)]) hx hb dX2_copy_24 hl (k := 0) rfl (by decide) rfl (fun ls hl => ?_)
          refine lv_goto (tgt := 6) hx hb dX2_copy_27 (by decide) ?_
          exact ih2 (i + 1) (upd g i.toNat (f1 i.toNat)) (by omega) (upd_more hi.1 hg) (by omega) _ _ _ hP hD hS (lv_sub hl [0, 1, 2] rfl)
        · --
          exfalso; omega
  exact hloop2 (Int.toNat (n1 - 0) + 1) 0 f0 (by omega) (fun j hj => absurd hj (by omega)) (by omega) _ _ _ hP hD hS (lv_sub hl [0, 1, 2] rfl)
set_option maxHeartbeats 4000000 in
set_option maxRecDepth 100000 in
theorem c_X2_lastPlaceWith (l : Launch) (D : va_G) (cy : Nat → ClassId) (h0 : Nat) (a0 : Nat) (K : Nat) (n : Int) (f : Nat → Int32) (x : Int32) (hn : 0 ≤ n ∧ n ≤ K ∧ K < 2147483648) : Ci l D cy yX2_lastPlaceWith wsX2_lastPlaceWith 0 0 [.ref h0, .int x] [(h0, .inr (2, [.ref a0, .int (iI n)])), (a0, .inl (cy 0, K, .inl f))] (fun (r : Int32) (u : Unit) => r = iI (lastF n.toNat f x)) (fun u : Unit => [(h0, .inr (2, [.ref a0, .int (iI n)])), (a0, .inl (cy 0, K, .inl f))]) := by
  refine Ci_of (cc := cX2_lastPlaceWith) (maxL := 3) (ret := (some .int)) (by decide) rfl rfl ?_
  intro p e s m args below meth c A hx hb hr hts hown hlocks hml hP hK hD hT hA ls hl
  have hS : va_S A s.heap s.heap [] := va_S.rf
  have hl : lv_has ls 3 [(0, .ref h0), (1, .int x)] := hl
  have hiX2 : ∀ w ∈ wsX20, w ∈ wsX2_lastPlaceWith := by decide +kernel
  refine lv_aload_n hx hb dX2_lastPlaceWith_0 rfl (lv_at hl 0 rfl) ?_
  refine va_get (D := D) (ci := 2) (v := .int (iI n)) (C := RX2) (T := TX2) (N := 2) hx hb hts hiX2 hown hK hP 0 rfl rfl 1 (by decide) (hts (.fieldLink RX2 21 "BackwardSearch$Row" "length" "I") (by decide +kernel)) (fun _ h9 => h9) rfl dX2_lastPlaceWith_1 ?_
  refine lv_iconst (v := iI 1) hx hb dX2_lastPlaceWith_4 rfl ?_
  refine z_sub hx hb dX2_lastPlaceWith_5 ?_
  refine lv_istore_n (lv' := [(2, .int (iI (n - 1))), (0, .ref h0), (1, .int x)]) hx hb dX2_lastPlaceWith_6 rfl hl (by decide) rfl (fun ls hl => ?_)
  have hloop1 : ∀ (n1 : Nat) (i : Int) (hi : -1 ≤ i ∧ i < n) (hg : ∀ j : Nat, i < j → j < n.toNat → ¬ f j = x) (hm : i + 1 < (n1 : Int)) (H : Heap) (locs : List Loc) (ls : Array Slot) (hP : va_P D vwCl [(h0, .inr (2, [.ref a0, .int (iI n)])), (a0, .inl (cy 0, K, .inl f))] H) (hD : va_D A [(h0, .inr (2, [.ref a0, .int (iI n)])), (a0, .inl (cy 0, K, .inl f))]) (hS : va_S A s.heap H locs) (hl : lv_has ls 3 [(2, .int (iI i)), (0, .ref h0), (1, .int x)]), W p l e ({ frames := 0, cells := 0, slots := 0, locals := 0 } : Room) s m args below meth c H locs 0 0 (MQ below (va_Qi (fun (r : Int32) (u : Unit) => r = iI (lastF n.toNat f x)) (fun u t => va_P D vwCl ((fun u : Unit => [(h0, .inr (2, [.ref a0, .int (iI n)])), (a0, .inl (cy 0, K, .inl f))]) u) t.heap) A) args s 0 0 A) (F0 m 7 ls []) := by
    intro n1
    induction n1 with
    | zero =>
      intro i hi hg hm; exact absurd hm (by omega)
    | succ n1 ih1 =>
      intro i hi hg hm H locs ls hP hD hS hl
      refine lv_iload_n hx hb dX2_lastPlaceWith_7 rfl (lv_at hl 0 rfl) ?_
      refine z_if_lt (tgt := 29) hx hb (iI_t (by omega) (by omega)) dX2_lastPlaceWith_8 (by decide) (fun c2 => ?_) (fun c2 => ?_)
      · --
        refine lv_iconst (v := iI (-1)) hx hb dX2_lastPlaceWith_29 rfl ?_
        exact z_iret hx hb hr hlocks hS () (show (iI (-1)) = iI (lastF n.toNat f x) from (congrArg iI (lastF_eq ⟨by omega, by omega, fun h => absurd h (by omega), fun j h1 h2 => hg j (by omega) h2⟩))) hP dX2_lastPlaceWith_30
      · --
        refine lv_aload_n hx hb dX2_lastPlaceWith_11 rfl (lv_at hl 1 rfl) ?_
        refine va_get (D := D) (ci := 2) (v := .ref a0) (C := RX2) (T := TX2) (N := 2) hx hb hts hiX2 hown hK hP 0 rfl rfl 0 (by decide) (hts (.fieldLink RX2 15 "BackwardSearch$Row" "numbers" "[I") (by decide +kernel)) (fun _ h9 => h9) rfl dX2_lastPlaceWith_12 ?_
        refine lv_iload_n hx hb dX2_lastPlaceWith_15 rfl (lv_at hl 0 rfl) ?_
        refine z_iald hx hb hK hP 1 rfl (by omega) (by omega) (by omega) dX2_lastPlaceWith_16 ?_
        refine lv_iload_n hx hb dX2_lastPlaceWith_17 rfl (lv_at hl 2 rfl) ?_
        refine lv_icmp_ne (tgt := 23) hx hb dX2_lastPlaceWith_18 (by decide) (fun c3 => ?_) (fun c3 => ?_)
        · --
          refine z_iinc (lv' := [(2, .int (iI (i + (-1)))), (0, .ref h0), (1, .int x)]) hx hb dX2_lastPlaceWith_23 hl (k := 0) rfl (by decide) rfl (fun ls hl => ?_)
          refine lv_goto (tgt := 7) hx hb dX2_lastPlaceWith_26 (by decide) ?_
          exact ih1 (i + (-1)) (by omega) (lastw_step hi.1 hg (by assumption)) (by omega) _ _ _ hP hD hS (lv_sub hl [0, 1, 2] rfl)
        · --
          refine lv_iload_n hx hb dX2_lastPlaceWith_21 rfl (lv_at hl 0 rfl) ?_
          exact z_iret hx hb hr hlocks hS () (show (iI i) = iI (lastF n.toNat f x) from (congrArg iI (lastF_eq ⟨by omega, by omega, fun _ => by assumption, hg⟩))) hP dX2_lastPlaceWith_22
  exact hloop1 (Int.toNat ((n - 1) + 1) + 1) (n - 1) (by omega) (fun j h1 h2 => absurd h2 (by omega)) (by omega) _ _ _ hP hD hS (lv_sub hl [0, 1, 2] rfl)
