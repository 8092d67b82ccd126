theorem dX3_lookToTheEnd_0 : decode cX3_lookToTheEnd 0 = .ok (.iconst 0, 1) := by decide +kernel
theorem dX3_lookToTheEnd_1 : decode cX3_lookToTheEnd 1 = .ok (.istore_n 2, 1) := by decide +kernel
theorem dX3_lookToTheEnd_2 : decode cX3_lookToTheEnd 2 = .ok (.iload_n 2, 1) := by decide +kernel
theorem dX3_lookToTheEnd_3 : decode cX3_lookToTheEnd 3 = .ok (.bipush 60, 2) := by decide +kernel
theorem dX3_lookToTheEnd_5 : decode cX3_lookToTheEnd 5 = .ok (.if_icmp .ge 22, 3) := by decide +kernel
theorem dX3_lookToTheEnd_8 : decode cX3_lookToTheEnd 8 = .ok (.aload_n 0, 1) := by decide +kernel
theorem dX3_lookToTheEnd_9 : decode cX3_lookToTheEnd 9 = .ok (.invokevirtual 67, 3) := by decide +kernel
theorem dX3_lookToTheEnd_12 : decode cX3_lookToTheEnd 12 = .ok (.ifCond .ne 15, 3) := by decide +kernel
theorem dX3_lookToTheEnd_15 : decode cX3_lookToTheEnd 15 = .ok (.aload_n 0, 1) := by decide +kernel
theorem dX3_lookToTheEnd_16 : decode cX3_lookToTheEnd 16 = .ok (.aload_n 1, 1) := by decide +kernel
theorem dX3_lookToTheEnd_17 : decode cX3_lookToTheEnd 17 = .ok (.invokevirtual 70, 3) := by decide +kernel
theorem dX3_lookToTheEnd_20 : decode cX3_lookToTheEnd 20 = .ok (.pop, 1) := by decide +kernel
theorem dX3_lookToTheEnd_21 : decode cX3_lookToTheEnd 21 = .ok (.iinc 2 1, 3) := by decide +kernel
theorem dX3_lookToTheEnd_24 : decode cX3_lookToTheEnd 24 = .ok (.goto (-22), 3) := by decide +kernel
theorem dX3_lookToTheEnd_27 : decode cX3_lookToTheEnd 27 = .ok (.iload_n 2, 1) := by decide +kernel
theorem dX3_lookToTheEnd_28 : decode cX3_lookToTheEnd 28 = .ok (.ireturn, 1) := by decide +kernel
set_option maxRecDepth 20000 in
theorem ggX3_lookToTheEnd_X3_hasEnded : GoodIn wsX3_lookToTheEnd wsX3_hasEnded := goodIn_r _ [5, 6, 7, 8, 9, 10, 11, 12, 13, 14, 15, 16, 4, 17, 18, 19, 20, 21, 22, 23, 24, 25, 26, 77, 78, 79, 80, 81, 82, 83, 84, 85, 86] (by decide +kernel) (by decide +kernel)
set_option maxRecDepth 20000 in
theorem gX3_lookToTheEnd_X3_hasEnded : GoodIn wsX3_lookToTheEnd (wsV RX3 67 RX3 yX3_hasEnded wsX3_hasEnded) := goodIn_app (goodIn_of _ (by decide +kernel)) ggX3_lookToTheEnd_X3_hasEnded
set_option maxRecDepth 20000 in
theorem ggX3_lookToTheEnd_X3_lookOnce : GoodIn wsX3_lookToTheEnd wsX3_lookOnce := goodIn_r _ [30, 7, 31, 32, 6, 19, 20, 21, 22, 33, 34, 35, 36, 4, 37, 18, 23, 24, 25, 11, 26, 13, 38, 39, 40, 41, 42, 43, 44, 45, 46, 47, 48, 49, 50, 51, 52, 53, 54, 55, 56, 57, 58, 59, 60, 61, 62, 63, 64, 65, 66, 67, 68, 69, 70, 71, 72, 73, 74, 75, 76, 77, 78, 79, 80, 81, 82, 83, 84, 85, 86, 87, 88, 89] (by decide +kernel) (by decide +kernel)
set_option maxRecDepth 20000 in
theorem gX3_lookToTheEnd_X3_lookOnce : GoodIn wsX3_lookToTheEnd (wsV RX3 70 RX3 yX3_lookOnce wsX3_lookOnce) := goodIn_app (goodIn_of _ (by decide +kernel)) ggX3_lookToTheEnd_X3_lookOnce
theorem dX0_borderThatGrows_0 : decode cX0_borderThatGrows 0 = .ok (.iload_n 3, 1) := by decide +kernel
theorem dX0_borderThatGrows_1 : decode cX0_borderThatGrows 1 = .ok (.istore 4, 2) := by decide +kernel
theorem dX0_borderThatGrows_3 : decode cX0_borderThatGrows 3 = .ok (.iconst 0, 1) := by decide +kernel
theorem dX0_borderThatGrows_4 : decode cX0_borderThatGrows 4 = .ok (.istore 5, 2) := by decide +kernel
theorem dX0_borderThatGrows_6 : decode cX0_borderThatGrows 6 = .ok (.iload 5, 2) := by decide +kernel
theorem dX0_borderThatGrows_8 : decode cX0_borderThatGrows 8 = .ok (.aload_n 0, 1) := by decide +kernel
theorem dX0_borderThatGrows_9 : decode cX0_borderThatGrows 9 = .ok (.getfield 30, 3) := by decide +kernel
theorem dX0_borderThatGrows_12 : decode cX0_borderThatGrows 12 = .ok (.if_icmp .gt 74, 3) := by decide +kernel
theorem dX0_borderThatGrows_15 : decode cX0_borderThatGrows 15 = .ok (.iload 4, 2) := by decide +kernel
theorem dX0_borderThatGrows_17 : decode cX0_borderThatGrows 17 = .ok (.ifCond .le 30, 3) := by decide +kernel
theorem dX0_borderThatGrows_20 : decode cX0_borderThatGrows 20 = .ok (.iload 4, 2) := by decide +kernel
theorem dX0_borderThatGrows_22 : decode cX0_borderThatGrows 22 = .ok (.aload_n 0, 1) := by decide +kernel
theorem dX0_borderThatGrows_23 : decode cX0_borderThatGrows 23 = .ok (.getfield 30, 3) := by decide +kernel
theorem dX0_borderThatGrows_26 : decode cX0_borderThatGrows 26 = .ok (.if_icmp .gt 21, 3) := by decide +kernel
theorem dX0_borderThatGrows_29 : decode cX0_borderThatGrows 29 = .ok (.aload_n 1, 1) := by decide +kernel
theorem dX0_borderThatGrows_30 : decode cX0_borderThatGrows 30 = .ok (.iload_n 2, 1) := by decide +kernel
theorem dX0_borderThatGrows_31 : decode cX0_borderThatGrows 31 = .ok (.iconst 1, 1) := by decide +kernel
theorem dX0_borderThatGrows_32 : decode cX0_borderThatGrows 32 = .ok (.isub, 1) := by decide +kernel
theorem dX0_borderThatGrows_33 : decode cX0_borderThatGrows 33 = .ok (.invokevirtual 45, 3) := by decide +kernel
theorem dX0_borderThatGrows_36 : decode cX0_borderThatGrows 36 = .ok (.aload_n 1, 1) := by decide +kernel
theorem dX0_borderThatGrows_37 : decode cX0_borderThatGrows 37 = .ok (.iload 4, 2) := by decide +kernel
theorem dX0_borderThatGrows_39 : decode cX0_borderThatGrows 39 = .ok (.iconst 1, 1) := by decide +kernel
theorem dX0_borderThatGrows_40 : decode cX0_borderThatGrows 40 = .ok (.isub, 1) := by decide +kernel
theorem dX0_borderThatGrows_41 : decode cX0_borderThatGrows 41 = .ok (.invokevirtual 45, 3) := by decide +kernel
theorem dX0_borderThatGrows_44 : decode cX0_borderThatGrows 44 = .ok (.if_icmp .ne 6, 3) := by decide +kernel
theorem dX0_borderThatGrows_47 : decode cX0_borderThatGrows 47 = .ok (.iload 4, 2) := by decide +kernel
theorem dX0_borderThatGrows_49 : decode cX0_borderThatGrows 49 = .ok (.ireturn, 1) := by decide +kernel
theorem dX0_borderThatGrows_50 : decode cX0_borderThatGrows 50 = .ok (.aload_n 0, 1) := by decide +kernel
theorem dX0_borderThatGrows_51 : decode cX0_borderThatGrows 51 = .ok (.getfield 15, 3) := by decide +kernel
theorem dX0_borderThatGrows_54 : decode cX0_borderThatGrows 54 = .ok (.iload 4, 2) := by decide +kernel
theorem dX0_borderThatGrows_56 : decode cX0_borderThatGrows 56 = .ok (.iaload, 1) := by decide +kernel
theorem dX0_borderThatGrows_57 : decode cX0_borderThatGrows 57 = .ok (.ifCond .ne 14, 3) := by decide +kernel
theorem dX0_borderThatGrows_60 : decode cX0_borderThatGrows 60 = .ok (.aload_n 0, 1) := by decide +kernel
theorem dX0_borderThatGrows_61 : decode cX0_borderThatGrows 61 = .ok (.getfield 15, 3) := by decide +kernel
theorem dX0_borderThatGrows_64 : decode cX0_borderThatGrows 64 = .ok (.iload 4, 2) := by decide +kernel
theorem dX0_borderThatGrows_66 : decode cX0_borderThatGrows 66 = .ok (.iload 4, 2) := by decide +kernel
theorem dX0_borderThatGrows_68 : decode cX0_borderThatGrows 68 = .ok (.iload_n 2, 1) := by decide +kernel
theorem dX0_borderThatGrows_69 : decode cX0_borderThatGrows 69 = .ok (.isub, 1) := by decide +kernel
theorem dX0_borderThatGrows_70 : decode cX0_borderThatGrows 70 = .ok (.iastore, 1) := by decide +kernel
theorem dX0_borderThatGrows_71 : decode cX0_borderThatGrows 71 = .ok (.aload_n 0, 1) := by decide +kernel
theorem dX0_borderThatGrows_72 : decode cX0_borderThatGrows 72 = .ok (.getfield 9, 3) := by decide +kernel
theorem dX0_borderThatGrows_75 : decode cX0_borderThatGrows 75 = .ok (.iload 4, 2) := by decide +kernel
theorem dX0_borderThatGrows_77 : decode cX0_borderThatGrows 77 = .ok (.iaload, 1) := by decide +kernel
theorem dX0_borderThatGrows_78 : decode cX0_borderThatGrows 78 = .ok (.istore 4, 2) := by decide +kernel
theorem dX0_borderThatGrows_80 : decode cX0_borderThatGrows 80 = .ok (.iinc 5 1, 3) := by decide +kernel
theorem dX0_borderThatGrows_83 : decode cX0_borderThatGrows 83 = .ok (.goto (-77), 3) := by decide +kernel
theorem dX0_borderThatGrows_86 : decode cX0_borderThatGrows 86 = .ok (.iload 4, 2) := by decide +kernel
theorem dX0_borderThatGrows_88 : decode cX0_borderThatGrows 88 = .ok (.ireturn, 1) := by decide +kernel
set_option maxRecDepth 20000 in
theorem ggX0_borderThatGrows_X2_at : GoodIn wsX0_borderThatGrows wsX2_at := goodIn_r _ [8, 9, 10, 11, 12, 7, 13, 14, 18, 19] (by decide +kernel) (by decide +kernel)
set_option maxRecDepth 20000 in
theorem gX0_borderThatGrows_X2_at : GoodIn wsX0_borderThatGrows (wsV RX0 45 RX2 yX2_at wsX2_at) := goodIn_app (goodIn_of _ (by decide +kernel)) ggX0_borderThatGrows_X2_at
theorem grow_step {en e b t : Int} {W : Nat → Int32} {B K K3 : Nat → Int} {G : Int × (Nat → Int)} (ht : t ≤ en) (h0 : 0 < b) (h1 : b ≤ en) (h2 : ¬ W (e - 1).toNat = W (b - 1).toNat) (hg : growF en W B e (en + 1 - t).toNat b K = G) (h3 : (if K b.toNat = 0 then updZ K b.toNat (b - e) else K) = K3) : growF en W B e (en + 1 - (t + 1)).toNat (B b.toNat) K3 = G := by
  have h4 : ¬ (b ≤ 0 ∨ en < b ∨ W (e - 1).toNat = W (b - 1).toNat) := by
    rintro (h | h | h)
    · omega
    · omega
    · exact h2 h
  have h5 : (en + 1 - t).toNat = (en + 1 - (t + 1)).toNat + 1 := by omega
  rw [← hg, h5, growF_go h4, h3]

set_option maxHeartbeats 4000000 in
set_option maxRecDepth 100000 in
theorem c_X3_lookToTheEnd (l : Launch) (D : va_G) (cy : Nat → ClassId) (si : Nat) (li : Nat) (mi : Nat) (wi : Nat) (vi : Nat) (gi : Nat) (ei : Nat) (nl : Int) (Fl : Nat → Int32) (nw : Int) (Fw : Nat → Int32) (nf : Int) (Ff : Nat → Int32) (lr : Int) (er : Int) (pl : Int) (lk : Int) (cp : Int) (n0 : Nat) (b0 : Nat) (k0 : Nat) (en : Int) (B : Nat → Int) (Kf : Nat → Int) (fo : List Int32) (hb : 0 ≤ nl ∧ nl ≤ 60 ∧ 0 ≤ nw ∧ nw ≤ 16 ∧ 0 ≤ nf ∧ nf ≤ pl ∧ pl ≤ 100 ∧ nf ≤ 60 ∧ 0 ≤ lk ∧ lk ≤ pl ∧ 0 ≤ cp ∧ cp ≤ 16 * lk ∧ 0 ≤ lr ∧ lr ≤ 1 ∧ 0 ≤ er ∧ er ≤ 1) (he : en = nw) (hk : ∀ j : Nat, 0 ≤ Kf j ∧ Kf j ≤ 17) (hB : 0 ≤ B 0 ∧ B 0 ≤ 17 ∧ (0 < nw → 1 ≤ B 0)) (hrep : Rep nf Ff fo) : Ci l D cy yX3_lookToTheEnd wsX3_lookToTheEnd 4 90 [.ref si, .ref n0] [(si, .inr (3, [.ref li, .ref wi, .ref gi, .int (iI lr), .int (iI er), .int (iI pl), .int (iI lk), .int (iI cp)])), (li, .inr (2, [.ref mi, .int (iI nl)])), (mi, .inl (cy 0, 60, .inl Fl)), (wi, .inr (2, [.ref vi, .int (iI nw)])), (vi, .inl (cy 0, 16, .inl Fw)), (gi, .inr (2, [.ref ei, .int (iI nf)])), (ei, .inl (cy 0, 60, .inl Ff)), (n0, .inr (0, [.ref b0, .ref k0, .int (iI en)])), (b0, .inl (cy 0, 17, .inl (zI B))), (k0, .inl (cy 0, 17, .inl (zI Kf)))] (fun (r : Int32) (u : Int × Int × Int × Int × (Nat → Int32)) => r = iI (runS nl.toNat nw.toNat Fw Fl (skX (B 0) Kf lr er nw.toNat Fw Fl) 60 (pl, lk, cp, fo)).2 ∧ u.1 = (runS nl.toNat nw.toNat Fw Fl (skX (B 0) Kf lr er nw.toNat Fw Fl) 60 (pl, lk, cp, fo)).1.1 ∧ u.2.1 = (runS nl.toNat nw.toNat Fw Fl (skX (B 0) Kf lr er nw.toNat Fw Fl) 60 (pl, lk, cp, fo)).1.2.1 ∧ u.2.2.1 = (runS nl.toNat nw.toNat Fw Fl (skX (B 0) Kf lr er nw.toNat Fw Fl) 60 (pl, lk, cp, fo)).1.2.2.1 ∧ Rep u.2.2.2.1 u.2.2.2.2 (runS nl.toNat nw.toNat Fw Fl (skX (B 0) Kf lr er nw.toNat Fw Fl) 60 (pl, lk, cp, fo)).1.2.2.2 ∧ (0 ≤ nl ∧ nl ≤ 60 ∧ 0 ≤ nw ∧ nw ≤ 16 ∧ 0 ≤ u.2.2.2.1 ∧ u.2.2.2.1 ≤ u.1 ∧ u.1 ≤ 100 ∧ u.2.2.2.1 ≤ 60 ∧ 0 ≤ u.2.1 ∧ u.2.1 ≤ u.1 ∧ 0 ≤ u.2.2.1 ∧ u.2.2.1 ≤ 16 * u.2.1 ∧ 0 ≤ lr ∧ lr ≤ 1 ∧ 0 ≤ er ∧ er ≤ 1)) (fun u : Int × Int × Int × Int × (Nat → Int32) => [(si, .inr (3, [.ref li, .ref wi, .ref gi, .int (iI lr), .int (iI er), .int (iI u.1), .int (iI u.2.1), .int (iI u.2.2.1)])), (li, .inr (2, [.ref mi, .int (iI nl)])), (mi, .inl (cy 0, 60, .inl Fl)), (wi, .inr (2, [.ref vi, .int (iI nw)])), (vi, .inl (cy 0, 16, .inl Fw)), (gi, .inr (2, [.ref ei, .int (iI u.2.2.2.1)])), (ei, .inl (cy 0, 60, .inl u.2.2.2.2)), (n0, .inr (0, [.ref b0, .ref k0, .int (iI en)])), (b0, .inl (cy 0, 17, .inl (zI B))), (k0, .inl (cy 0, 17, .inl (zI Kf)))]) := by
  refine Ci_of (cc := cX3_lookToTheEnd) (maxL := 3) (ret := (some .int)) (by decide) rfl rfl ?_
  intro p e s m args below meth c A hx hb hr hts hown hlocks hml hP hK hD hT hA ls hl
  have hS : va_S A s.heap s.heap [] := va_S.rf
  have hl : lv_has ls 3 [(0, .ref si), (1, .ref n0)] := hl
  refine lv_iconst (v := iI 0) hx hb dX3_lookToTheEnd_0 rfl ?_
  refine lv_istore_n (lv' := [(2, .int (iI 0)), (0, .ref si), (1, .ref n0)]) hx hb dX3_lookToTheEnd_1 rfl hl (by decide) rfl (fun ls hl => ?_)
  have hloop1 : ∀ (n1 : Nat) (i : Int) (pl2 : Int) (lk2 : Int) (cp2 : Int) (nf2 : Int) (Ff2 : Nat → Int32) (fo2 : List Int32) (hi : 0 ≤ i ∧ i ≤ 60) (hb2 : 0 ≤ nl ∧ nl ≤ 60 ∧ 0 ≤ nw ∧ nw ≤ 16 ∧ 0 ≤ nf2 ∧ nf2 ≤ pl2 ∧ pl2 ≤ 100 ∧ nf2 ≤ 60 ∧ 0 ≤ lk2 ∧ lk2 ≤ pl2 ∧ 0 ≤ cp2 ∧ cp2 ≤ 16 * lk2 ∧ 0 ≤ lr ∧ lr ≤ 1 ∧ 0 ≤ er ∧ er ≤ 1) (hrep2 : Rep nf2 Ff2 fo2) (hrun : (runS nl.toNat nw.toNat Fw Fl (skX (B 0) Kf lr er nw.toNat Fw Fl) (60 - i).toNat (pl2, lk2, cp2, fo2)).1 = (runS nl.toNat nw.toNat Fw Fl (skX (B 0) Kf lr er nw.toNat Fw Fl) 60 (pl, lk, cp, fo)).1 ∧ i + (runS nl.toNat nw.toNat Fw Fl (skX (B 0) Kf lr er nw.toNat Fw Fl) (60 - i).toNat (pl2, lk2, cp2, fo2)).2 = (runS nl.toNat nw.toNat Fw Fl (skX (B 0) Kf lr er nw.toNat Fw Fl) 60 (pl, lk, cp, fo)).2) (hm : 60 - i < (n1 : Int)) (H : Heap) (locs : List Loc) (ls : Array Slot) (hP : va_P D vwCl [(si, .inr (3, [.ref li, .ref wi, .ref gi, .int (iI lr), .int (iI er), .int (iI pl2), .int (iI lk2), .int (iI cp2)])), (li, .inr (2, [.ref mi, .int (iI nl)])), (mi, .inl (cy 0, 60, .inl Fl)), (wi, .inr (2, [.ref vi, .int (iI nw)])), (vi, .inl (cy 0, 16, .inl Fw)), (gi, .inr (2, [.ref ei, .int (iI nf2)])), (ei, .inl (cy 0, 60, .inl Ff2)), (n0, .inr (0, [.ref b0, .ref k0, .int (iI en)])), (b0, .inl (cy 0, 17, .inl (zI B))), (k0, .inl (cy 0, 17, .inl (zI Kf)))] H) (hD : va_D A [(si, .inr (3, [.ref li, .ref wi, .ref gi, .int (iI lr), .int (iI er), .int (iI pl2), .int (iI lk2), .int (iI cp2)])), (li, .inr (2, [.ref mi, .int (iI nl)])), (mi, .inl (cy 0, 60, .inl Fl)), (wi, .inr (2, [.ref vi, .int (iI nw)])), (vi, .inl (cy 0, 16, .inl Fw)), (gi, .inr (2, [.ref ei, .int (iI nf2)])), (ei, .inl (cy 0, 60, .inl Ff2)), (n0, .inr (0, [.ref b0, .ref k0, .int (iI en)])), (b0, .inl (cy 0, 17, .inl (zI B))), (k0, .inl (cy 0, 17, .inl (zI Kf)))]) (hS : va_S A s.heap H locs) (hl : lv_has ls 3 [(2, .int (iI i)), (0, .ref si), (1, .ref n0)]), W p l e ({ frames := 4, cells := 0, slots := 0, locals := 90 } : Room) s m args below meth c H locs 0 0 (MQ below (va_Qi (fun (r : Int32) (u : Int × Int × Int × Int × (Nat → Int32)) => r = iI (runS nl.toNat nw.toNat Fw Fl (skX (B 0) Kf lr er nw.toNat Fw Fl) 60 (pl, lk, cp, fo)).2 ∧ u.1 = (runS nl.toNat nw.toNat Fw Fl (skX (B 0) Kf lr er nw.toNat Fw Fl) 60 (pl, lk, cp, fo)).1.1 ∧ u.2.1 = (runS nl.toNat nw.toNat Fw Fl (skX (B 0) Kf lr er nw.toNat Fw Fl) 60 (pl, lk, cp, fo)).1.2.1 ∧ u.2.2.1 = (runS nl.toNat nw.toNat Fw Fl (skX (B 0) Kf lr er nw.toNat Fw Fl) 60 (pl, lk, cp, fo)).1.2.2.1 ∧ Rep u.2.2.2.1 u.2.2.2.2 (runS nl.toNat nw.toNat Fw Fl (skX (B 0) Kf lr er nw.toNat Fw Fl) 60 (pl, lk, cp, fo)).1.2.2.2 ∧ (0 ≤ nl ∧ nl ≤ 60 ∧ 0 ≤ nw ∧ nw ≤ 16 ∧ 0 ≤ u.2.2.2.1 ∧ u.2.2.2.1 ≤ u.1 ∧ u.1 ≤ 100 ∧ u.2.2.2.1 ≤ 60 ∧ 0 ≤ u.2.1 ∧ u.2.1 ≤ u.1 ∧ 0 ≤ u.2.2.1 ∧ u.2.2.1 ≤ 16 * u.2.1 ∧ 0 ≤ lr ∧ lr ≤ 1 ∧ 0 ≤ er ∧ er ≤ 1)) (fun u t => va_P D vwCl ((fun u : Int × Int × Int × Int × (Nat → Int32) => [(si, .inr (3, [.ref li, .ref wi, .ref gi, .int (iI lr), .int (iI er), .int (iI u.1), .int (iI u.2.1), .int (iI u.2.2.1)])), (li, .inr (2, [.ref mi, .int (iI nl)])), (mi, .inl (cy 0, 60, .inl Fl)), (wi, .inr (2, [.ref vi, .int (iI nw)])), (vi, .inl (cy 0, 16, .inl Fw)), (gi, .inr (2, [.ref ei, .int (iI u.2.2.2.1)])), (ei, .inl (cy 0, 60, .inl u.2.2.2.2)), (n0, .inr (0, [.ref b0, .ref k0, .int (iI en)])), (b0, .inl (cy 0, 17, .inl (zI B))), (k0, .inl (cy 0, 17, .inl (zI Kf)))]) u) t.heap) A) args s 0 0 A) (F0 m 2 ls []) := by
    intro n1
    induction n1 with
    | zero =>
      intro i pl2 lk2 cp2 nf2 Ff2 fo2 hi hb2 hrep2 hrun hm; exact absurd hm (by omega)
    | succ n1 ih1 =>
      intro i pl2 lk2 cp2 nf2 Ff2 fo2 hi hb2 hrep2 hrun hm H locs ls hP hD hS hl
      refine lv_iload_n hx hb dX3_lookToTheEnd_2 rfl (lv_at hl 0 rfl) ?_
      refine lv_bipush (v := iI 60) hx hb dX3_lookToTheEnd_3 (by decide +kernel) ?_
      refine z_icmp_ge (tgt := 27) hx hb (iI_t (by omega) (by omega)) (iI_t (by omega) (by omega)) dX3_lookToTheEnd_5 (by decide) (fun c2 => ?_) (fun c2 => ?_)
      · --
        refine lv_iload_n hx hb dX3_lookToTheEnd_27 rfl (lv_at hl 0 rfl) ?_
        exact z_iret hx hb hr hlocks hS (pl2, lk2, cp2, nf2, Ff2) (show (iI i) = iI (runS nl.toNat nw.toNat Fw Fl (skX (B 0) Kf lr er nw.toNat Fw Fl) 60 (pl, lk, cp, fo)).2 ∧ pl2 = (runS nl.toNat nw.toNat Fw Fl (skX (B 0) Kf lr er nw.toNat Fw Fl) 60 (pl, lk, cp, fo)).1.1 ∧ lk2 = (runS nl.toNat nw.toNat Fw Fl (skX (B 0) Kf lr er nw.toNat Fw Fl) 60 (pl, lk, cp, fo)).1.2.1 ∧ cp2 = (runS nl.toNat nw.toNat Fw Fl (skX (B 0) Kf lr er nw.toNat Fw Fl) 60 (pl, lk, cp, fo)).1.2.2.1 ∧ Rep nf2 Ff2 (runS nl.toNat nw.toNat Fw Fl (skX (B 0) Kf lr er nw.toNat Fw Fl) 60 (pl, lk, cp, fo)).1.2.2.2 ∧ (0 ≤ nl ∧ nl ≤ 60 ∧ 0 ≤ nw ∧ nw ≤ 16 ∧ 0 ≤ nf2 ∧ nf2 ≤ pl2 ∧ pl2 ≤ 100 ∧ nf2 ≤ 60 ∧ 0 ≤ lk2 ∧ lk2 ≤ pl2 ∧ 0 ≤ cp2 ∧ cp2 ≤ 16 * lk2 ∧ 0 ≤ lr ∧ lr ≤ 1 ∧ 0 ≤ er ∧ er ≤ 1) from (by
      have hz : (runS nl.toNat nw.toNat Fw Fl (skX (B 0) Kf lr er nw.toNat Fw Fl) (60 - i).toNat (pl2, lk2, cp2, fo2)) = ((pl2, lk2, cp2, fo2), 0) := (by rw [show (60 - i).toNat = 0 by omega]; rfl)
      rw [hz] at hrun
      obtain ⟨h1, h2⟩ := hrun
      rw [← h1, ← h2]
      exact ⟨congrArg iI (by omega), rfl, rfl, rfl, hrep2, by omega⟩)) hP dX3_lookToTheEnd_28
      · --
        refine lv_aload_n hx hb dX3_lookToTheEnd_8 rfl (lv_at hl 1 rfl) ?_
        refine z_cVi (n := 0) (b := si) (As := []) (rest := []) ⟨hx, hb, hml, hown, hts⟩ (c_X3_hasEnded l D cy si li mi wi vi gi nl nw lr er pl2 lk2 cp2 (by omega)) gX3_lookToTheEnd_X3_hasEnded rfl (by decide +kernel) ⟨Nat.le_of_ble_eq_true rfl, Nat.le_of_ble_eq_true rfl⟩ hK hT hP hD hS hA [0, 1, 3] rfl rfl 0 3 rfl rfl rfl (fun _ => rfl) rfl hl.1 rfl (Nat.le_of_ble_eq_true rfl) dX3_lookToTheEnd_9 ⟨Nat.zero_le _, Nat.zero_le _⟩ (fun r_3 u_3 H locs hw_3 hP hD hS => ?_)
        have hw_3 : ((nw = 0 ∨ nl - nw + 1 ≤ pl2) ∧ r_3 = iI 1) ∨ (¬ (nw = 0 ∨ nl - nw + 1 ≤ pl2) ∧ r_3 = iI 0) := hw_3
        have hP : va_P D vwCl [(si, .inr (3, [.ref li, .ref wi, .ref gi, .int (iI lr), .int (iI er), .int (iI pl2), .int (iI lk2), .int (iI cp2)])), (li, .inr (2, [.ref mi, .int (iI nl)])), (mi, .inl (cy 0, 60, .inl Fl)), (wi, .inr (2, [.ref vi, .int (iI nw)])), (vi, .inl (cy 0, 16, .inl Fw)), (gi, .inr (2, [.ref ei, .int (iI nf2)])), (ei, .inl (cy 0, 60, .inl Ff2)), (n0, .inr (0, [.ref b0, .ref k0, .int (iI en)])), (b0, .inl (cy 0, 17, .inl (zI B))), (k0, .inl (cy 0, 17, .inl (zI Kf)))] H := hP
        have hD : va_D A [(si, .inr (3, [.ref li, .ref wi, .ref gi, .int (iI lr), .int (iI er), .int (iI pl2), .int (iI lk2), .int (iI cp2)])), (li, .inr (2, [.ref mi, .int (iI nl)])), (mi, .inl (cy 0, 60, .inl Fl)), (wi, .inr (2, [.ref vi, .int (iI nw)])), (vi, .inl (cy 0, 16, .inl Fw)), (gi, .inr (2, [.ref ei, .int (iI nf2)])), (ei, .inl (cy 0, 60, .inl Ff2)), (n0, .inr (0, [.ref b0, .ref k0, .int (iI en)])), (b0, .inl (cy 0, 17, .inl (zI B))), (k0, .inl (cy 0, 17, .inl (zI Kf)))] := hD
        rcases hw_3 with ⟨h_3, rfl⟩ | ⟨h_3, rfl⟩
        · --
          refine z_if_ne (tgt := 27) hx hb (iI_t (by omega) (by omega)) dX3_lookToTheEnd_12 (by decide) (fun _ => ?_) (fun c4 => absurd c4 (by omega))
          refine lv_iload_n hx hb dX3_lookToTheEnd_27 rfl (lv_at hl 0 rfl) ?_
          exact z_iret hx hb hr hlocks hS (pl2, lk2, cp2, nf2, Ff2) (show (iI i) = iI (runS nl.toNat nw.toNat Fw Fl (skX (B 0) Kf lr er nw.toNat Fw Fl) 60 (pl, lk, cp, fo)).2 ∧ pl2 = (runS nl.toNat nw.toNat Fw Fl (skX (B 0) Kf lr er nw.toNat Fw Fl) 60 (pl, lk, cp, fo)).1.1 ∧ lk2 = (runS nl.toNat nw.toNat Fw Fl (skX (B 0) Kf lr er nw.toNat Fw Fl) 60 (pl, lk, cp, fo)).1.2.1 ∧ cp2 = (runS nl.toNat nw.toNat Fw Fl (skX (B 0) Kf lr er nw.toNat Fw Fl) 60 (pl, lk, cp, fo)).1.2.2.1 ∧ Rep nf2 Ff2 (runS nl.toNat nw.toNat Fw Fl (skX (B 0) Kf lr er nw.toNat Fw Fl) 60 (pl, lk, cp, fo)).1.2.2.2 ∧ (0 ≤ nl ∧ nl ≤ 60 ∧ 0 ≤ nw ∧ nw ≤ 16 ∧ 0 ≤ nf2 ∧ nf2 ≤ pl2 ∧ pl2 ≤ 100 ∧ nf2 ≤ 60 ∧ 0 ≤ lk2 ∧ lk2 ≤ pl2 ∧ 0 ≤ cp2 ∧ cp2 ≤ 16 * lk2 ∧ 0 ≤ lr ∧ lr ≤ 1 ∧ 0 ≤ er ∧ er ≤ 1) from (by
      have hz : (runS nl.toNat nw.toNat Fw Fl (skX (B 0) Kf lr er nw.toNat Fw Fl) (60 - i).toNat (pl2, lk2, cp2, fo2)) = ((pl2, lk2, cp2, fo2), 0) := runS_over (by omega) _
      rw [hz] at hrun
      obtain ⟨h1, h2⟩ := hrun
      rw [← h1, ← h2]
      exact ⟨congrArg iI (by omega), rfl, rfl, rfl, hrep2, by omega⟩)) hP dX3_lookToTheEnd_28
        · --
          refine z_if_ne (tgt := 27) hx hb (iI_t (by omega) (by omega)) dX3_lookToTheEnd_12 (by decide) (fun c5 => absurd c5 (by omega)) (fun _ => ?_)
          refine lv_aload_n hx hb dX3_lookToTheEnd_15 rfl (lv_at hl 1 rfl) ?_
          refine lv_aload_n hx hb dX3_lookToTheEnd_16 rfl (lv_at hl 2 rfl) ?_
          refine z_cVi (n := 1) (b := si) (As := [.ref n0]) (rest := []) ⟨hx, hb, hml, hown, hts⟩ (c_X3_lookOnce l D cy si li mi wi vi gi ei nl Fl nw Fw nf2 Ff2 lr er pl2 lk2 cp2 n0 b0 k0 en B Kf (by omega) (by omega) (hk) (by omega)) gX3_lookToTheEnd_X3_lookOnce rfl (by decide +kernel) ⟨Nat.le_of_ble_eq_true rfl, Nat.le_of_ble_eq_true rfl⟩ hK hT hP hD hS hA [0, 1, 2, 3, 4, 5, 6, 7, 8, 9] rfl rfl 0 3 rfl rfl rfl (fun _ => rfl) rfl hl.1 rfl (Nat.le_of_ble_eq_true rfl) dX3_lookToTheEnd_17 ⟨Nat.zero_le _, Nat.zero_le _⟩ (fun r_6 u_6 H locs hw_6 hP hD hS => ?_)
          obtain ⟨cp1_6, nf1_6, Ff1_6⟩ := u_6
          have hw_6 : r_6 = iI (skX (B 0) Kf lr er nw.toNat Fw Fl pl2 (diffF nw.toNat Fw Fl pl2)) ∧ cp1_6 = cp2 + (nw - max (diffF nw.toNat Fw Fl pl2) 0) ∧ (((diffF nw.toNat Fw Fl pl2) = -1 ∧ nf1_6 = nf2 + 1 ∧ Ff1_6 = upd Ff2 nf2.toNat (iI pl2)) ∨ (¬ (diffF nw.toNat Fw Fl pl2) = -1 ∧ nf1_6 = nf2 ∧ Ff1_6 = Ff2)) := hw_6
          have hP : va_P D vwCl [(si, .inr (3, [.ref li, .ref wi, .ref gi, .int (iI lr), .int (iI er), .int (iI (pl2 + (skX (B 0) Kf lr er nw.toNat Fw Fl pl2 (diffF nw.toNat Fw Fl pl2)))), .int (iI (lk2 + 1)), .int (iI cp1_6)])), (li, .inr (2, [.ref mi, .int (iI nl)])), (mi, .inl (cy 0, 60, .inl Fl)), (wi, .inr (2, [.ref vi, .int (iI nw)])), (vi, .inl (cy 0, 16, .inl Fw)), (gi, .inr (2, [.ref ei, .int (iI nf1_6)])), (ei, .inl (cy 0, 60, .inl Ff1_6)), (n0, .inr (0, [.ref b0, .ref k0, .int (iI en)])), (b0, .inl (cy 0, 17, .inl (zI B))), (k0, .inl (cy 0, 17, .inl (zI Kf)))] H := hP
          have hD : va_D A [(si, .inr (3, [.ref li, .ref wi, .ref gi, .int (iI lr), .int (iI er), .int (iI (pl2 + (skX (B 0) Kf lr er nw.toNat Fw Fl pl2 (diffF nw.toNat Fw Fl pl2)))), .int (iI (lk2 + 1)), .int (iI cp1_6)])), (li, .inr (2, [.ref mi, .int (iI nl)])), (mi, .inl (cy 0, 60, .inl Fl)), (wi, .inr (2, [.ref vi, .int (iI nw)])), (vi, .inl (cy 0, 16, .inl Fw)), (gi, .inr (2, [.ref ei, .int (iI nf1_6)])), (ei, .inl (cy 0, 60, .inl Ff1_6)), (n0, .inr (0, [.ref b0, .ref k0, .int (iI en)])), (b0, .inl (cy 0, 17, .inl (zI B))), (k0, .inl (cy 0, 17, .inl (zI Kf)))] := hD
          obtain ⟨rfl, rfl, h_6⟩ := hw_6
          refine lv_pop hx hb dX3_lookToTheEnd_20 rfl ?_
          refine z_iinc (lv' := [(2, .int (iI (i + 1))), (0, .ref si), (1, .ref n0)]) hx hb dX3_lookToTheEnd_21 hl (k := 0) rfl (by decide) rfl (fun ls hl => ?_)
          refine lv_goto (tgt := 2) hx hb dX3_lookToTheEnd_24 (by decide) ?_
          have hdr := diffF_rng nw.toNat Fw Fl pl2
          have hsr := skX_rng (lr := lr) (er := er) (m := nw.toNat) (W := Fw) (L := Fl) (pl := pl2) (d := diffF nw.toNat Fw Fl pl2) (B0 := B 0) (Kf := Kf) (by omega) hk (by omega) (by omega) (by omega)
          have hsp := skX_pos (Kf := Kf) (lr := lr) (er := er) (m := nw.toNat) (W := Fw) (L := Fl) (pl := pl2) (d := diffF nw.toNat Fw Fl pl2) (B0 := B 0) (by omega) (by omega)
          exact ih1 (i + 1) (pl2 + (skX (B 0) Kf lr er nw.toNat Fw Fl pl2 (diffF nw.toNat Fw Fl pl2))) (lk2 + 1) (cp2 + (nw - max (diffF nw.toNat Fw Fl pl2) 0)) nf1_6 Ff1_6 (if (diffF nw.toNat Fw Fl pl2) = -1 then fo2 ++ [iI pl2] else fo2) (by omega) (by omega) (look_rep hrep2 (by assumption)) (run_step (by omega) (by omega) (by omega) (by omega) hrun) (by omega) _ _ _ hP hD hS (lv_sub hl [0, 1, 2] rfl)
  exact hloop1 (Int.toNat (60 - 0) + 1) 0 pl lk cp nf Ff fo (by omega) (by omega) (hrep) (⟨rfl, by rw [Int.zero_add]; rfl⟩) (by omega) _ _ _ hP hD hS (lv_sub hl [0, 1, 2] rfl)
set_option maxHeartbeats 4000000 in
set_option maxRecDepth 100000 in
theorem c_X0_borderThatGrows (l : Launch) (D : va_G) (cy : Nat → ClassId) (n0 : Nat) (b0 : Nat) (k0 : Nat) (en : Int) (B : Nat → Int) (Kf : Nat → Int) (wi : Nat) (vi : Nat) (nw : Int) (Fw : Nat → Int32) (en2 : Int) (x : Int) (hb : 0 ≤ nw ∧ nw ≤ 16 ∧ en = nw ∧ 0 < en2 ∧ en2 ≤ en ∧ en2 + 1 ≤ x ∧ x ≤ en + 1) (hB : ∀ j : Nat, en2 ≤ j → (j : Int) ≤ en → (j : Int) + 1 ≤ B j ∧ B j ≤ en + 1) (hk : ∀ j : Nat, 0 ≤ Kf j ∧ Kf j ≤ 17) : Ci l D cy yX0_borderThatGrows wsX0_borderThatGrows 2 42 [.ref n0, .ref wi, .int (iI en2), .int (iI x)] [(n0, .inr (0, [.ref b0, .ref k0, .int (iI en)])), (b0, .inl (cy 0, 17, .inl (zI B))), (k0, .inl (cy 0, 17, .inl (zI Kf))), (wi, .inr (2, [.ref vi, .int (iI nw)])), (vi, .inl (cy 0, 16, .inl Fw))] (fun (r : Int32) (u : (Nat → Int)) => r = iI (growF en Fw B en2 (en + 1).toNat x Kf).1 ∧ u = (growF en Fw B en2 (en + 1).toNat x Kf).2) (fun u : (Nat → Int) => [(n0, .inr (0, [.ref b0, .ref k0, .int (iI en)])), (b0, .inl (cy 0, 17, .inl (zI B))), (k0, .inl (cy 0, 17, .inl (zI u))), (wi, .inr (2, [.ref vi, .int (iI nw)])), (vi, .inl (cy 0, 16, .inl Fw))]) := by
  refine Ci_of (cc := cX0_borderThatGrows) (maxL := 6) (ret := (some .int)) (by decide) rfl rfl ?_
  intro p e s m args below meth c A hx hb hr hts hown hlocks hml hP hK hD hT hA ls hl
  have hS : va_S A s.heap s.heap [] := va_S.rf
  have hl : lv_has ls 6 [(0, .ref n0), (1, .ref wi), (2, .int (iI en2)), (3, .int (iI x))] := hl
  have hiX0 : ∀ w ∈ wsX00, w ∈ wsX0_borderThatGrows := by decide +kernel
  refine lv_iload_n hx hb dX0_borderThatGrows_0 rfl (lv_at hl 3 rfl) ?_
  refine lv_istore (lv' := [(4, .int (iI x)), (0, .ref n0), (1, .ref wi), (2, .int (iI en2)), (3, .int (iI x))]) hx hb dX0_borderThatGrows_1 hl (by decide) rfl (fun ls hl => ?_)
  refine lv_iconst (v := iI 0) hx hb dX0_borderThatGrows_3 rfl ?_
  refine lv_istore (lv' := [(5, .int (iI 0)), (4, .int (iI x)), (0, .ref n0), (1, .ref wi), (2, .int (iI en2)), (3, .int (iI x))]) hx hb dX0_borderThatGrows_4 hl (by decide) rfl (fun ls hl => ?_)
  have hloop1 : ∀ (n1 : Nat) (t : Int) (b : Int) (K2 : Nat → Int) (ht : 0 ≤ t ∧ t ≤ en + 1) (hbb : en2 + 1 ≤ b ∧ b ≤ en + 1) (hk2 : ∀ j : Nat, 0 ≤ K2 j ∧ K2 j ≤ 17) (hg : (growF en Fw B en2 (en + 1 - t).toNat b K2) = (growF en Fw B en2 (en + 1).toNat x Kf)) (hm : en + 1 - t < (n1 : Int)) (H : Heap) (locs : List Loc) (ls : Array Slot) (hP : va_P D vwCl [(n0, .inr (0, [.ref b0, .ref k0, .int (iI en)])), (b0, .inl (cy 0, 17, .inl (zI B))), (k0, .inl (cy 0, 17, .inl (zI K2))), (wi, .inr (2, [.ref vi, .int (iI nw)])), (vi, .inl (cy 0, 16, .inl Fw))] H) (hD : va_D A [(n0, .inr (0, [.ref b0, .ref k0, .int (iI en)])), (b0, .inl (cy 0, 17, .inl (zI B))), (k0, .inl (cy 0, 17, .inl (zI K2))), (wi, .inr (2, [.ref vi, .int (iI nw)])), (vi, .inl (cy 0, 16, .inl Fw))]) (hS : va_S A s.heap H locs) (hl : lv_has ls 6 [(5, .int (iI t)), (4, .int (iI b)), (0, .ref n0), (1, .ref wi), (2, .int (iI en2)), (3, .int (iI x))]), W p l e ({ frames := 2, cells := 0, slots := 0, locals := 42 } : Room) s m args below meth c H locs 0 0 (MQ below (va_Qi (fun (r : Int32) (u : (Nat → Int)) => r = iI (growF en Fw B en2 (en + 1).toNat x Kf).1 ∧ u = (growF en Fw B en2 (en + 1).toNat x Kf).2) (fun u t => va_P D vwCl ((fun u : (Nat → Int) => [(n0, .inr (0, [.ref b0, .ref k0, .int (iI en)])), (b0, .inl (cy 0, 17, .inl (zI B))), (k0, .inl (cy 0, 17, .inl (zI u))), (wi, .inr (2, [.ref vi, .int (iI nw)])), (vi, .inl (cy 0, 16, .inl Fw))]) u) t.heap) A) args s 0 0 A) (F0 m 6 ls []) := by
    intro n1
    induction n1 with
    | zero =>
      intro t b K2 ht hbb hk2 hg hm; exact absurd hm (by omega)
    | succ n1 ih1 =>
      intro t b K2 ht hbb hk2 hg hm H locs ls hP hD hS hl
      have hkb := hk2 b.toNat
      refine lv_iload hx hb dX0_borderThatGrows_6 (lv_at hl 0 rfl) ?_
      refine lv_aload_n hx hb dX0_borderThatGrows_8 rfl (lv_at hl 2 rfl) ?_
      refine va_get (D := D) (ci := 0) (v := .int (iI en)) (C := RX0) (T := TX0) (N := 3) hx hb hts hiX0 hown hK hP 0 rfl rfl 2 (by decide) (hts (.fieldLink RX0 30 "BackwardSearch$Ends" "length" "I") (by decide +kernel)) (fun _ h9 => h9) rfl dX0_borderThatGrows_9 ?_
      refine z_icmp_gt (tgt := 86) hx hb (iI_t (by omega) (by omega)) (iI_t (by omega) (by omega)) dX0_borderThatGrows_12 (by decide) (fun c2 => ?_) (fun c2 => ?_)
      · --
        refine lv_iload hx hb dX0_borderThatGrows_86 (lv_at hl 1 rfl) ?_
        exact z_iret hx hb hr hlocks hS (K2) (show (iI b) = iI (growF en Fw B en2 (en + 1).toNat x Kf).1 ∧ K2 = (growF en Fw B en2 (en + 1).toNat x Kf).2 from (by
      have hz : (growF en Fw B en2 (en + 1 - t).toNat b K2) = (b, K2) := (by rw [show (en + 1 - t).toNat = 0 by omega]; rfl)
      rw [hz] at hg
      rw [← hg]
      exact ⟨rfl, rfl⟩)) hP dX0_borderThatGrows_88
      · --
        refine lv_iload hx hb dX0_borderThatGrows_15 (lv_at hl 1 rfl) ?_
        refine z_if_le (tgt := 47) hx hb (iI_t (by omega) (by omega)) dX0_borderThatGrows_17 (by decide) (fun c3 => ?_) (fun c3 => ?_)
        · --
          refine lv_iload hx hb dX0_borderThatGrows_47 (lv_at hl 1 rfl) ?_
          exact z_iret hx hb hr hlocks hS (K2) (show (iI b) = iI (growF en Fw B en2 (en + 1).toNat x Kf).1 ∧ K2 = (growF en Fw B en2 (en + 1).toNat x Kf).2 from (by
      have hz : (growF en Fw B en2 (en + 1 - t).toNat b K2) = (b, K2) := growF_stop (by first | exact Or.inl (by omega) | exact Or.inr (Or.inl (by omega)) | exact Or.inr (Or.inr (by assumption))) _
      rw [hz] at hg
      rw [← hg]
      exact ⟨rfl, rfl⟩)) hP dX0_borderThatGrows_49
        · --
          refine lv_iload hx hb dX0_borderThatGrows_20 (lv_at hl 1 rfl) ?_
          refine lv_aload_n hx hb dX0_borderThatGrows_22 rfl (lv_at hl 2 rfl) ?_
          refine va_get (D := D) (ci := 0) (v := .int (iI en)) (C := RX0) (T := TX0) (N := 3) hx hb hts hiX0 hown hK hP 0 rfl rfl 2 (by decide) (hts (.fieldLink RX0 30 "BackwardSearch$Ends" "length" "I") (by decide +kernel)) (fun _ h9 => h9) rfl dX0_borderThatGrows_23 ?_
          refine z_icmp_gt (tgt := 47) hx hb (iI_t (by omega) (by omega)) (iI_t (by omega) (by omega)) dX0_borderThatGrows_26 (by decide) (fun c4 => ?_) (fun c4 => ?_)
          · --
            refine lv_iload hx hb dX0_borderThatGrows_47 (lv_at hl 1 rfl) ?_
            exact z_iret hx hb hr hlocks hS (K2) (show (iI b) = iI (growF en Fw B en2 (en + 1).toNat x Kf).1 ∧ K2 = (growF en Fw B en2 (en + 1).toNat x Kf).2 from (by
      have hz : (growF en Fw B en2 (en + 1 - t).toNat b K2) = (b, K2) := growF_stop (by first | exact Or.inl (by omega) | exact Or.inr (Or.inl (by omega)) | exact Or.inr (Or.inr (by assumption))) _
      rw [hz] at hg
      rw [← hg]
      exact ⟨rfl, rfl⟩)) hP dX0_borderThatGrows_49
          · --
            refine lv_aload_n hx hb dX0_borderThatGrows_29 rfl (lv_at hl 3 rfl) ?_
            refine lv_iload_n hx hb dX0_borderThatGrows_30 rfl (lv_at hl 4 rfl) ?_
            refine lv_iconst (v := iI 1) hx hb dX0_borderThatGrows_31 rfl ?_
            refine z_sub hx hb dX0_borderThatGrows_32 ?_
            refine z_cVi (n := 1) (b := wi) (As := [.int (iI (en2 - 1))]) (rest := []) ⟨hx, hb, hml, hown, hts⟩ (c_X2_at l D cy wi vi 16 nw Fw (en2 - 1) (by omega) (by omega)) gX0_borderThatGrows_X2_at rfl (by decide +kernel) ⟨Nat.le_of_ble_eq_true rfl, Nat.le_of_ble_eq_true rfl⟩ hK hT hP hD hS hA [3, 4] rfl rfl 3 2 rfl rfl rfl (fun _ => rfl) rfl hl.1 rfl (Nat.le_of_ble_eq_true rfl) dX0_borderThatGrows_33 ⟨Nat.zero_le _, Nat.zero_le _⟩ (fun r_5 u_5 H locs hw_5 hP hD hS => ?_)
            have hw_5 : (0 ≤ (en2 - 1) ∧ (en2 - 1) < nw ∧ r_5 = Fw (en2 - 1).toNat) ∨ (¬ (0 ≤ (en2 - 1) ∧ (en2 - 1) < nw) ∧ r_5 = iI (-1)) := hw_5
            have hP : va_P D vwCl [(n0, .inr (0, [.ref b0, .ref k0, .int (iI en)])), (b0, .inl (cy 0, 17, .inl (zI B))), (k0, .inl (cy 0, 17, .inl (zI K2))), (wi, .inr (2, [.ref vi, .int (iI nw)])), (vi, .inl (cy 0, 16, .inl Fw))] H := hP
            have hD : va_D A [(n0, .inr (0, [.ref b0, .ref k0, .int (iI en)])), (b0, .inl (cy 0, 17, .inl (zI B))), (k0, .inl (cy 0, 17, .inl (zI K2))), (wi, .inr (2, [.ref vi, .int (iI nw)])), (vi, .inl (cy 0, 16, .inl Fw))] := hD
            rcases hw_5 with ⟨h_5, g_5, rfl⟩ | ⟨h_5, rfl⟩
            · --
              refine lv_aload_n hx hb dX0_borderThatGrows_36 rfl (lv_at hl 3 rfl) ?_
              refine lv_iload hx hb dX0_borderThatGrows_37 (lv_at hl 1 rfl) ?_
              refine lv_iconst (v := iI 1) hx hb dX0_borderThatGrows_39 rfl ?_
              refine z_sub hx hb dX0_borderThatGrows_40 ?_
              refine z_cVi (n := 1) (b := wi) (As := [.int (iI (b - 1))]) (rest := [.int (Fw (en2 - 1).toNat)]) ⟨hx, hb, hml, hown, hts⟩ (c_X2_at l D cy wi vi 16 nw Fw (b - 1) (by omega) (by omega)) gX0_borderThatGrows_X2_at rfl (by decide +kernel) ⟨Nat.le_of_ble_eq_true rfl, Nat.le_of_ble_eq_true rfl⟩ hK hT hP hD hS hA [3, 4] rfl rfl 3 2 rfl rfl rfl (fun _ => rfl) rfl hl.1 rfl (Nat.le_of_ble_eq_true rfl) dX0_borderThatGrows_41 ⟨Nat.zero_le _, Nat.zero_le _⟩ (fun r_6 u_6 H locs hw_6 hP hD hS => ?_)
              have hw_6 : (0 ≤ (b - 1) ∧ (b - 1) < nw ∧ r_6 = Fw (b - 1).toNat) ∨ (¬ (0 ≤ (b - 1) ∧ (b - 1) < nw) ∧ r_6 = iI (-1)) := hw_6
              have hP : va_P D vwCl [(n0, .inr (0, [.ref b0, .ref k0, .int (iI en)])), (b0, .inl (cy 0, 17, .inl (zI B))), (k0, .inl (cy 0, 17, .inl (zI K2))), (wi, .inr (2, [.ref vi, .int (iI nw)])), (vi, .inl (cy 0, 16, .inl Fw))] H := hP
              have hD : va_D A [(n0, .inr (0, [.ref b0, .ref k0, .int (iI en)])), (b0, .inl (cy 0, 17, .inl (zI B))), (k0, .inl (cy 0, 17, .inl (zI K2))), (wi, .inr (2, [.ref vi, .int (iI nw)])), (vi, .inl (cy 0, 16, .inl Fw))] := hD
              rcases hw_6 with ⟨h_6, g_6, rfl⟩ | ⟨h_6, rfl⟩
              · --
                refine lv_icmp_ne (tgt := 50) hx hb dX0_borderThatGrows_44 (by decide) (fun c7 => ?_) (fun c7 => ?_)
                · --
                  refine lv_aload_n hx hb dX0_borderThatGrows_50 rfl (lv_at hl 2 rfl) ?_
                  refine va_get (D := D) (ci := 0) (v := .ref k0) (C := RX0) (T := TX0) (N := 3) hx hb hts hiX0 hown hK hP 0 rfl rfl 1 (by decide) (hts (.fieldLink RX0 15 "BackwardSearch$Ends" "skipOf" "[I") (by decide +kernel)) (fun _ h9 => h9) rfl dX0_borderThatGrows_51 ?_
                  refine lv_iload hx hb dX0_borderThatGrows_54 (lv_at hl 1 rfl) ?_
                  refine z_iald hx hb hK hP 2 rfl (by omega) (by omega) (by omega) dX0_borderThatGrows_56 ?_
                  refine z_if_ne (tgt := 71) hx hb (iI_t (by omega) (by omega)) dX0_borderThatGrows_57 (by decide) (fun c8 => ?_) (fun c8 => ?_)
                  · --
                    refine lv_aload_n hx hb dX0_borderThatGrows_71 rfl (lv_at hl 2 rfl) ?_
                    refine va_get (D := D) (ci := 0) (v := .ref b0) (C := RX0) (T := TX0) (N := 3) hx hb hts hiX0 hown hK hP 0 rfl rfl 0 (by decide) (hts (.fieldLink RX0 9 "BackwardSearch$Ends" "borderOf" "[I") (by decide +kernel)) (fun _ h9 => h9) rfl dX0_borderThatGrows_72 ?_
                    refine lv_iload hx hb dX0_borderThatGrows_75 (lv_at hl 1 rfl) ?_
                    refine z_iald hx hb hK hP 1 rfl (by omega) (by omega) (by omega) dX0_borderThatGrows_77 ?_
                    refine lv_istore (lv' := [(4, .int (iI (B b.toNat))), (5, .int (iI t)), (0, .ref n0), (1, .ref wi), (2, .int (iI en2)), (3, .int (iI x))]) hx hb dX0_borderThatGrows_78 hl (by decide) rfl (fun ls hl => ?_)
                    refine z_iinc (lv' := [(5, .int (iI (t + 1))), (4, .int (iI (B b.toNat))), (0, .ref n0), (1, .ref wi), (2, .int (iI en2)), (3, .int (iI x))]) hx hb dX0_borderThatGrows_80 hl (k := 1) rfl (by decide) rfl (fun ls hl => ?_)
                    refine lv_goto (tgt := 6) hx hb dX0_borderThatGrows_83 (by decide) ?_
                    have hbx := hB b.toNat (by omega) (by omega)
                    exact ih1 (t + 1) (B b.toNat) K2 (by omega) (by omega) (by first | exact hk2 | exact updZ_rng hk2 (by omega)) (grow_step (by omega) (by omega) (by omega) (by assumption) hg (by first | rw [if_pos (by assumption)] | rw [if_neg (by assumption)])) (by omega) _ _ _ hP hD hS (lv_sub hl [0, 1, 2, 3, 4, 5] rfl)
                  · --
                    refine lv_aload_n hx hb dX0_borderThatGrows_60 rfl (lv_at hl 2 rfl) ?_
                    refine va_get (D := D) (ci := 0) (v := .ref k0) (C := RX0) (T := TX0) (N := 3) hx hb hts hiX0 hown hK hP 0 rfl rfl 1 (by decide) (hts (.fieldLink RX0 15 "BackwardSearch$Ends" "skipOf" "[I") (by decide +kernel)) (fun _ h9 => h9) rfl dX0_borderThatGrows_61 ?_
                    refine lv_iload hx hb dX0_borderThatGrows_64 (lv_at hl 1 rfl) ?_
                    refine lv_iload hx hb dX0_borderThatGrows_66 (lv_at hl 1 rfl) ?_
                    refine lv_iload_n hx hb dX0_borderThatGrows_68 rfl (lv_at hl 4 rfl) ?_
                    refine z_sub hx hb dX0_borderThatGrows_69 ?_
                    refine z_iast hx hb hK hP hD hS 2 rfl (by omega) (by omega) (by omega) dX0_borderThatGrows_70 (fun H locs hP hD hS => ?_)
                    rw [zI_upd] at hP hD
                    have hP : va_P D vwCl [(n0, .inr (0, [.ref b0, .ref k0, .int (iI en)])), (b0, .inl (cy 0, 17, .inl (zI B))), (k0, .inl (cy 0, 17, .inl (zI (updZ K2 b.toNat (b - en2))))), (wi, .inr (2, [.ref vi, .int (iI nw)])), (vi, .inl (cy 0, 16, .inl Fw))] H := hP
                    have hD : va_D A [(n0, .inr (0, [.ref b0, .ref k0, .int (iI en)])), (b0, .inl (cy 0, 17, .inl (zI B))), (k0, .inl (cy 0, 17, .inl (zI (updZ K2 b.toNat (b - en2))))), (wi, .inr (2, [.ref vi, .int (iI nw)])), (vi, .inl (cy 0, 16, .inl Fw))] := hD
                    refine lv_aload_n hx hb dX0_borderThatGrows_71 rfl (lv_at hl 2 rfl) ?_
                    refine va_get (D := D) (ci := 0) (v := .ref b0) (C := RX0) (T := TX0) (N := 3) hx hb hts hiX0 hown hK hP 0 rfl rfl 0 (by decide) (hts (.fieldLink RX0 9 "BackwardSearch$Ends" "borderOf" "[I") (by decide +kernel)) (fun _ h9 => h9) rfl dX0_borderThatGrows_72 ?_
                    refine lv_iload hx hb dX0_borderThatGrows_75 (lv_at hl 1 rfl) ?_
                    refine z_iald hx hb hK hP 1 rfl (by omega) (by omega) (by omega) dX0_borderThatGrows_77 ?_
                    refine lv_istore (lv' := [(4, .int (iI (B b.toNat))), (5, .int (iI t)), (0, .ref n0), (1, .ref wi), (2, .int (iI en2)), (3, .int (iI x))]) hx hb dX0_borderThatGrows_78 hl (by decide) rfl (fun ls hl => ?_)
                    refine z_iinc (lv' := [(5, .int (iI (t + 1))), (4, .int (iI (B b.toNat))), (0, .ref n0), (1, .ref wi), (2, .int (iI en2)), (3, .int (iI x))]) hx hb dX0_borderThatGrows_80 hl (k := 1) rfl (by decide) rfl (fun ls hl => ?_)
                    refine lv_goto (tgt := 6) hx hb dX0_borderThatGrows_83 (by decide) ?_
                    have hbx := hB b.toNat (by omega) (by omega)
                    exact ih1 (t + 1) (B b.toNat) (updZ K2 b.toNat (b - en2)) (by omega) (by omega) (by first | exact hk2 | exact updZ_rng hk2 (by omega)) (grow_step (by omega) (by omega) (by omega) (by assumption) hg (by first | rw [if_pos (by assumption)] | rw [if_neg (by assumption)])) (by omega) _ _ _ hP hD hS (lv_sub hl [0, 1, 2, 3, 4, 5] rfl)
                · --
                  refine lv_iload hx hb dX0_borderThatGrows_47 (lv_at hl 1 rfl) ?_
                  exact z_iret hx hb hr hlocks hS (K2) (show (iI b) = iI (growF en Fw B en2 (en + 1).toNat x Kf).1 ∧ K2 = (growF en Fw B en2 (en + 1).toNat x Kf).2 from (by
      have hz : (growF en Fw B en2 (en + 1 - t).toNat b K2) = (b, K2) := growF_stop (by first | exact Or.inl (by omega) | exact Or.inr (Or.inl (by omega)) | exact Or.inr (Or.inr (by assumption))) _
      rw [hz] at hg
      rw [← hg]
      exact ⟨rfl, rfl⟩)) hP dX0_borderThatGrows_49
              · --
                exfalso; omega
            · --
              exfalso; omega
  exact hloop1 (Int.toNat (en + 1 - 0) + 1) 0 x Kf (by omega) (by omega) (hk) (by rw [show en + 1 - 0 = en + 1 by omega]) (by omega) _ _ _ hP hD hS (lv_sub hl [0, 1, 2, 3, 4, 5] rfl)
