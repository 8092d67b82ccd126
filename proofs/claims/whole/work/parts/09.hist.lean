theorem dX1_size_0 : decode cX1_size 0 = .ok (.aload_n 0, 1) := by decide +kernel
theorem dX1_size_1 : decode cX1_size 1 = .ok (.getfield 18, 3) := by decide +kernel
theorem dX1_size_4 : decode cX1_size 4 = .ok (.ireturn, 1) := by decide +kernel
theorem dX1_keep_0 : decode cX1_keep 0 = .ok (.aload_n 0, 1) := by decide +kernel
theorem dX1_keep_1 : decode cX1_keep 1 = .ok (.getfield 11, 3) := by decide +kernel
theorem dX1_keep_4 : decode cX1_keep 4 = .ok (.iconst 0, 1) := by decide +kernel
theorem dX1_keep_5 : decode cX1_keep 5 = .ok (.aaload, 1) := by decide +kernel
theorem dX1_keep_6 : decode cX1_keep 6 = .ok (.astore_n 2, 1) := by decide +kernel
theorem dX1_keep_7 : decode cX1_keep 7 = .ok (.iconst 1, 1) := by decide +kernel
theorem dX1_keep_8 : decode cX1_keep 8 = .ok (.istore_n 3, 1) := by decide +kernel
theorem dX1_keep_9 : decode cX1_keep 9 = .ok (.iload_n 3, 1) := by decide +kernel
theorem dX1_keep_10 : decode cX1_keep 10 = .ok (.aload_n 0, 1) := by decide +kernel
theorem dX1_keep_11 : decode cX1_keep 11 = .ok (.getfield 11, 3) := by decide +kernel
theorem dX1_keep_14 : decode cX1_keep 14 = .ok (.arraylength, 1) := by decide +kernel
theorem dX1_keep_15 : decode cX1_keep 15 = .ok (.if_icmp .ge 23, 3) := by decide +kernel
theorem dX1_keep_18 : decode cX1_keep 18 = .ok (.aload_n 0, 1) := by decide +kernel
theorem dX1_keep_19 : decode cX1_keep 19 = .ok (.getfield 11, 3) := by decide +kernel
theorem dX1_keep_22 : decode cX1_keep 22 = .ok (.iload_n 3, 1) := by decide +kernel
theorem dX1_keep_23 : decode cX1_keep 23 = .ok (.iconst 1, 1) := by decide +kernel
theorem dX1_keep_24 : decode cX1_keep 24 = .ok (.isub, 1) := by decide +kernel
theorem dX1_keep_25 : decode cX1_keep 25 = .ok (.aload_n 0, 1) := by decide +kernel
theorem dX1_keep_26 : decode cX1_keep 26 = .ok (.getfield 11, 3) := by decide +kernel
theorem dX1_keep_29 : decode cX1_keep 29 = .ok (.iload_n 3, 1) := by decide +kernel
theorem dX1_keep_30 : decode cX1_keep 30 = .ok (.aaload, 1) := by decide +kernel
theorem dX1_keep_31 : decode cX1_keep 31 = .ok (.aastore, 1) := by decide +kernel
theorem dX1_keep_32 : decode cX1_keep 32 = .ok (.iinc 3 1, 3) := by decide +kernel
theorem dX1_keep_35 : decode cX1_keep 35 = .ok (.goto (-26), 3) := by decide +kernel
theorem dX1_keep_38 : decode cX1_keep 38 = .ok (.aload_n 0, 1) := by decide +kernel
theorem dX1_keep_39 : decode cX1_keep 39 = .ok (.getfield 11, 3) := by decide +kernel
theorem dX1_keep_42 : decode cX1_keep 42 = .ok (.aload_n 0, 1) := by decide +kernel
theorem dX1_keep_43 : decode cX1_keep 43 = .ok (.getfield 11, 3) := by decide +kernel
theorem dX1_keep_46 : decode cX1_keep 46 = .ok (.arraylength, 1) := by decide +kernel
theorem dX1_keep_47 : decode cX1_keep 47 = .ok (.iconst 1, 1) := by decide +kernel
theorem dX1_keep_48 : decode cX1_keep 48 = .ok (.isub, 1) := by decide +kernel
theorem dX1_keep_49 : decode cX1_keep 49 = .ok (.aload_n 2, 1) := by decide +kernel
theorem dX1_keep_50 : decode cX1_keep 50 = .ok (.aastore, 1) := by decide +kernel
theorem dX1_keep_51 : decode cX1_keep 51 = .ok (.aload_n 2, 1) := by decide +kernel
theorem dX1_keep_52 : decode cX1_keep 52 = .ok (.aload_n 1, 1) := by decide +kernel
theorem dX1_keep_53 : decode cX1_keep 53 = .ok (.invokevirtual 22, 3) := by decide +kernel
theorem dX1_keep_56 : decode cX1_keep 56 = .ok (.aload_n 0, 1) := by decide +kernel
theorem dX1_keep_57 : decode cX1_keep 57 = .ok (.aload_n 0, 1) := by decide +kernel
theorem dX1_keep_58 : decode cX1_keep 58 = .ok (.getfield 18, 3) := by decide +kernel
theorem dX1_keep_61 : decode cX1_keep 61 = .ok (.iconst 1, 1) := by decide +kernel
theorem dX1_keep_62 : decode cX1_keep 62 = .ok (.iadd, 1) := by decide +kernel
theorem dX1_keep_63 : decode cX1_keep 63 = .ok (.aload_n 0, 1) := by decide +kernel
theorem dX1_keep_64 : decode cX1_keep 64 = .ok (.getfield 11, 3) := by decide +kernel
theorem dX1_keep_67 : decode cX1_keep 67 = .ok (.arraylength, 1) := by decide +kernel
theorem dX1_keep_68 : decode cX1_keep 68 = .ok (.invokestatic 26, 3) := by decide +kernel
theorem dX1_keep_71 : decode cX1_keep 71 = .ok (.putfield 18, 3) := by decide +kernel
theorem dX1_keep_74 : decode cX1_keep 74 = .ok (.return_, 1) := by decide +kernel
set_option maxRecDepth 20000 in
theorem ggX1_keep_X3_copy : GoodIn wsX1_keep wsX3_copy := goodIn_r _ [11, 12, 13, 14, 15, 16, 17, 18, 19, 20, 21, 22, 23, 24, 25, 26, 27, 28, 29, 30, 31, 32, 33, 34, 37, 38, 39, 40, 41, 42, 43, 44, 45, 46] (by decide +kernel) (by decide +kernel)
set_option maxRecDepth 20000 in
theorem gX1_keep_X3_copy : GoodIn wsX1_keep (wsV RX1 22 RX3 yX3_copy wsX3_copy) := goodIn_app (goodIn_of _ (by decide +kernel)) ggX1_keep_X3_copy
theorem dX1_giveBack_0 : decode cX1_giveBack 0 = .ok (.aload_n 0, 1) := by decide +kernel
theorem dX1_giveBack_1 : decode cX1_giveBack 1 = .ok (.getfield 18, 3) := by decide +kernel
theorem dX1_giveBack_4 : decode cX1_giveBack 4 = .ok (.ifCond .le 70, 3) := by decide +kernel
theorem dX1_giveBack_7 : decode cX1_giveBack 7 = .ok (.aload_n 0, 1) := by decide +kernel
theorem dX1_giveBack_8 : decode cX1_giveBack 8 = .ok (.getfield 11, 3) := by decide +kernel
theorem dX1_giveBack_11 : decode cX1_giveBack 11 = .ok (.aload_n 0, 1) := by decide +kernel
theorem dX1_giveBack_12 : decode cX1_giveBack 12 = .ok (.getfield 11, 3) := by decide +kernel
theorem dX1_giveBack_15 : decode cX1_giveBack 15 = .ok (.arraylength, 1) := by decide +kernel
theorem dX1_giveBack_16 : decode cX1_giveBack 16 = .ok (.iconst 1, 1) := by decide +kernel
theorem dX1_giveBack_17 : decode cX1_giveBack 17 = .ok (.isub, 1) := by decide +kernel
theorem dX1_giveBack_18 : decode cX1_giveBack 18 = .ok (.aaload, 1) := by decide +kernel
theorem dX1_giveBack_19 : decode cX1_giveBack 19 = .ok (.astore_n 2, 1) := by decide +kernel
theorem dX1_giveBack_20 : decode cX1_giveBack 20 = .ok (.aload_n 0, 1) := by decide +kernel
theorem dX1_giveBack_21 : decode cX1_giveBack 21 = .ok (.getfield 11, 3) := by decide +kernel
theorem dX1_giveBack_24 : decode cX1_giveBack 24 = .ok (.arraylength, 1) := by decide +kernel
theorem dX1_giveBack_25 : decode cX1_giveBack 25 = .ok (.iconst 1, 1) := by decide +kernel
theorem dX1_giveBack_26 : decode cX1_giveBack 26 = .ok (.isub, 1) := by decide +kernel
theorem dX1_giveBack_27 : decode cX1_giveBack 27 = .ok (.istore_n 3, 1) := by decide +kernel
theorem dX1_giveBack_28 : decode cX1_giveBack 28 = .ok (.iload_n 3, 1) := by decide +kernel
theorem dX1_giveBack_29 : decode cX1_giveBack 29 = .ok (.ifCond .le 23, 3) := by decide +kernel
theorem dX1_giveBack_32 : decode cX1_giveBack 32 = .ok (.aload_n 0, 1) := by decide +kernel
theorem dX1_giveBack_33 : decode cX1_giveBack 33 = .ok (.getfield 11, 3) := by decide +kernel
theorem dX1_giveBack_36 : decode cX1_giveBack 36 = .ok (.iload_n 3, 1) := by decide +kernel
theorem dX1_giveBack_37 : decode cX1_giveBack 37 = .ok (.aload_n 0, 1) := by decide +kernel
theorem dX1_giveBack_38 : decode cX1_giveBack 38 = .ok (.getfield 11, 3) := by decide +kernel
theorem dX1_giveBack_41 : decode cX1_giveBack 41 = .ok (.iload_n 3, 1) := by decide +kernel
theorem dX1_giveBack_42 : decode cX1_giveBack 42 = .ok (.iconst 1, 1) := by decide +kernel
theorem dX1_giveBack_43 : decode cX1_giveBack 43 = .ok (.isub, 1) := by decide +kernel
theorem dX1_giveBack_44 : decode cX1_giveBack 44 = .ok (.aaload, 1) := by decide +kernel
theorem dX1_giveBack_45 : decode cX1_giveBack 45 = .ok (.aastore, 1) := by decide +kernel
theorem dX1_giveBack_46 : decode cX1_giveBack 46 = .ok (.iinc 3 (-1), 3) := by decide +kernel
theorem dX1_giveBack_49 : decode cX1_giveBack 49 = .ok (.goto (-21), 3) := by decide +kernel
theorem dX1_giveBack_52 : decode cX1_giveBack 52 = .ok (.aload_n 0, 1) := by decide +kernel
theorem dX1_giveBack_53 : decode cX1_giveBack 53 = .ok (.getfield 11, 3) := by decide +kernel
theorem dX1_giveBack_56 : decode cX1_giveBack 56 = .ok (.iconst 0, 1) := by decide +kernel
theorem dX1_giveBack_57 : decode cX1_giveBack 57 = .ok (.aload_n 2, 1) := by decide +kernel
theorem dX1_giveBack_58 : decode cX1_giveBack 58 = .ok (.aastore, 1) := by decide +kernel
theorem dX1_giveBack_59 : decode cX1_giveBack 59 = .ok (.aload_n 1, 1) := by decide +kernel
theorem dX1_giveBack_60 : decode cX1_giveBack 60 = .ok (.aload_n 2, 1) := by decide +kernel
theorem dX1_giveBack_61 : decode cX1_giveBack 61 = .ok (.invokevirtual 22, 3) := by decide +kernel
theorem dX1_giveBack_64 : decode cX1_giveBack 64 = .ok (.aload_n 0, 1) := by decide +kernel
theorem dX1_giveBack_65 : decode cX1_giveBack 65 = .ok (.dup, 1) := by decide +kernel
theorem dX1_giveBack_66 : decode cX1_giveBack 66 = .ok (.getfield 18, 3) := by decide +kernel
theorem dX1_giveBack_69 : decode cX1_giveBack 69 = .ok (.iconst 1, 1) := by decide +kernel
theorem dX1_giveBack_70 : decode cX1_giveBack 70 = .ok (.isub, 1) := by decide +kernel
theorem dX1_giveBack_71 : decode cX1_giveBack 71 = .ok (.putfield 18, 3) := by decide +kernel
theorem dX1_giveBack_74 : decode cX1_giveBack 74 = .ok (.return_, 1) := by decide +kernel
set_option maxRecDepth 20000 in
theorem ggX1_giveBack_X3_copy : GoodIn wsX1_giveBack wsX3_copy := goodIn_r _ [7, 8, 9, 10, 11, 12, 13, 14, 15, 16, 17, 18, 19, 20, 21, 22, 23, 24, 25, 26, 27, 28, 29, 30, 33, 34, 35, 36, 37, 38, 39, 40, 41, 42] (by decide +kernel) (by decide +kernel)
set_option maxRecDepth 20000 in
theorem gX1_giveBack_X3_copy : GoodIn wsX1_giveBack (wsV RX1 22 RX3 yX3_copy wsX3_copy) := goodIn_app (goodIn_of _ (by decide +kernel)) ggX1_giveBack_X3_copy
theorem vaP_mem {D : va_G} {cl : List vw_C} {ws : va_W} {H : Heap} : va_P D cl ws H ↔ ∀ q ∈ ws, va_at D cl q H := by
  constructor
  · intro h q hq
    obtain ⟨k, hk⟩ := List.mem_iff_getElem?.mp hq
    exact h k q hk
  · intro h k q hk
    exact h q (List.mem_of_getElem? hk)
theorem vaP_put {D : va_G} {cl : List vw_C} {ws : va_W} {H : Heap} (hP : va_P D cl ws H) (k : Nat) {q : Nat × va_E} (hq : va_at D cl q H) : va_P D cl (ws.set k q) H :=
  vaP_mem.mpr fun x hx => (List.mem_or_eq_of_mem_set hx).elim (fun h => vaP_mem.mp hP x h) (fun h => h ▸ hq)
theorem cq_eq {cA : ClassId} {n : Nat} {f g : Nat → Option Nat} (h : ∀ j : Nat, j < n → f j = g j) : vp_cell cA (n, .inr (.inr (.inr (.inr f)))) = vp_cell cA (n, .inr (.inr (.inr (.inr g)))) := by
  rw [vp_cell_q, vp_cell_q]
  unfold arrV
  congr 2
  funext j
  show va_rf (f j.val) = va_rf (g j.val)
  rw [h j.val j.isLt]
theorem vaP_refs {D : va_G} {cl : List vw_C} {ws : va_W} {H : Heap} {a n : Nat} {cA : ClassId} {f g : Nat → Option Nat} (hP : va_P D cl ws H) (k : Nat) (hk : ws[k]? = some (a, .inl (cA, n, .inr (.inr (.inr (.inr f)))))) (h : ∀ j : Nat, j < n → f j = g j) : va_P D cl (ws.set k (a, .inl (cA, n, .inr (.inr (.inr (.inr g)))))) H :=
  vaP_put hP k (show H[a]? = some (vp_cell cA (n, .inr (.inr (.inr (.inr g))))) from by rw [← cq_eq h]; exact hP k _ hk)
theorem zi_astq {p : Program} {l : Launch} {e : Env} {R : Room} {s : State} {m : MethodId} {args : Array Value} {below : List Frame} {meth : Method} {c : Code} {H : Heap} {locs : List Loc} {cells slots : Nat} {Q : State → Prop} {cc : ByteArray} {pc : Nat} {ls : Array Slot} {rest : List Value} {D : va_G} {cy : Nat → ClassId} {A : Nat → Prop} {H0 : Heap} {W0 : va_W} (hx : p.tables.exec = Jvm.exec) (hb : c.code = cc) {a : Nat} (hK : va_K D vwCl (tysA cy) s) (hP : va_P D vwCl W0 H) (hD : va_D A W0) (hS : va_S A H0 H locs) (q0 qk : Nat) {n v : Nat} {vs : List Value} {f : Nat → Option Nat} (ha : W0[q0]? = some (a, .inl (cy 2, n, .inr (.inr (.inr (.inr f)))))) (hv : W0[qk]? = some (v, .inr (3, vs))) {z : Int} (h0 : 0 ≤ z) (h1 : z < n) (hn : n < 2147483648) (hdg : decode cc pc = .ok (.aastore, 1))
    (kk : ∀ (H1 : Heap) (locs1 : List Loc), va_P D vwCl (W0.set q0 (a, .inl (cy 2, n, .inr (.inr (.inr (.inr (va_up f z.toNat (some v)))))))) H1 → va_D A (W0.set q0 (a, .inl (cy 2, n, .inr (.inr (.inr (.inr (va_up f z.toNat (some v)))))))) → va_S A H0 H1 locs1 → W p l e R s m args below meth c H1 locs1 cells slots Q (F0 m (pc + 1) ls rest)) : W p l e R s m args below meth c H locs cells slots Q (F0 m pc ls (.ref v :: .int (iI z) :: .ref a :: rest)) :=
  va_astq (r := (RX3, TX3, 8)) hx hb hK hP hD hS q0 2 qk 3 ha rfl hv rfl (iI_in h0 h1 hn) hdg (by rw [iI_cl h0 (by omega)]; exact kk)
theorem shL_go {X R : Nat → Option Nat} {i : Int} {b : Nat} (hi : 1 ≤ i ∧ i < 6) (hX : ∀ j : Nat, j < 6 → X j = if (j : Int) + 1 < i then R (j + 1) else R j) (hb : R i.toNat = some b) : ∀ j : Nat, j < 6 → va_up X (i - 1).toNat (some b) j = if (j : Int) + 1 < i + 1 then R (j + 1) else R j := by
  intro j hj
  by_cases h : j = (i - 1).toNat
  · subst h
    rw [va_up_self, if_pos (by omega), show (i - 1).toNat + 1 = i.toNat by omega, hb]
  · rw [va_up_ne _ _ h, hX j hj]
    by_cases h2 : (j : Int) + 1 < i
    · rw [if_pos h2, if_pos (by omega)]
    · rw [if_neg h2, if_neg (by omega)]
theorem shL_end {X R R1 : Nat → Option Nat} {i : Int} {a : Nat} (hi : i = 6) (hX : ∀ j : Nat, j < 6 → X j = if (j : Int) + 1 < i then R (j + 1) else R j) (h0 : R 0 = some a) (h1 : ∀ j : Nat, j < 6 → R1 j = R ((j + 1) % 6)) : ∀ j : Nat, j < 6 → va_up X (((6 : Nat) : Int) - 1).toNat (some a) j = R1 j := by
  intro j hj
  rw [h1 j hj, show (((6 : Nat) : Int) - 1).toNat = 5 by omega]
  by_cases h : j = 5
  · subst h
    rw [va_up_self]
    exact h0.symm
  · rw [va_up_ne _ _ h, hX j hj, if_pos (by omega), show (j + 1) % 6 = j + 1 by omega]
theorem shR_go {X R : Nat → Option Nat} {i : Int} {b : Nat} (hi : 1 ≤ i ∧ i ≤ 5) (hX : ∀ j : Nat, j < 6 → X j = if i < (j : Int) then R (j - 1) else R j) (hb : R (i - 1).toNat = some b) : ∀ j : Nat, j < 6 → va_up X i.toNat (some b) j = if i + (-1) < (j : Int) then R (j - 1) else R j := by
  intro j hj
  by_cases h : j = i.toNat
  · subst h
    rw [va_up_self, if_pos (by omega), show i.toNat - 1 = (i - 1).toNat by omega, hb]
  · rw [va_up_ne _ _ h, hX j hj]
    by_cases h2 : i < (j : Int)
    · rw [if_pos h2, if_pos (by omega)]
    · rw [if_neg h2, if_neg (by omega)]
theorem shR_end {X R R1 : Nat → Option Nat} {i : Int} {a : Nat} (hi : i = 0) (hX : ∀ j : Nat, j < 6 → X j = if i < (j : Int) then R (j - 1) else R j) (h5 : R 5 = some a) (h1 : ∀ j : Nat, j < 6 → R1 j = R ((j + 5) % 6)) : ∀ j : Nat, j < 6 → va_up X (0 : Int).toNat (some a) j = R1 j := by
  intro j hj
  rw [h1 j hj, show (0 : Int).toNat = 0 by omega]
  by_cases h : j = 0
  · subst h
    rw [va_up_self]
    exact h5.symm
  · rw [va_up_ne _ _ h, hX j hj, if_pos (by omega), show (j + 5) % 6 = j - 1 by omega]

set_option maxHeartbeats 4000000 in
set_option maxRecDepth 100000 in
theorem c_X1_size (l : Launch) (D : va_G) (cy : Nat → ClassId) (h0 : Nat) (k0 : Nat) (ct : Int) : Ci l D cy yX1_size wsX1_size 0 0 [.ref h0] [(h0, .inr (1, [.ref k0, .int (iI ct)]))] (fun (r : Int32) (u : Unit) => r = iI ct) (fun u : Unit => [(h0, .inr (1, [.ref k0, .int (iI ct)]))]) := by
  refine Ci_of (cc := cX1_size) (maxL := 1) (ret := (some .int)) (by decide) rfl rfl ?_
  intro p e s m args below meth c A hx hb hr hts hown hlocks hml hP hK hD hT hA ls hl
  have hS : va_S A s.heap s.heap [] := va_S.rf
  have hl : lv_has ls 1 [(0, .ref h0)] := hl
  have hiX1 : ∀ w ∈ wsX10, w ∈ wsX1_size := by decide +kernel
  refine lv_aload_n hx hb dX1_size_0 rfl (lv_at hl 0 rfl) ?_
  refine va_get (D := D) (ci := 1) (v := .int (iI ct)) (C := RX1) (T := TX1) (N := 2) hx hb hts hiX1 hown hK hP 0 rfl rfl 1 (by decide) (hts (.fieldLink RX1 18 "BackwardSearch$History" "count" "I") (by decide +kernel)) (fun _ h9 => h9) rfl dX1_size_1 ?_
  exact z_iret hx hb hr hlocks hS () (show (iI ct) = iI ct from rfl) hP dX1_size_4
set_option maxHeartbeats 4000000 in
set_option maxRecDepth 100000 in
theorem c_X1_keep (l : Launch) (D : va_G) (cy : Nat → ClassId) (h0 : Nat) (k0 : Nat) (R : Nat → Option Nat) (R1 : Nat → Option Nat) (ct : Int) (sia : Nat) (lia : Nat) (mia : Nat) (wia : Nat) (via : Nat) (gia : Nat) (eia : Nat) (nla : Int) (Fla : Nat → Int32) (nwa : Int) (Fwa : Nat → Int32) (nfa : Int) (Ffa : Nat → Int32) (lra : Int) (era : Int) (pla : Int) (lka : Int) (cpa : Int) (sib : Nat) (lib : Nat) (mib : Nat) (wib : Nat) (vib : Nat) (gib : Nat) (eib : Nat) (nlb : Int) (Flb : Nat → Int32) (nwb : Int) (Fwb : Nat → Int32) (nfb : Int) (Ffb : Nat → Int32) (lrb : Int) (erb : Int) (plb : Int) (lkb : Int) (cpb : Int) (q1 : Nat) (q2 : Nat) (q3 : Nat) (q4 : Nat) (q5 : Nat) (v1 : List Value) (v2 : List Value) (v3 : List Value) (v4 : List Value) (v5 : List Value) (hbb : 0 ≤ nlb ∧ nlb ≤ 60 ∧ 0 ≤ nwb ∧ nwb ≤ 16 ∧ 0 ≤ nfb ∧ nfb ≤ plb ∧ plb ≤ 100 ∧ nfb ≤ 60 ∧ 0 ≤ lkb ∧ lkb ≤ plb ∧ 0 ≤ cpb ∧ cpb ≤ 16 * lkb ∧ 0 ≤ lrb ∧ lrb ≤ 1 ∧ 0 ≤ erb ∧ erb ≤ 1) (hn : 0 ≤ ct ∧ ct ≤ 6) (hR : R 0 = some sia ∧ R 1 = some q1 ∧ R 2 = some q2 ∧ R 3 = some q3 ∧ R 4 = some q4 ∧ R 5 = some q5) (hR1 : ∀ j : Nat, j < 6 → R1 j = R ((j + 1) % 6)) : Cv l D cy yX1_keep wsX1_keep 3 64 [.ref h0, .ref sib] [(h0, .inr (1, [.ref k0, .int (iI ct)])), (k0, .inl (cy 2, 6, .inr (.inr (.inr (.inr R))))), (sia, .inr (3, [.ref lia, .ref wia, .ref gia, .int (iI lra), .int (iI era), .int (iI pla), .int (iI lka), .int (iI cpa)])), (lia, .inr (2, [.ref mia, .int (iI nla)])), (mia, .inl (cy 0, 60, .inl Fla)), (wia, .inr (2, [.ref via, .int (iI nwa)])), (via, .inl (cy 0, 16, .inl Fwa)), (gia, .inr (2, [.ref eia, .int (iI nfa)])), (eia, .inl (cy 0, 60, .inl Ffa)), (sib, .inr (3, [.ref lib, .ref wib, .ref gib, .int (iI lrb), .int (iI erb), .int (iI plb), .int (iI lkb), .int (iI cpb)])), (lib, .inr (2, [.ref mib, .int (iI nlb)])), (mib, .inl (cy 0, 60, .inl Flb)), (wib, .inr (2, [.ref vib, .int (iI nwb)])), (vib, .inl (cy 0, 16, .inl Fwb)), (gib, .inr (2, [.ref eib, .int (iI nfb)])), (eib, .inl (cy 0, 60, .inl Ffb)), (q1, .inr (3, v1)), (q2, .inr (3, v2)), (q3, .inr (3, v3)), (q4, .inr (3, v4)), (q5, .inr (3, v5))] (fun (u : Int × (Nat → Int32) × (Nat → Int32) × (Nat → Int32)) => u.1 = min (ct + 1) 6 ∧ (∀ j : Nat, (j : Int) < nlb → u.2.1 j = Flb j) ∧ (∀ j : Nat, (j : Int) < nwb → u.2.2.1 j = Fwb j) ∧ ∀ j : Nat, (j : Int) < nfb → u.2.2.2 j = Ffb j) (fun u : Int × (Nat → Int32) × (Nat → Int32) × (Nat → Int32) => [(h0, .inr (1, [.ref k0, .int (iI u.1)])), (k0, .inl (cy 2, 6, .inr (.inr (.inr (.inr R1))))), (sia, .inr (3, [.ref lia, .ref wia, .ref gia, .int (iI lrb), .int (iI erb), .int (iI plb), .int (iI lkb), .int (iI cpb)])), (lia, .inr (2, [.ref mia, .int (iI nlb)])), (mia, .inl (cy 0, 60, .inl u.2.1)), (wia, .inr (2, [.ref via, .int (iI nwb)])), (via, .inl (cy 0, 16, .inl u.2.2.1)), (gia, .inr (2, [.ref eia, .int (iI nfb)])), (eia, .inl (cy 0, 60, .inl u.2.2.2)), (sib, .inr (3, [.ref lib, .ref wib, .ref gib, .int (iI lrb), .int (iI erb), .int (iI plb), .int (iI lkb), .int (iI cpb)])), (lib, .inr (2, [.ref mib, .int (iI nlb)])), (mib, .inl (cy 0, 60, .inl Flb)), (wib, .inr (2, [.ref vib, .int (iI nwb)])), (vib, .inl (cy 0, 16, .inl Fwb)), (gib, .inr (2, [.ref eib, .int (iI nfb)])), (eib, .inl (cy 0, 60, .inl Ffb)), (q1, .inr (3, v1)), (q2, .inr (3, v2)), (q3, .inr (3, v3)), (q4, .inr (3, v4)), (q5, .inr (3, v5))]) := by
  refine Cv_of (cc := cX1_keep) (maxL := 4) (ret := none) (by decide) rfl rfl ?_
  intro p e s m args below meth c A hx hb hr hts hown hlocks hml hP hK hD hT hA ls hl
  have hS : va_S A s.heap s.heap [] := va_S.rf
  have hl : lv_has ls 4 [(0, .ref h0), (1, .ref sib)] := hl
  have hiX1 : ∀ w ∈ wsX10, w ∈ wsX1_keep := by decide +kernel
  refine lv_aload_n hx hb dX1_keep_0 rfl (lv_at hl 0 rfl) ?_
  refine va_get (D := D) (ci := 1) (v := .ref k0) (C := RX1) (T := TX1) (N := 2) hx hb hts hiX1 hown hK hP 0 rfl rfl 0 (by decide) (hts (.fieldLink RX1 11 "BackwardSearch$History" "kept" "[LBackwardSearch$State;") (by decide +kernel)) (fun _ h9 => h9) rfl dX1_keep_1 ?_
  refine lv_iconst (v := iI 0) hx hb dX1_keep_4 rfl ?_
  refine z_aldq (b := sia) hx hb hK hP 1 rfl (by omega) (by omega) (by omega) hR.1 dX1_keep_5 ?_
  refine lv_astore_n (lv' := [(2, .ref sia), (0, .ref h0), (1, .ref sib)]) hx hb dX1_keep_6 rfl hl (by decide) rfl (fun ls hl => ?_)
  refine lv_iconst (v := iI 1) hx hb dX1_keep_7 rfl ?_
  refine lv_istore_n (lv' := [(3, .int (iI 1)), (2, .ref sia), (0, .ref h0), (1, .ref sib)]) hx hb dX1_keep_8 rfl hl (by decide) rfl (fun ls hl => ?_)
  have hloop1 : ∀ (n1 : Nat) (i : Int) (X : Nat → Option Nat) (hi : 1 ≤ i ∧ i ≤ 6) (hX : ∀ j : Nat, j < 6 → X j = if (j : Int) + 1 < i then R (j + 1) else R j) (hm : 6 - i < (n1 : Int)) (H : Heap) (locs : List Loc) (ls : Array Slot) (hP : va_P D vwCl [(h0, .inr (1, [.ref k0, .int (iI ct)])), (k0, .inl (cy 2, 6, .inr (.inr (.inr (.inr X))))), (sia, .inr (3, [.ref lia, .ref wia, .ref gia, .int (iI lra), .int (iI era), .int (iI pla), .int (iI lka), .int (iI cpa)])), (lia, .inr (2, [.ref mia, .int (iI nla)])), (mia, .inl (cy 0, 60, .inl Fla)), (wia, .inr (2, [.ref via, .int (iI nwa)])), (via, .inl (cy 0, 16, .inl Fwa)), (gia, .inr (2, [.ref eia, .int (iI nfa)])), (eia, .inl (cy 0, 60, .inl Ffa)), (sib, .inr (3, [.ref lib, .ref wib, .ref gib, .int (iI lrb), .int (iI erb), .int (iI plb), .int (iI lkb), .int (iI cpb)])), (lib, .inr (2, [.ref mib, .int (iI nlb)])), (mib, .inl (cy 0, 60, .inl Flb)), (wib, .inr (2, [.ref vib, .int (iI nwb)])), (vib, .inl (cy 0, 16, .inl Fwb)), (gib, .inr (2, [.ref eib, .int (iI nfb)])), (eib, .inl (cy 0, 60, .inl Ffb)), (q1, .inr (3, v1)), (q2, .inr (3, v2)), (q3, .inr (3, v3)), (q4, .inr (3, v4)), (q5, .inr (3, v5))] H) (hD : va_D A [(h0, .inr (1, [.ref k0, .int (iI ct)])), (k0, .inl (cy 2, 6, .inr (.inr (.inr (.inr X))))), (sia, .inr (3, [.ref lia, .ref wia, .ref gia, .int (iI lra), .int (iI era), .int (iI pla), .int (iI lka), .int (iI cpa)])), (lia, .inr (2, [.ref mia, .int (iI nla)])), (mia, .inl (cy 0, 60, .inl Fla)), (wia, .inr (2, [.ref via, .int (iI nwa)])), (via, .inl (cy 0, 16, .inl Fwa)), (gia, .inr (2, [.ref eia, .int (iI nfa)])), (eia, .inl (cy 0, 60, .inl Ffa)), (sib, .inr (3, [.ref lib, .ref wib, .ref gib, .int (iI lrb), .int (iI erb), .int (iI plb), .int (iI lkb), .int (iI cpb)])), (lib, .inr (2, [.ref mib, .int (iI nlb)])), (mib, .inl (cy 0, 60, .inl Flb)), (wib, .inr (2, [.ref vib, .int (iI nwb)])), (vib, .inl (cy 0, 16, .inl Fwb)), (gib, .inr (2, [.ref eib, .int (iI nfb)])), (eib, .inl (cy 0, 60, .inl Ffb)), (q1, .inr (3, v1)), (q2, .inr (3, v2)), (q3, .inr (3, v3)), (q4, .inr (3, v4)), (q5, .inr (3, v5))]) (hS : va_S A s.heap H locs) (hl : lv_has ls 4 [(3, .int (iI i)), (2, .ref sia), (0, .ref h0), (1, .ref sib)]), W p l e ({ frames := 3, cells := 0, slots := 0, locals := 64 } : Room) s m args below meth c H locs 0 0 (MQ below (va_Qv (fun (u : Int × (Nat → Int32) × (Nat → Int32) × (Nat → Int32)) => u.1 = min (ct + 1) 6 ∧ (∀ j : Nat, (j : Int) < nlb → u.2.1 j = Flb j) ∧ (∀ j : Nat, (j : Int) < nwb → u.2.2.1 j = Fwb j) ∧ ∀ j : Nat, (j : Int) < nfb → u.2.2.2 j = Ffb j) (fun u t => va_P D vwCl ((fun u : Int × (Nat → Int32) × (Nat → Int32) × (Nat → Int32) => [(h0, .inr (1, [.ref k0, .int (iI u.1)])), (k0, .inl (cy 2, 6, .inr (.inr (.inr (.inr R1))))), (sia, .inr (3, [.ref lia, .ref wia, .ref gia, .int (iI lrb), .int (iI erb), .int (iI plb), .int (iI lkb), .int (iI cpb)])), (lia, .inr (2, [.ref mia, .int (iI nlb)])), (mia, .inl (cy 0, 60, .inl u.2.1)), (wia, .inr (2, [.ref via, .int (iI nwb)])), (via, .inl (cy 0, 16, .inl u.2.2.1)), (gia, .inr (2, [.ref eia, .int (iI nfb)])), (eia, .inl (cy 0, 60, .inl u.2.2.2)), (sib, .inr (3, [.ref lib, .ref wib, .ref gib, .int (iI lrb), .int (iI erb), .int (iI plb), .int (iI lkb), .int (iI cpb)])), (lib, .inr (2, [.ref mib, .int (iI nlb)])), (mib, .inl (cy 0, 60, .inl Flb)), (wib, .inr (2, [.ref vib, .int (iI nwb)])), (vib, .inl (cy 0, 16, .inl Fwb)), (gib, .inr (2, [.ref eib, .int (iI nfb)])), (eib, .inl (cy 0, 60, .inl Ffb)), (q1, .inr (3, v1)), (q2, .inr (3, v2)), (q3, .inr (3, v3)), (q4, .inr (3, v4)), (q5, .inr (3, v5))]) u) t.heap) A) args s 0 0 A) (F0 m 9 ls []) := by
    intro n1
    induction n1 with
    | zero =>
      intro i X hi hX hm; exact absurd hm (by omega)
    | succ n1 ih1 =>
      intro i X hi hX hm H locs ls hP hD hS hl
      refine lv_iload_n hx hb dX1_keep_9 rfl (lv_at hl 0 rfl) ?_
      refine lv_aload_n hx hb dX1_keep_10 rfl (lv_at hl 2 rfl) ?_
      refine va_get (D := D) (ci := 1) (v := .ref k0) (C := RX1) (T := TX1) (N := 2) hx hb hts hiX1 hown hK hP 0 rfl rfl 0 (by decide) (hts (.fieldLink RX1 11 "BackwardSearch$History" "kept" "[LBackwardSearch$State;") (by decide +kernel)) (fun _ h9 => h9) rfl dX1_keep_11 ?_
      refine z_alen hx hb hK hP 1 2 rfl rfl dX1_keep_14 ?_
      refine z_icmp_ge (tgt := 38) hx hb (iI_t (by omega) (by omega)) (iI_t (by omega) (by omega)) dX1_keep_15 (by decide) (fun c2 => ?_) (fun c2 => ?_)
      · --
        refine lv_aload_n hx hb dX1_keep_38 rfl (lv_at hl 2 rfl) ?_
        refine va_get (D := D) (ci := 1) (v := .ref k0) (C := RX1) (T := TX1) (N := 2) hx hb hts hiX1 hown hK hP 0 rfl rfl 0 (by decide) (hts (.fieldLink RX1 11 "BackwardSearch$History" "kept" "[LBackwardSearch$State;") (by decide +kernel)) (fun _ h9 => h9) rfl dX1_keep_39 ?_
        refine lv_aload_n hx hb dX1_keep_42 rfl (lv_at hl 2 rfl) ?_
        refine va_get (D := D) (ci := 1) (v := .ref k0) (C := RX1) (T := TX1) (N := 2) hx hb hts hiX1 hown hK hP 0 rfl rfl 0 (by decide) (hts (.fieldLink RX1 11 "BackwardSearch$History" "kept" "[LBackwardSearch$State;") (by decide +kernel)) (fun _ h9 => h9) rfl dX1_keep_43 ?_
        refine z_alen hx hb hK hP 1 2 rfl rfl dX1_keep_46 ?_
        refine lv_iconst (v := iI 1) hx hb dX1_keep_47 rfl ?_
        refine z_sub hx hb dX1_keep_48 ?_
        refine lv_aload_n hx hb dX1_keep_49 rfl (lv_at hl 1 rfl) ?_
        refine zi_astq hx hb hK hP hD hS 1 2 rfl rfl (by omega) (by omega) (by omega) dX1_keep_50 (fun H locs hP hD hS => ?_)
        have hP : va_P D vwCl [(h0, .inr (1, [.ref k0, .int (iI ct)])), (k0, .inl (cy 2, 6, .inr (.inr (.inr (.inr (va_up X (((6 : Nat) : Int) - 1).toNat (some sia))))))), (sia, .inr (3, [.ref lia, .ref wia, .ref gia, .int (iI lra), .int (iI era), .int (iI pla), .int (iI lka), .int (iI cpa)])), (lia, .inr (2, [.ref mia, .int (iI nla)])), (mia, .inl (cy 0, 60, .inl Fla)), (wia, .inr (2, [.ref via, .int (iI nwa)])), (via, .inl (cy 0, 16, .inl Fwa)), (gia, .inr (2, [.ref eia, .int (iI nfa)])), (eia, .inl (cy 0, 60, .inl Ffa)), (sib, .inr (3, [.ref lib, .ref wib, .ref gib, .int (iI lrb), .int (iI erb), .int (iI plb), .int (iI lkb), .int (iI cpb)])), (lib, .inr (2, [.ref mib, .int (iI nlb)])), (mib, .inl (cy 0, 60, .inl Flb)), (wib, .inr (2, [.ref vib, .int (iI nwb)])), (vib, .inl (cy 0, 16, .inl Fwb)), (gib, .inr (2, [.ref eib, .int (iI nfb)])), (eib, .inl (cy 0, 60, .inl Ffb)), (q1, .inr (3, v1)), (q2, .inr (3, v2)), (q3, .inr (3, v3)), (q4, .inr (3, v4)), (q5, .inr (3, v5))] H := hP
        have hD : va_D A [(h0, .inr (1, [.ref k0, .int (iI ct)])), (k0, .inl (cy 2, 6, .inr (.inr (.inr (.inr (va_up X (((6 : Nat) : Int) - 1).toNat (some sia))))))), (sia, .inr (3, [.ref lia, .ref wia, .ref gia, .int (iI lra), .int (iI era), .int (iI pla), .int (iI lka), .int (iI cpa)])), (lia, .inr (2, [.ref mia, .int (iI nla)])), (mia, .inl (cy 0, 60, .inl Fla)), (wia, .inr (2, [.ref via, .int (iI nwa)])), (via, .inl (cy 0, 16, .inl Fwa)), (gia, .inr (2, [.ref eia, .int (iI nfa)])), (eia, .inl (cy 0, 60, .inl Ffa)), (sib, .inr (3, [.ref lib, .ref wib, .ref gib, .int (iI lrb), .int (iI erb), .int (iI plb), .int (iI lkb), .int (iI cpb)])), (lib, .inr (2, [.ref mib, .int (iI nlb)])), (mib, .inl (cy 0, 60, .inl Flb)), (wib, .inr (2, [.ref vib, .int (iI nwb)])), (vib, .inl (cy 0, 16, .inl Fwb)), (gib, .inr (2, [.ref eib, .int (iI nfb)])), (eib, .inl (cy 0, 60, .inl Ffb)), (q1, .inr (3, v1)), (q2, .inr (3, v2)), (q3, .inr (3, v3)), (q4, .inr (3, v4)), (q5, .inr (3, v5))] := hD
        refine lv_aload_n hx hb dX1_keep_51 rfl (lv_at hl 1 rfl) ?_
        refine lv_aload_n hx hb dX1_keep_52 rfl (lv_at hl 3 rfl) ?_
        refine z_cVv (n := 1) (b := sia) (As := [.ref sib]) (rest := []) ⟨hx, hb, hml, hown, hts⟩ (c_X3_copy l D cy sia lia mia wia via gia eia nla Fla nwa Fwa nfa Ffa lra era pla lka cpa sib lib mib wib vib gib eib nlb Flb nwb Fwb nfb Ffb lrb erb plb lkb cpb (by omega)) gX1_keep_X3_copy rfl (by decide +kernel) ⟨Nat.le_of_ble_eq_true rfl, Nat.le_of_ble_eq_true rfl⟩ hK hT hP hD hS hA [2, 3, 4, 5, 6, 7, 8, 9, 10, 11, 12, 13, 14, 15] rfl rfl 2 3 rfl rfl rfl (fun _ => rfl) rfl hl.1 rfl (Nat.le_of_ble_eq_true rfl) dX1_keep_53 ⟨Nat.zero_le _, Nat.zero_le _⟩ (fun  u_3 H locs hw_3 hP hD hS => ?_)
        obtain ⟨Gl_3, Gw_3, Gf_3⟩ := u_3
        have hw_3 : (∀ j : Nat, (j : Int) < nlb → Gl_3 j = Flb j) ∧ (∀ j : Nat, (j : Int) < nwb → Gw_3 j = Fwb j) ∧ ∀ j : Nat, (j : Int) < nfb → Gf_3 j = Ffb j := hw_3
        have hP : va_P D vwCl [(h0, .inr (1, [.ref k0, .int (iI ct)])), (k0, .inl (cy 2, 6, .inr (.inr (.inr (.inr (va_up X (((6 : Nat) : Int) - 1).toNat (some sia))))))), (sia, .inr (3, [.ref lia, .ref wia, .ref gia, .int (iI lrb), .int (iI erb), .int (iI plb), .int (iI lkb), .int (iI cpb)])), (lia, .inr (2, [.ref mia, .int (iI nlb)])), (mia, .inl (cy 0, 60, .inl Gl_3)), (wia, .inr (2, [.ref via, .int (iI nwb)])), (via, .inl (cy 0, 16, .inl Gw_3)), (gia, .inr (2, [.ref eia, .int (iI nfb)])), (eia, .inl (cy 0, 60, .inl Gf_3)), (sib, .inr (3, [.ref lib, .ref wib, .ref gib, .int (iI lrb), .int (iI erb), .int (iI plb), .int (iI lkb), .int (iI cpb)])), (lib, .inr (2, [.ref mib, .int (iI nlb)])), (mib, .inl (cy 0, 60, .inl Flb)), (wib, .inr (2, [.ref vib, .int (iI nwb)])), (vib, .inl (cy 0, 16, .inl Fwb)), (gib, .inr (2, [.ref eib, .int (iI nfb)])), (eib, .inl (cy 0, 60, .inl Ffb)), (q1, .inr (3, v1)), (q2, .inr (3, v2)), (q3, .inr (3, v3)), (q4, .inr (3, v4)), (q5, .inr (3, v5))] H := hP
        have hD : va_D A [(h0, .inr (1, [.ref k0, .int (iI ct)])), (k0, .inl (cy 2, 6, .inr (.inr (.inr (.inr (va_up X (((6 : Nat) : Int) - 1).toNat (some sia))))))), (sia, .inr (3, [.ref lia, .ref wia, .ref gia, .int (iI lrb), .int (iI erb), .int (iI plb), .int (iI lkb), .int (iI cpb)])), (lia, .inr (2, [.ref mia, .int (iI nlb)])), (mia, .inl (cy 0, 60, .inl Gl_3)), (wia, .inr (2, [.ref via, .int (iI nwb)])), (via, .inl (cy 0, 16, .inl Gw_3)), (gia, .inr (2, [.ref eia, .int (iI nfb)])), (eia, .inl (cy 0, 60, .inl Gf_3)), (sib, .inr (3, [.ref lib, .ref wib, .ref gib, .int (iI lrb), .int (iI erb), .int (iI plb), .int (iI lkb), .int (iI cpb)])), (lib, .inr (2, [.ref mib, .int (iI nlb)])), (mib, .inl (cy 0, 60, .inl Flb)), (wib, .inr (2, [.ref vib, .int (iI nwb)])), (vib, .inl (cy 0, 16, .inl Fwb)), (gib, .inr (2, [.ref eib, .int (iI nfb)])), (eib, .inl (cy 0, 60, .inl Ffb)), (q1, .inr (3, v1)), (q2, .inr (3, v2)), (q3, .inr (3, v3)), (q4, .inr (3, v4)), (q5, .inr (3, v5))] := hD
        refine lv_aload_n hx hb dX1_keep_56 rfl (lv_at hl 2 rfl) ?_
        refine lv_aload_n hx hb dX1_keep_57 rfl (lv_at hl 2 rfl) ?_
        refine va_get (D := D) (ci := 1) (v := .int (iI ct)) (C := RX1) (T := TX1) (N := 2) hx hb hts hiX1 hown hK hP 0 rfl rfl 1 (by decide) (hts (.fieldLink RX1 18 "BackwardSearch$History" "count" "I") (by decide +kernel)) (fun _ h9 => h9) rfl dX1_keep_58 ?_
        refine lv_iconst (v := iI 1) hx hb dX1_keep_61 rfl ?_
        refine z_add hx hb dX1_keep_62 ?_
        refine lv_aload_n hx hb dX1_keep_63 rfl (lv_at hl 2 rfl) ?_
        refine va_get (D := D) (ci := 1) (v := .ref k0) (C := RX1) (T := TX1) (N := 2) hx hb hts hiX1 hown hK hP 0 rfl rfl 0 (by decide) (hts (.fieldLink RX1 11 "BackwardSearch$History" "kept" "[LBackwardSearch$State;") (by decide +kernel)) (fun _ h9 => h9) rfl dX1_keep_64 ?_
        refine z_alen hx hb hK hP 1 2 rfl rfl dX1_keep_67 ?_
        refine z_mmin (hml := hml.trans hl.1.symm) hx hb hown (hts (.methodLink RX1 26 Lib.Math.min.name) (by decide +kernel)) (hts (.static Lib.Math.min.name) (by decide +kernel)) (hts (.initialized "java/lang/Math") (by decide +kernel)) (hts (.code Lib.Math.min.name Lib.Math.min.code 2 (some .int)) (by decide +kernel)) (Nat.le_of_ble_eq_true rfl) (Nat.le_of_ble_eq_true rfl) (Nat.zero_le _) (Nat.zero_le _) (by omega) (by omega) (by omega) (by omega) dX1_keep_68 (fun z_4 e_4 => ?_)
        refine va_put (D := D) (ci := 1) (v := .int (iI z_4)) (ty := .int) (C := RX1) (T := TX1) (N := 2) hx hb hts hiX1 tyX1 tyX1_ok nmX1 hown hK hP hD hS 0 rfl rfl 1 (by decide) (hts (.fieldLink RX1 18 "BackwardSearch$History" "count" "I") (by decide +kernel)) (fun _ h9 => h9) rfl (by decide +kernel) rfl rfl (Nat.le_of_ble_eq_true rfl) dX1_keep_71 (fun H locs hP hD hS => ?_)
        have hP : va_P D vwCl [(h0, .inr (1, [.ref k0, .int (iI z_4)])), (k0, .inl (cy 2, 6, .inr (.inr (.inr (.inr (va_up X (((6 : Nat) : Int) - 1).toNat (some sia))))))), (sia, .inr (3, [.ref lia, .ref wia, .ref gia, .int (iI lrb), .int (iI erb), .int (iI plb), .int (iI lkb), .int (iI cpb)])), (lia, .inr (2, [.ref mia, .int (iI nlb)])), (mia, .inl (cy 0, 60, .inl Gl_3)), (wia, .inr (2, [.ref via, .int (iI nwb)])), (via, .inl (cy 0, 16, .inl Gw_3)), (gia, .inr (2, [.ref eia, .int (iI nfb)])), (eia, .inl (cy 0, 60, .inl Gf_3)), (sib, .inr (3, [.ref lib, .ref wib, .ref gib, .int (iI lrb), .int (iI erb), .int (iI plb), .int (iI lkb), .int (iI cpb)])), (lib, .inr (2, [.ref mib, .int (iI nlb)])), (mib, .inl (cy 0, 60, .inl Flb)), (wib, .inr (2, [.ref vib, .int (iI nwb)])), (vib, .inl (cy 0, 16, .inl Fwb)), (gib, .inr (2, [.ref eib, .int (iI nfb)])), (eib, .inl (cy 0, 60, .inl Ffb)), (q1, .inr (3, v1)), (q2, .inr (3, v2)), (q3, .inr (3, v3)), (q4, .inr (3, v4)), (q5, .inr (3, v5))] H := hP
        have hD : va_D A [(h0, .inr (1, [.ref k0, .int (iI z_4)])), (k0, .inl (cy 2, 6, .inr (.inr (.inr (.inr (va_up X (((6 : Nat) : Int) - 1).toNat (some sia))))))), (sia, .inr (3, [.ref lia, .ref wia, .ref gia, .int (iI lrb), .int (iI erb), .int (iI plb), .int (iI lkb), .int (iI cpb)])), (lia, .inr (2, [.ref mia, .int (iI nlb)])), (mia, .inl (cy 0, 60, .inl Gl_3)), (wia, .inr (2, [.ref via, .int (iI nwb)])), (via, .inl (cy 0, 16, .inl Gw_3)), (gia, .inr (2, [.ref eia, .int (iI nfb)])), (eia, .inl (cy 0, 60, .inl Gf_3)), (sib, .inr (3, [.ref lib, .ref wib, .ref gib, .int (iI lrb), .int (iI erb), .int (iI plb), .int (iI lkb), .int (iI cpb)])), (lib, .inr (2, [.ref mib, .int (iI nlb)])), (mib, .inl (cy 0, 60, .inl Flb)), (wib, .inr (2, [.ref vib, .int (iI nwb)])), (vib, .inl (cy 0, 16, .inl Fwb)), (gib, .inr (2, [.ref eib, .int (iI nfb)])), (eib, .inl (cy 0, 60, .inl Ffb)), (q1, .inr (3, v1)), (q2, .inr (3, v2)), (q3, .inr (3, v3)), (q4, .inr (3, v4)), (q5, .inr (3, v5))] := hD
        have hP := vaP_refs (g := R1) hP 1 rfl (shL_end (i := i) (by omega) hX hR.1 hR1)
        have hD : va_D A [(h0, .inr (1, [.ref k0, .int (iI z_4)])), (k0, .inl (cy 2, 6, .inr (.inr (.inr (.inr R1))))), (sia, .inr (3, [.ref lia, .ref wia, .ref gia, .int (iI lrb), .int (iI erb), .int (iI plb), .int (iI lkb), .int (iI cpb)])), (lia, .inr (2, [.ref mia, .int (iI nlb)])), (mia, .inl (cy 0, 60, .inl Gl_3)), (wia, .inr (2, [.ref via, .int (iI nwb)])), (via, .inl (cy 0, 16, .inl Gw_3)), (gia, .inr (2, [.ref eia, .int (iI nfb)])), (eia, .inl (cy 0, 60, .inl Gf_3)), (sib, .inr (3, [.ref lib, .ref wib, .ref gib, .int (iI lrb), .int (iI erb), .int (iI plb), .int (iI lkb), .int (iI cpb)])), (lib, .inr (2, [.ref mib, .int (iI nlb)])), (mib, .inl (cy 0, 60, .inl Flb)), (wib, .inr (2, [.ref vib, .int (iI nwb)])), (vib, .inl (cy 0, 16, .inl Fwb)), (gib, .inr (2, [.ref eib, .int (iI nfb)])), (eib, .inl (cy 0, 60, .inl Ffb)), (q1, .inr (3, v1)), (q2, .inr (3, v2)), (q3, .inr (3, v3)), (q4, .inr (3, v4)), (q5, .inr (3, v5))] := by
          refine va_D_fst ?_ hD
          rfl
        have hP : va_P D vwCl [(h0, .inr (1, [.ref k0, .int (iI z_4)])), (k0, .inl (cy 2, 6, .inr (.inr (.inr (.inr R1))))), (sia, .inr (3, [.ref lia, .ref wia, .ref gia, .int (iI lrb), .int (iI erb), .int (iI plb), .int (iI lkb), .int (iI cpb)])), (lia, .inr (2, [.ref mia, .int (iI nlb)])), (mia, .inl (cy 0, 60, .inl Gl_3)), (wia, .inr (2, [.ref via, .int (iI nwb)])), (via, .inl (cy 0, 16, .inl Gw_3)), (gia, .inr (2, [.ref eia, .int (iI nfb)])), (eia, .inl (cy 0, 60, .inl Gf_3)), (sib, .inr (3, [.ref lib, .ref wib, .ref gib, .int (iI lrb), .int (iI erb), .int (iI plb), .int (iI lkb), .int (iI cpb)])), (lib, .inr (2, [.ref mib, .int (iI nlb)])), (mib, .inl (cy 0, 60, .inl Flb)), (wib, .inr (2, [.ref vib, .int (iI nwb)])), (vib, .inl (cy 0, 16, .inl Fwb)), (gib, .inr (2, [.ref eib, .int (iI nfb)])), (eib, .inl (cy 0, 60, .inl Ffb)), (q1, .inr (3, v1)), (q2, .inr (3, v2)), (q3, .inr (3, v3)), (q4, .inr (3, v4)), (q5, .inr (3, v5))] H := hP
        have hD : va_D A [(h0, .inr (1, [.ref k0, .int (iI z_4)])), (k0, .inl (cy 2, 6, .inr (.inr (.inr (.inr R1))))), (sia, .inr (3, [.ref lia, .ref wia, .ref gia, .int (iI lrb), .int (iI erb), .int (iI plb), .int (iI lkb), .int (iI cpb)])), (lia, .inr (2, [.ref mia, .int (iI nlb)])), (mia, .inl (cy 0, 60, .inl Gl_3)), (wia, .inr (2, [.ref via, .int (iI nwb)])), (via, .inl (cy 0, 16, .inl Gw_3)), (gia, .inr (2, [.ref eia, .int (iI nfb)])), (eia, .inl (cy 0, 60, .inl Gf_3)), (sib, .inr (3, [.ref lib, .ref wib, .ref gib, .int (iI lrb), .int (iI erb), .int (iI plb), .int (iI lkb), .int (iI cpb)])), (lib, .inr (2, [.ref mib, .int (iI nlb)])), (mib, .inl (cy 0, 60, .inl Flb)), (wib, .inr (2, [.ref vib, .int (iI nwb)])), (vib, .inl (cy 0, 16, .inl Fwb)), (gib, .inr (2, [.ref eib, .int (iI nfb)])), (eib, .inl (cy 0, 60, .inl Ffb)), (q1, .inr (3, v1)), (q2, .inr (3, v2)), (q3, .inr (3, v3)), (q4, .inr (3, v4)), (q5, .inr (3, v5))] := hD
        exact z_vret hx hb hr hlocks hS (z_4, Gl_3, Gw_3, Gf_3) (show z_4 = min (ct + 1) 6 ∧ (∀ j : Nat, (j : Int) < nlb → Gl_3 j = Flb j) ∧ (∀ j : Nat, (j : Int) < nwb → Gw_3 j = Fwb j) ∧ ∀ j : Nat, (j : Int) < nfb → Gf_3 j = Ffb j from ⟨by omega, by assumption⟩) hP dX1_keep_74
      · --
        refine lv_aload_n hx hb dX1_keep_18 rfl (lv_at hl 2 rfl) ?_
        refine va_get (D := D) (ci := 1) (v := .ref k0) (C := RX1) (T := TX1) (N := 2) hx hb hts hiX1 hown hK hP 0 rfl rfl 0 (by decide) (hts (.fieldLink RX1 11 "BackwardSearch$History" "kept" "[LBackwardSearch$State;") (by decide +kernel)) (fun _ h9 => h9) rfl dX1_keep_19 ?_
        refine lv_iload_n hx hb dX1_keep_22 rfl (lv_at hl 0 rfl) ?_
        refine lv_iconst (v := iI 1) hx hb dX1_keep_23 rfl ?_
        refine z_sub hx hb dX1_keep_24 ?_
        refine lv_aload_n hx hb dX1_keep_25 rfl (lv_at hl 2 rfl) ?_
        refine va_get (D := D) (ci := 1) (v := .ref k0) (C := RX1) (T := TX1) (N := 2) hx hb hts hiX1 hown hK hP 0 rfl rfl 0 (by decide) (hts (.fieldLink RX1 11 "BackwardSearch$History" "kept" "[LBackwardSearch$State;") (by decide +kernel)) (fun _ h9 => h9) rfl dX1_keep_26 ?_
        refine lv_iload_n hx hb dX1_keep_29 rfl (lv_at hl 0 rfl) ?_
        obtain ⟨b1, qk, vs, hb1, hv1⟩ : ∃ (b1 qk : Nat) (vs : List Value), R i.toNat = some b1 ∧ ([(h0, .inr (1, [.ref k0, .int (iI ct)])), (k0, .inl (cy 2, 6, .inr (.inr (.inr (.inr X))))), (sia, .inr (3, [.ref lia, .ref wia, .ref gia, .int (iI lra), .int (iI era), .int (iI pla), .int (iI lka), .int (iI cpa)])), (lia, .inr (2, [.ref mia, .int (iI nla)])), (mia, .inl (cy 0, 60, .inl Fla)), (wia, .inr (2, [.ref via, .int (iI nwa)])), (via, .inl (cy 0, 16, .inl Fwa)), (gia, .inr (2, [.ref eia, .int (iI nfa)])), (eia, .inl (cy 0, 60, .inl Ffa)), (sib, .inr (3, [.ref lib, .ref wib, .ref gib, .int (iI lrb), .int (iI erb), .int (iI plb), .int (iI lkb), .int (iI cpb)])), (lib, .inr (2, [.ref mib, .int (iI nlb)])), (mib, .inl (cy 0, 60, .inl Flb)), (wib, .inr (2, [.ref vib, .int (iI nwb)])), (vib, .inl (cy 0, 16, .inl Fwb)), (gib, .inr (2, [.ref eib, .int (iI nfb)])), (eib, .inl (cy 0, 60, .inl Ffb)), (q1, .inr (3, v1)), (q2, .inr (3, v2)), (q3, .inr (3, v3)), (q4, .inr (3, v4)), (q5, .inr (3, v5))] : va_W)[qk]? = some (b1, .inr (3, vs)) := by
          rcases (show i = 1 ∨ i = 2 ∨ i = 3 ∨ i = 4 ∨ i = 5 by omega) with rfl | rfl | rfl | rfl | rfl
          · exact ⟨q1, 16, v1, hR.2.1, rfl⟩
          · exact ⟨q2, 17, v2, hR.2.2.1, rfl⟩
          · exact ⟨q3, 18, v3, hR.2.2.2.1, rfl⟩
          · exact ⟨q4, 19, v4, hR.2.2.2.2.1, rfl⟩
          · exact ⟨q5, 20, v5, hR.2.2.2.2.2, rfl⟩
        refine z_aldq (b := b1) hx hb hK hP 1 rfl (by omega) (by omega) (by omega) ((hX i.toNat (by omega)).trans ((if_neg (by omega)).trans hb1)) dX1_keep_30 ?_
        refine zi_astq hx hb hK hP hD hS 1 qk rfl hv1 (by omega) (by omega) (by omega) dX1_keep_31 (fun H locs hP hD hS => ?_)
        have hP : va_P D vwCl [(h0, .inr (1, [.ref k0, .int (iI ct)])), (k0, .inl (cy 2, 6, .inr (.inr (.inr (.inr (va_up X (i - 1).toNat (some b1))))))), (sia, .inr (3, [.ref lia, .ref wia, .ref gia, .int (iI lra), .int (iI era), .int (iI pla), .int (iI lka), .int (iI cpa)])), (lia, .inr (2, [.ref mia, .int (iI nla)])), (mia, .inl (cy 0, 60, .inl Fla)), (wia, .inr (2, [.ref via, .int (iI nwa)])), (via, .inl (cy 0, 16, .inl Fwa)), (gia, .inr (2, [.ref eia, .int (iI nfa)])), (eia, .inl (cy 0, 60, .inl Ffa)), (sib, .inr (3, [.ref lib, .ref wib, .ref gib, .int (iI lrb), .int (iI erb), .int (iI plb), .int (iI lkb), .int (iI cpb)])), (lib, .inr (2, [.ref mib, .int (iI nlb)])), (mib, .inl (cy 0, 60, .inl Flb)), (wib, .inr (2, [.ref vib, .int (iI nwb)])), (vib, .inl (cy 0, 16, .inl Fwb)), (gib, .inr (2, [.ref eib, .int (iI nfb)])), (eib, .inl (cy 0, 60, .inl Ffb)), (q1, .inr (3, v1)), (q2, .inr (3, v2)), (q3, .inr (3, v3)), (q4, .inr (3, v4)), (q5, .inr (3, v5))] H := hP
        have hD : va_D A [(h0, .inr (1, [.ref k0, .int (iI ct)])), (k0, .inl (cy 2, 6, .inr (.inr (.inr (.inr (va_up X (i - 1).toNat (some b1))))))), (sia, .inr (3, [.ref lia, .ref wia, .ref gia, .int (iI lra), .int (iI era), .int (iI pla), .int (iI lka), .int (iI cpa)])), (lia, .inr (2, [.ref mia, .int (iI nla)])), (mia, .inl (cy 0, 60, .inl Fla)), (wia, .inr (2, [.ref via, .int (iI nwa)])), (via, .inl (cy 0, 16, .inl Fwa)), (gia, .inr (2, [.ref eia, .int (iI nfa)])), (eia, .inl (cy 0, 60, .inl Ffa)), (sib, .inr (3, [.ref lib, .ref wib, .ref gib, .int (iI lrb), .int (iI erb), .int (iI plb), .int (iI lkb), .int (iI cpb)])), (lib, .inr (2, [.ref mib, .int (iI nlb)])), (mib, .inl (cy 0, 60, .inl Flb)), (wib, .inr (2, [.ref vib, .int (iI nwb)])), (vib, .inl (cy 0, 16, .inl Fwb)), (gib, .inr (2, [.ref eib, .int (iI nfb)])), (eib, .inl (cy 0, 60, .inl Ffb)), (q1, .inr (3, v1)), (q2, .inr (3, v2)), (q3, .inr (3, v3)), (q4, .inr (3, v4)), (q5, .inr (3, v5))] := hD
        refine z_iinc (lv' := [(3, .int (iI (i + 1))), (2, .ref sia), (0, .ref h0), (1, .ref sib)]) hx hb dX1_keep_32 hl (k := 0) rfl (by decide) rfl (fun ls hl => ?_)
        refine lv_goto (tgt := 9) hx hb dX1_keep_35 (by decide) ?_
        exact ih1 (i + 1) (va_up X (i - 1).toNat (some b1)) (by omega) (shL_go (by omega) hX hb1) (by omega) _ _ _ hP hD hS (lv_sub hl [0, 1, 2, 3] rfl)
  exact hloop1 (Int.toNat (6 - 1) + 1) 1 R (by omega) (fun j hj => (if_neg (by omega)).symm) (by omega) _ _ _ hP hD hS (lv_sub hl [0, 1, 2, 3] rfl)
set_option maxHeartbeats 4000000 in
set_option maxRecDepth 100000 in
theorem c_X1_giveBack (l : Launch) (D : va_G) (cy : Nat → ClassId) (h0 : Nat) (k0 : Nat) (R : Nat → Option Nat) (R1 : Nat → Option Nat) (ct : Int) (sia : Nat) (lia : Nat) (mia : Nat) (wia : Nat) (via : Nat) (gia : Nat) (eia : Nat) (nla : Int) (Fla : Nat → Int32) (nwa : Int) (Fwa : Nat → Int32) (nfa : Int) (Ffa : Nat → Int32) (lra : Int) (era : Int) (pla : Int) (lka : Int) (cpa : Int) (sib : Nat) (lib : Nat) (mib : Nat) (wib : Nat) (vib : Nat) (gib : Nat) (eib : Nat) (nlb : Int) (Flb : Nat → Int32) (nwb : Int) (Fwb : Nat → Int32) (nfb : Int) (Ffb : Nat → Int32) (lrb : Int) (erb : Int) (plb : Int) (lkb : Int) (cpb : Int) (q1 : Nat) (q2 : Nat) (q3 : Nat) (q4 : Nat) (q5 : Nat) (v1 : List Value) (v2 : List Value) (v3 : List Value) (v4 : List Value) (v5 : List Value) (hbb : 0 ≤ nlb ∧ nlb ≤ 60 ∧ 0 ≤ nwb ∧ nwb ≤ 16 ∧ 0 ≤ nfb ∧ nfb ≤ plb ∧ plb ≤ 100 ∧ nfb ≤ 60 ∧ 0 ≤ lkb ∧ lkb ≤ plb ∧ 0 ≤ cpb ∧ cpb ≤ 16 * lkb ∧ 0 ≤ lrb ∧ lrb ≤ 1 ∧ 0 ≤ erb ∧ erb ≤ 1) (hn : 0 < ct ∧ ct ≤ 6) (hR : R 0 = some q1 ∧ R 1 = some q2 ∧ R 2 = some q3 ∧ R 3 = some q4 ∧ R 4 = some q5 ∧ R 5 = some sib) (hR1 : ∀ j : Nat, j < 6 → R1 j = R ((j + 5) % 6)) : Cv l D cy yX1_giveBack wsX1_giveBack 3 64 [.ref h0, .ref sia] [(h0, .inr (1, [.ref k0, .int (iI ct)])), (k0, .inl (cy 2, 6, .inr (.inr (.inr (.inr R))))), (sia, .inr (3, [.ref lia, .ref wia, .ref gia, .int (iI lra), .int (iI era), .int (iI pla), .int (iI lka), .int (iI cpa)])), (lia, .inr (2, [.ref mia, .int (iI nla)])), (mia, .inl (cy 0, 60, .inl Fla)), (wia, .inr (2, [.ref via, .int (iI nwa)])), (via, .inl (cy 0, 16, .inl Fwa)), (gia, .inr (2, [.ref eia, .int (iI nfa)])), (eia, .inl (cy 0, 60, .inl Ffa)), (sib, .inr (3, [.ref lib, .ref wib, .ref gib, .int (iI lrb), .int (iI erb), .int (iI plb), .int (iI lkb), .int (iI cpb)])), (lib, .inr (2, [.ref mib, .int (iI nlb)])), (mib, .inl (cy 0, 60, .inl Flb)), (wib, .inr (2, [.ref vib, .int (iI nwb)])), (vib, .inl (cy 0, 16, .inl Fwb)), (gib, .inr (2, [.ref eib, .int (iI nfb)])), (eib, .inl (cy 0, 60, .inl Ffb)), (q1, .inr (3, v1)), (q2, .inr (3, v2)), (q3, .inr (3, v3)), (q4, .inr (3, v4)), (q5, .inr (3, v5))] (fun (u : (Nat → Int32) × (Nat → Int32) × (Nat → Int32)) => (∀ j : Nat, (j : Int) < nlb → u.1 j = Flb j) ∧ (∀ j : Nat, (j : Int) < nwb → u.2.1 j = Fwb j) ∧ ∀ j : Nat, (j : Int) < nfb → u.2.2 j = Ffb j) (fun u : (Nat → Int32) × (Nat → Int32) × (Nat → Int32) => [(h0, .inr (1, [.ref k0, .int (iI (ct - 1))])), (k0, .inl (cy 2, 6, .inr (.inr (.inr (.inr R1))))), (sia, .inr (3, [.ref lia, .ref wia, .ref gia, .int (iI lrb), .int (iI erb), .int (iI plb), .int (iI lkb), .int (iI cpb)])), (lia, .inr (2, [.ref mia, .int (iI nlb)])), (mia, .inl (cy 0, 60, .inl u.1)), (wia, .inr (2, [.ref via, .int (iI nwb)])), (via, .inl (cy 0, 16, .inl u.2.1)), (gia, .inr (2, [.ref eia, .int (iI nfb)])), (eia, .inl (cy 0, 60, .inl u.2.2)), (sib, .inr (3, [.ref lib, .ref wib, .ref gib, .int (iI lrb), .int (iI erb), .int (iI plb), .int (iI lkb), .int (iI cpb)])), (lib, .inr (2, [.ref mib, .int (iI nlb)])), (mib, .inl (cy 0, 60, .inl Flb)), (wib, .inr (2, [.ref vib, .int (iI nwb)])), (vib, .inl (cy 0, 16, .inl Fwb)), (gib, .inr (2, [.ref eib, .int (iI nfb)])), (eib, .inl (cy 0, 60, .inl Ffb)), (q1, .inr (3, v1)), (q2, .inr (3, v2)), (q3, .inr (3, v3)), (q4, .inr (3, v4)), (q5, .inr (3, v5))]) := by
  refine Cv_of (cc := cX1_giveBack) (maxL := 4) (ret := none) (by decide) rfl rfl ?_
  intro p e s m args below meth c A hx hb hr hts hown hlocks hml hP hK hD hT hA ls hl
  have hS : va_S A s.heap s.heap [] := va_S.rf
  have hl : lv_has ls 4 [(0, .ref h0), (1, .ref sia)] := hl
  have hiX1 : ∀ w ∈ wsX10, w ∈ wsX1_giveBack := by decide +kernel
  refine lv_aload_n hx hb dX1_giveBack_0 rfl (lv_at hl 0 rfl) ?_
  refine va_get (D := D) (ci := 1) (v := .int (iI ct)) (C := RX1) (T := TX1) (N := 2) hx hb hts hiX1 hown hK hP 0 rfl rfl 1 (by decide) (hts (.fieldLink RX1 18 "BackwardSearch$History" "count" "I") (by decide +kernel)) (fun _ h9 => h9) rfl dX1_giveBack_1 ?_
  refine z_if_le (tgt := 74) hx hb (iI_t (by omega) (by omega)) dX1_giveBack_4 (by decide) (fun c1 => absurd c1 (by omega)) (fun c1 => ?_)
  refine lv_aload_n hx hb dX1_giveBack_7 rfl (lv_at hl 0 rfl) ?_
  refine va_get (D := D) (ci := 1) (v := .ref k0) (C := RX1) (T := TX1) (N := 2) hx hb hts hiX1 hown hK hP 0 rfl rfl 0 (by decide) (hts (.fieldLink RX1 11 "BackwardSearch$History" "kept" "[LBackwardSearch$State;") (by decide +kernel)) (fun _ h9 => h9) rfl dX1_giveBack_8 ?_
  refine lv_aload_n hx hb dX1_giveBack_11 rfl (lv_at hl 0 rfl) ?_
  refine va_get (D := D) (ci := 1) (v := .ref k0) (C := RX1) (T := TX1) (N := 2) hx hb hts hiX1 hown hK hP 0 rfl rfl 0 (by decide) (hts (.fieldLink RX1 11 "BackwardSearch$History" "kept" "[LBackwardSearch$State;") (by decide +kernel)) (fun _ h9 => h9) rfl dX1_giveBack_12 ?_
  refine z_alen hx hb hK hP 1 2 rfl rfl dX1_giveBack_15 ?_
  refine lv_iconst (v := iI 1) hx hb dX1_giveBack_16 rfl ?_
  refine z_sub hx hb dX1_giveBack_17 ?_
  refine z_aldq (b := sib) hx hb hK hP 1 rfl (by omega) (by omega) (by omega) (show R (((6 : Nat) : Int) - 1).toNat = some sib from by rw [show (((6 : Nat) : Int) - 1).toNat = 5 by omega]; exact hR.2.2.2.2.2) dX1_giveBack_18 ?_
  refine lv_astore_n (lv' := [(2, .ref sib), (0, .ref h0), (1, .ref sia)]) hx hb dX1_giveBack_19 rfl hl (by decide) rfl (fun ls hl => ?_)
  refine lv_aload_n hx hb dX1_giveBack_20 rfl (lv_at hl 1 rfl) ?_
  refine va_get (D := D) (ci := 1) (v := .ref k0) (C := RX1) (T := TX1) (N := 2) hx hb hts hiX1 hown hK hP 0 rfl rfl 0 (by decide) (hts (.fieldLink RX1 11 "BackwardSearch$History" "kept" "[LBackwardSearch$State;") (by decide +kernel)) (fun _ h9 => h9) rfl dX1_giveBack_21 ?_
  refine z_alen hx hb hK hP 1 2 rfl rfl dX1_giveBack_24 ?_
  refine lv_iconst (v := iI 1) hx hb dX1_giveBack_25 rfl ?_
  refine z_sub hx hb dX1_giveBack_26 ?_
  refine lv_istore_n (lv' := [(3, .int (iI (((6 : Nat) : Int) - 1))), (2, .ref sib), (0, .ref h0), (1, .ref sia)]) hx hb dX1_giveBack_27 rfl hl (by decide) rfl (fun ls hl => ?_)
  have hloop2 : ∀ (n2 : Nat) (i : Int) (X : Nat → Option Nat) (hi : 0 ≤ i ∧ i ≤ 5) (hX : ∀ j : Nat, j < 6 → X j = if i < (j : Int) then R (j - 1) else R j) (hm : i < (n2 : Int)) (H : Heap) (locs : List Loc) (ls : Array Slot) (hP : va_P D vwCl [(h0, .inr (1, [.ref k0, .int (iI ct)])), (k0, .inl (cy 2, 6, .inr (.inr (.inr (.inr X))))), (sia, .inr (3, [.ref lia, .ref wia, .ref gia, .int (iI lra), .int (iI era), .int (iI pla), .int (iI lka), .int (iI cpa)])), (lia, .inr (2, [.ref mia, .int (iI nla)])), (mia, .inl (cy 0, 60, .inl Fla)), (wia, .inr (2, [.ref via, .int (iI nwa)])), (via, .inl (cy 0, 16, .inl Fwa)), (gia, .inr (2, [.ref eia, .int (iI nfa)])), (eia, .inl (cy 0, 60, .inl Ffa)), (sib, .inr (3, [.ref lib, .ref wib, .ref gib, .int (iI lrb), .int (iI erb), .int (iI plb), .int (iI lkb), .int (iI cpb)])), (lib, .inr (2, [.ref mib, .int (iI nlb)])), (mib, .inl (cy 0, 60, .inl Flb)), (wib, .inr (2, [.ref vib, .int (iI nwb)])), (vib, .inl (cy 0, 16, .inl Fwb)), (gib, .inr (2, [.ref eib, .int (iI nfb)])), (eib, .inl (cy 0, 60, .inl Ffb)), (q1, .inr (3, v1)), (q2, .inr (3, v2)), (q3, .inr (3, v3)), (q4, .inr (3, v4)), (q5, .inr (3, v5))] H) (hD : va_D A [(h0, .inr (1, [.ref k0, .int (iI ct)])), (k0, .inl (cy 2, 6, .inr (.inr (.inr (.inr X))))), (sia, .inr (3, [.ref lia, .ref wia, .ref gia, .int (iI lra), .int (iI era), .int (iI pla), .int (iI lka), .int (iI cpa)])), (lia, .inr (2, [.ref mia, .int (iI nla)])), (mia, .inl (cy 0, 60, .inl Fla)), (wia, .inr (2, [.ref via, .int (iI nwa)])), (via, .inl (cy 0, 16, .inl Fwa)), (gia, .inr (2, [.ref eia, .int (iI nfa)])), (eia, .inl (cy 0, 60, .inl Ffa)), (sib, .inr (3, [.ref lib, .ref wib, .ref gib, .int (iI lrb), .int (iI erb), .int (iI plb), .int (iI lkb), .int (iI cpb)])), (lib, .inr (2, [.ref mib, .int (iI nlb)])), (mib, .inl (cy 0, 60, .inl Flb)), (wib, .inr (2, [.ref vib, .int (iI nwb)])), (vib, .inl (cy 0, 16, .inl Fwb)), (gib, .inr (2, [.ref eib, .int (iI nfb)])), (eib, .inl (cy 0, 60, .inl Ffb)), (q1, .inr (3, v1)), (q2, .inr (3, v2)), (q3, .inr (3, v3)), (q4, .inr (3, v4)), (q5, .inr (3, v5))]) (hS : va_S A s.heap H locs) (hl : lv_has ls 4 [(3, .int (iI i)), (2, .ref sib), (0, .ref h0), (1, .ref sia)]), W p l e ({ frames := 3, cells := 0, slots := 0, locals := 64 } : Room) s m args below meth c H locs 0 0 (MQ below (va_Qv (fun (u : (Nat → Int32) × (Nat → Int32) × (Nat → Int32)) => (∀ j : Nat, (j : Int) < nlb → u.1 j = Flb j) ∧ (∀ j : Nat, (j : Int) < nwb → u.2.1 j = Fwb j) ∧ ∀ j : Nat, (j : Int) < nfb → u.2.2 j = Ffb j) (fun u t => va_P D vwCl ((fun u : (Nat → Int32) × (Nat → Int32) × (Nat → Int32) => [(h0, .inr (1, [.ref k0, .int (iI (ct - 1))])), (k0, .inl (cy 2, 6, .inr (.inr (.inr (.inr R1))))), (sia, .inr (3, [.ref lia, .ref wia, .ref gia, .int (iI lrb), .int (iI erb), .int (iI plb), .int (iI lkb), .int (iI cpb)])), (lia, .inr (2, [.ref mia, .int (iI nlb)])), (mia, .inl (cy 0, 60, .inl u.1)), (wia, .inr (2, [.ref via, .int (iI nwb)])), (via, .inl (cy 0, 16, .inl u.2.1)), (gia, .inr (2, [.ref eia, .int (iI nfb)])), (eia, .inl (cy 0, 60, .inl u.2.2)), (sib, .inr (3, [.ref lib, .ref wib, .ref gib, .int (iI lrb), .int (iI erb), .int (iI plb), .int (iI lkb), .int (iI cpb)])), (lib, .inr (2, [.ref mib, .int (iI nlb)])), (mib, .inl (cy 0, 60, .inl Flb)), (wib, .inr (2, [.ref vib, .int (iI nwb)])), (vib, .inl (cy 0, 16, .inl Fwb)), (gib, .inr (2, [.ref eib, .int (iI nfb)])), (eib, .inl (cy 0, 60, .inl Ffb)), (q1, .inr (3, v1)), (q2, .inr (3, v2)), (q3, .inr (3, v3)), (q4, .inr (3, v4)), (q5, .inr (3, v5))]) u) t.heap) A) args s 0 0 A) (F0 m 28 ls []) := by
    intro n2
    induction n2 with
    | zero =>
      intro i X hi hX hm; exact absurd hm (by omega)
    | succ n2 ih2 =>
      intro i X hi hX hm H locs ls hP hD hS hl
      refine lv_iload_n hx hb dX1_giveBack_28 rfl (lv_at hl 0 rfl) ?_
      refine z_if_le (tgt := 52) hx hb (iI_t (by omega) (by omega)) dX1_giveBack_29 (by decide) (fun c3 => ?_) (fun c3 => ?_)
      · --
        refine lv_aload_n hx hb dX1_giveBack_52 rfl (lv_at hl 2 rfl) ?_
        refine va_get (D := D) (ci := 1) (v := .ref k0) (C := RX1) (T := TX1) (N := 2) hx hb hts hiX1 hown hK hP 0 rfl rfl 0 (by decide) (hts (.fieldLink RX1 11 "BackwardSearch$History" "kept" "[LBackwardSearch$State;") (by decide +kernel)) (fun _ h9 => h9) rfl dX1_giveBack_53 ?_
        refine lv_iconst (v := iI 0) hx hb dX1_giveBack_56 rfl ?_
        refine lv_aload_n hx hb dX1_giveBack_57 rfl (lv_at hl 1 rfl) ?_
        refine zi_astq hx hb hK hP hD hS 1 9 rfl rfl (by omega) (by omega) (by omega) dX1_giveBack_58 (fun H locs hP hD hS => ?_)
        have hP : va_P D vwCl [(h0, .inr (1, [.ref k0, .int (iI ct)])), (k0, .inl (cy 2, 6, .inr (.inr (.inr (.inr (va_up X (0 : Int).toNat (some sib))))))), (sia, .inr (3, [.ref lia, .ref wia, .ref gia, .int (iI lra), .int (iI era), .int (iI pla), .int (iI lka), .int (iI cpa)])), (lia, .inr (2, [.ref mia, .int (iI nla)])), (mia, .inl (cy 0, 60, .inl Fla)), (wia, .inr (2, [.ref via, .int (iI nwa)])), (via, .inl (cy 0, 16, .inl Fwa)), (gia, .inr (2, [.ref eia, .int (iI nfa)])), (eia, .inl (cy 0, 60, .inl Ffa)), (sib, .inr (3, [.ref lib, .ref wib, .ref gib, .int (iI lrb), .int (iI erb), .int (iI plb), .int (iI lkb), .int (iI cpb)])), (lib, .inr (2, [.ref mib, .int (iI nlb)])), (mib, .inl (cy 0, 60, .inl Flb)), (wib, .inr (2, [.ref vib, .int (iI nwb)])), (vib, .inl (cy 0, 16, .inl Fwb)), (gib, .inr (2, [.ref eib, .int (iI nfb)])), (eib, .inl (cy 0, 60, .inl Ffb)), (q1, .inr (3, v1)), (q2, .inr (3, v2)), (q3, .inr (3, v3)), (q4, .inr (3, v4)), (q5, .inr (3, v5))] H := hP
        have hD : va_D A [(h0, .inr (1, [.ref k0, .int (iI ct)])), (k0, .inl (cy 2, 6, .inr (.inr (.inr (.inr (va_up X (0 : Int).toNat (some sib))))))), (sia, .inr (3, [.ref lia, .ref wia, .ref gia, .int (iI lra), .int (iI era), .int (iI pla), .int (iI lka), .int (iI cpa)])), (lia, .inr (2, [.ref mia, .int (iI nla)])), (mia, .inl (cy 0, 60, .inl Fla)), (wia, .inr (2, [.ref via, .int (iI nwa)])), (via, .inl (cy 0, 16, .inl Fwa)), (gia, .inr (2, [.ref eia, .int (iI nfa)])), (eia, .inl (cy 0, 60, .inl Ffa)), (sib, .inr (3, [.ref lib, .ref wib, .ref gib, .int (iI lrb), .int (iI erb), .int (iI plb), .int (iI lkb), .int (iI cpb)])), (lib, .inr (2, [.ref mib, .int (iI nlb)])), (mib, .inl (cy 0, 60, .inl Flb)), (wib, .inr (2, [.ref vib, .int (iI nwb)])), (vib, .inl (cy 0, 16, .inl Fwb)), (gib, .inr (2, [.ref eib, .int (iI nfb)])), (eib, .inl (cy 0, 60, .inl Ffb)), (q1, .inr (3, v1)), (q2, .inr (3, v2)), (q3, .inr (3, v3)), (q4, .inr (3, v4)), (q5, .inr (3, v5))] := hD
        refine lv_aload_n hx hb dX1_giveBack_59 rfl (lv_at hl 3 rfl) ?_
        refine lv_aload_n hx hb dX1_giveBack_60 rfl (lv_at hl 1 rfl) ?_
        refine z_cVv (n := 1) (b := sia) (As := [.ref sib]) (rest := []) ⟨hx, hb, hml, hown, hts⟩ (c_X3_copy l D cy sia lia mia wia via gia eia nla Fla nwa Fwa nfa Ffa lra era pla lka cpa sib lib mib wib vib gib eib nlb Flb nwb Fwb nfb Ffb lrb erb plb lkb cpb (by omega)) gX1_giveBack_X3_copy rfl (by decide +kernel) ⟨Nat.le_of_ble_eq_true rfl, Nat.le_of_ble_eq_true rfl⟩ hK hT hP hD hS hA [2, 3, 4, 5, 6, 7, 8, 9, 10, 11, 12, 13, 14, 15] rfl rfl 2 3 rfl rfl rfl (fun _ => rfl) rfl hl.1 rfl (Nat.le_of_ble_eq_true rfl) dX1_giveBack_61 ⟨Nat.zero_le _, Nat.zero_le _⟩ (fun  u_4 H locs hw_4 hP hD hS => ?_)
        obtain ⟨Gl_4, Gw_4, Gf_4⟩ := u_4
        have hw_4 : (∀ j : Nat, (j : Int) < nlb → Gl_4 j = Flb j) ∧ (∀ j : Nat, (j : Int) < nwb → Gw_4 j = Fwb j) ∧ ∀ j : Nat, (j : Int) < nfb → Gf_4 j = Ffb j := hw_4
        have hP : va_P D vwCl [(h0, .inr (1, [.ref k0, .int (iI ct)])), (k0, .inl (cy 2, 6, .inr (.inr (.inr (.inr (va_up X (0 : Int).toNat (some sib))))))), (sia, .inr (3, [.ref lia, .ref wia, .ref gia, .int (iI lrb), .int (iI erb), .int (iI plb), .int (iI lkb), .int (iI cpb)])), (lia, .inr (2, [.ref mia, .int (iI nlb)])), (mia, .inl (cy 0, 60, .inl Gl_4)), (wia, .inr (2, [.ref via, .int (iI nwb)])), (via, .inl (cy 0, 16, .inl Gw_4)), (gia, .inr (2, [.ref eia, .int (iI nfb)])), (eia, .inl (cy 0, 60, .inl Gf_4)), (sib, .inr (3, [.ref lib, .ref wib, .ref gib, .int (iI lrb), .int (iI erb), .int (iI plb), .int (iI lkb), .int (iI cpb)])), (lib, .inr (2, [.ref mib, .int (iI nlb)])), (mib, .inl (cy 0, 60, .inl Flb)), (wib, .inr (2, [.ref vib, .int (iI nwb)])), (vib, .inl (cy 0, 16, .inl Fwb)), (gib, .inr (2, [.ref eib, .int (iI nfb)])), (eib, .inl (cy 0, 60, .inl Ffb)), (q1, .inr (3, v1)), (q2, .inr (3, v2)), (q3, .inr (3, v3)), (q4, .inr (3, v4)), (q5, .inr (3, v5))] H := hP
        have hD : va_D A [(h0, .inr (1, [.ref k0, .int (iI ct)])), (k0, .inl (cy 2, 6, .inr (.inr (.inr (.inr (va_up X (0 : Int).toNat (some sib))))))), (sia, .inr (3, [.ref lia, .ref wia, .ref gia, .int (iI lrb), .int (iI erb), .int (iI plb), .int (iI lkb), .int (iI cpb)])), (lia, .inr (2, [.ref mia, .int (iI nlb)])), (mia, .inl (cy 0, 60, .inl Gl_4)), (wia, .inr (2, [.ref via, .int (iI nwb)])), (via, .inl (cy 0, 16, .inl Gw_4)), (gia, .inr (2, [.ref eia, .int (iI nfb)])), (eia, .inl (cy 0, 60, .inl Gf_4)), (sib, .inr (3, [.ref lib, .ref wib, .ref gib, .int (iI lrb), .int (iI erb), .int (iI plb), .int (iI lkb), .int (iI cpb)])), (lib, .inr (2, [.ref mib, .int (iI nlb)])), (mib, .inl (cy 0, 60, .inl Flb)), (wib, .inr (2, [.ref vib, .int (iI nwb)])), (vib, .inl (cy 0, 16, .inl Fwb)), (gib, .inr (2, [.ref eib, .int (iI nfb)])), (eib, .inl (cy 0, 60, .inl Ffb)), (q1, .inr (3, v1)), (q2, .inr (3, v2)), (q3, .inr (3, v3)), (q4, .inr (3, v4)), (q5, .inr (3, v5))] := hD
        refine lv_aload_n hx hb dX1_giveBack_64 rfl (lv_at hl 2 rfl) ?_
        refine lv_dup hx hb dX1_giveBack_65 rfl ?_
        refine va_get (D := D) (ci := 1) (v := .int (iI ct)) (C := RX1) (T := TX1) (N := 2) hx hb hts hiX1 hown hK hP 0 rfl rfl 1 (by decide) (hts (.fieldLink RX1 18 "BackwardSearch$History" "count" "I") (by decide +kernel)) (fun _ h9 => h9) rfl dX1_giveBack_66 ?_
        refine lv_iconst (v := iI 1) hx hb dX1_giveBack_69 rfl ?_
        refine z_sub hx hb dX1_giveBack_70 ?_
        refine va_put (D := D) (ci := 1) (v := .int (iI (ct - 1))) (ty := .int) (C := RX1) (T := TX1) (N := 2) hx hb hts hiX1 tyX1 tyX1_ok nmX1 hown hK hP hD hS 0 rfl rfl 1 (by decide) (hts (.fieldLink RX1 18 "BackwardSearch$History" "count" "I") (by decide +kernel)) (fun _ h9 => h9) rfl (by decide +kernel) rfl rfl (Nat.le_of_ble_eq_true rfl) dX1_giveBack_71 (fun H locs hP hD hS => ?_)
        have hP : va_P D vwCl [(h0, .inr (1, [.ref k0, .int (iI (ct - 1))])), (k0, .inl (cy 2, 6, .inr (.inr (.inr (.inr (va_up X (0 : Int).toNat (some sib))))))), (sia, .inr (3, [.ref lia, .ref wia, .ref gia, .int (iI lrb), .int (iI erb), .int (iI plb), .int (iI lkb), .int (iI cpb)])), (lia, .inr (2, [.ref mia, .int (iI nlb)])), (mia, .inl (cy 0, 60, .inl Gl_4)), (wia, .inr (2, [.ref via, .int (iI nwb)])), (via, .inl (cy 0, 16, .inl Gw_4)), (gia, .inr (2, [.ref eia, .int (iI nfb)])), (eia, .inl (cy 0, 60, .inl Gf_4)), (sib, .inr (3, [.ref lib, .ref wib, .ref gib, .int (iI lrb), .int (iI erb), .int (iI plb), .int (iI lkb), .int (iI cpb)])), (lib, .inr (2, [.ref mib, .int (iI nlb)])), (mib, .inl (cy 0, 60, .inl Flb)), (wib, .inr (2, [.ref vib, .int (iI nwb)])), (vib, .inl (cy 0, 16, .inl Fwb)), (gib, .inr (2, [.ref eib, .int (iI nfb)])), (eib, .inl (cy 0, 60, .inl Ffb)), (q1, .inr (3, v1)), (q2, .inr (3, v2)), (q3, .inr (3, v3)), (q4, .inr (3, v4)), (q5, .inr (3, v5))] H := hP
        have hD : va_D A [(h0, .inr (1, [.ref k0, .int (iI (ct - 1))])), (k0, .inl (cy 2, 6, .inr (.inr (.inr (.inr (va_up X (0 : Int).toNat (some sib))))))), (sia, .inr (3, [.ref lia, .ref wia, .ref gia, .int (iI lrb), .int (iI erb), .int (iI plb), .int (iI lkb), .int (iI cpb)])), (lia, .inr (2, [.ref mia, .int (iI nlb)])), (mia, .inl (cy 0, 60, .inl Gl_4)), (wia, .inr (2, [.ref via, .int (iI nwb)])), (via, .inl (cy 0, 16, .inl Gw_4)), (gia, .inr (2, [.ref eia, .int (iI nfb)])), (eia, .inl (cy 0, 60, .inl Gf_4)), (sib, .inr (3, [.ref lib, .ref wib, .ref gib, .int (iI lrb), .int (iI erb), .int (iI plb), .int (iI lkb), .int (iI cpb)])), (lib, .inr (2, [.ref mib, .int (iI nlb)])), (mib, .inl (cy 0, 60, .inl Flb)), (wib, .inr (2, [.ref vib, .int (iI nwb)])), (vib, .inl (cy 0, 16, .inl Fwb)), (gib, .inr (2, [.ref eib, .int (iI nfb)])), (eib, .inl (cy 0, 60, .inl Ffb)), (q1, .inr (3, v1)), (q2, .inr (3, v2)), (q3, .inr (3, v3)), (q4, .inr (3, v4)), (q5, .inr (3, v5))] := hD
        have hP := vaP_refs (g := R1) hP 1 rfl (shR_end (i := i) (by omega) hX hR.2.2.2.2.2 hR1)
        have hD : va_D A [(h0, .inr (1, [.ref k0, .int (iI (ct - 1))])), (k0, .inl (cy 2, 6, .inr (.inr (.inr (.inr R1))))), (sia, .inr (3, [.ref lia, .ref wia, .ref gia, .int (iI lrb), .int (iI erb), .int (iI plb), .int (iI lkb), .int (iI cpb)])), (lia, .inr (2, [.ref mia, .int (iI nlb)])), (mia, .inl (cy 0, 60, .inl Gl_4)), (wia, .inr (2, [.ref via, .int (iI nwb)])), (via, .inl (cy 0, 16, .inl Gw_4)), (gia, .inr (2, [.ref eia, .int (iI nfb)])), (eia, .inl (cy 0, 60, .inl Gf_4)), (sib, .inr (3, [.ref lib, .ref wib, .ref gib, .int (iI lrb), .int (iI erb), .int (iI plb), .int (iI lkb), .int (iI cpb)])), (lib, .inr (2, [.ref mib, .int (iI nlb)])), (mib, .inl (cy 0, 60, .inl Flb)), (wib, .inr (2, [.ref vib, .int (iI nwb)])), (vib, .inl (cy 0, 16, .inl Fwb)), (gib, .inr (2, [.ref eib, .int (iI nfb)])), (eib, .inl (cy 0, 60, .inl Ffb)), (q1, .inr (3, v1)), (q2, .inr (3, v2)), (q3, .inr (3, v3)), (q4, .inr (3, v4)), (q5, .inr (3, v5))] := by
          refine va_D_fst ?_ hD
          rfl
        have hP : va_P D vwCl [(h0, .inr (1, [.ref k0, .int (iI (ct - 1))])), (k0, .inl (cy 2, 6, .inr (.inr (.inr (.inr R1))))), (sia, .inr (3, [.ref lia, .ref wia, .ref gia, .int (iI lrb), .int (iI erb), .int (iI plb), .int (iI lkb), .int (iI cpb)])), (lia, .inr (2, [.ref mia, .int (iI nlb)])), (mia, .inl (cy 0, 60, .inl Gl_4)), (wia, .inr (2, [.ref via, .int (iI nwb)])), (via, .inl (cy 0, 16, .inl Gw_4)), (gia, .inr (2, [.ref eia, .int (iI nfb)])), (eia, .inl (cy 0, 60, .inl Gf_4)), (sib, .inr (3, [.ref lib, .ref wib, .ref gib, .int (iI lrb), .int (iI erb), .int (iI plb), .int (iI lkb), .int (iI cpb)])), (lib, .inr (2, [.ref mib, .int (iI nlb)])), (mib, .inl (cy 0, 60, .inl Flb)), (wib, .inr (2, [.ref vib, .int (iI nwb)])), (vib, .inl (cy 0, 16, .inl Fwb)), (gib, .inr (2, [.ref eib, .int (iI nfb)])), (eib, .inl (cy 0, 60, .inl Ffb)), (q1, .inr (3, v1)), (q2, .inr (3, v2)), (q3, .inr (3, v3)), (q4, .inr (3, v4)), (q5, .inr (3, v5))] H := hP
        have hD : va_D A [(h0, .inr (1, [.ref k0, .int (iI (ct - 1))])), (k0, .inl (cy 2, 6, .inr (.inr (.inr (.inr R1))))), (sia, .inr (3, [.ref lia, .ref wia, .ref gia, .int (iI lrb), .int (iI erb), .int (iI plb), .int (iI lkb), .int (iI cpb)])), (lia, .inr (2, [.ref mia, .int (iI nlb)])), (mia, .inl (cy 0, 60, .inl Gl_4)), (wia, .inr (2, [.ref via, .int (iI nwb)])), (via, .inl (cy 0, 16, .inl Gw_4)), (gia, .inr (2, [.ref eia, .int (iI nfb)])), (eia, .inl (cy 0, 60, .inl Gf_4)), (sib, .inr (3, [.ref lib, .ref wib, .ref gib, .int (iI lrb), .int (iI erb), .int (iI plb), .int (iI lkb), .int (iI cpb)])), (lib, .inr (2, [.ref mib, .int (iI nlb)])), (mib, .inl (cy 0, 60, .inl Flb)), (wib, .inr (2, [.ref vib, .int (iI nwb)])), (vib, .inl (cy 0, 16, .inl Fwb)), (gib, .inr (2, [.ref eib, .int (iI nfb)])), (eib, .inl (cy 0, 60, .inl Ffb)), (q1, .inr (3, v1)), (q2, .inr (3, v2)), (q3, .inr (3, v3)), (q4, .inr (3, v4)), (q5, .inr (3, v5))] := hD
        exact z_vret hx hb hr hlocks hS (Gl_4, Gw_4, Gf_4) (show (∀ j : Nat, (j : Int) < nlb → Gl_4 j = Flb j) ∧ (∀ j : Nat, (j : Int) < nwb → Gw_4 j = Fwb j) ∧ ∀ j : Nat, (j : Int) < nfb → Gf_4 j = Ffb j from (by assumption)) hP dX1_giveBack_74
      · --
        refine lv_aload_n hx hb dX1_giveBack_32 rfl (lv_at hl 2 rfl) ?_
        refine va_get (D := D) (ci := 1) (v := .ref k0) (C := RX1) (T := TX1) (N := 2) hx hb hts hiX1 hown hK hP 0 rfl rfl 0 (by decide) (hts (.fieldLink RX1 11 "BackwardSearch$History" "kept" "[LBackwardSearch$State;") (by decide +kernel)) (fun _ h9 => h9) rfl dX1_giveBack_33 ?_
        refine lv_iload_n hx hb dX1_giveBack_36 rfl (lv_at hl 0 rfl) ?_
        refine lv_aload_n hx hb dX1_giveBack_37 rfl (lv_at hl 2 rfl) ?_
        refine va_get (D := D) (ci := 1) (v := .ref k0) (C := RX1) (T := TX1) (N := 2) hx hb hts hiX1 hown hK hP 0 rfl rfl 0 (by decide) (hts (.fieldLink RX1 11 "BackwardSearch$History" "kept" "[LBackwardSearch$State;") (by decide +kernel)) (fun _ h9 => h9) rfl dX1_giveBack_38 ?_
        refine lv_iload_n hx hb dX1_giveBack_41 rfl (lv_at hl 0 rfl) ?_
        refine lv_iconst (v := iI 1) hx hb dX1_giveBack_42 rfl ?_
        refine z_sub hx hb dX1_giveBack_43 ?_
        obtain ⟨b1, qk, vs, hb1, hv1⟩ : ∃ (b1 qk : Nat) (vs : List Value), R (i - 1).toNat = some b1 ∧ ([(h0, .inr (1, [.ref k0, .int (iI ct)])), (k0, .inl (cy 2, 6, .inr (.inr (.inr (.inr X))))), (sia, .inr (3, [.ref lia, .ref wia, .ref gia, .int (iI lra), .int (iI era), .int (iI pla), .int (iI lka), .int (iI cpa)])), (lia, .inr (2, [.ref mia, .int (iI nla)])), (mia, .inl (cy 0, 60, .inl Fla)), (wia, .inr (2, [.ref via, .int (iI nwa)])), (via, .inl (cy 0, 16, .inl Fwa)), (gia, .inr (2, [.ref eia, .int (iI nfa)])), (eia, .inl (cy 0, 60, .inl Ffa)), (sib, .inr (3, [.ref lib, .ref wib, .ref gib, .int (iI lrb), .int (iI erb), .int (iI plb), .int (iI lkb), .int (iI cpb)])), (lib, .inr (2, [.ref mib, .int (iI nlb)])), (mib, .inl (cy 0, 60, .inl Flb)), (wib, .inr (2, [.ref vib, .int (iI nwb)])), (vib, .inl (cy 0, 16, .inl Fwb)), (gib, .inr (2, [.ref eib, .int (iI nfb)])), (eib, .inl (cy 0, 60, .inl Ffb)), (q1, .inr (3, v1)), (q2, .inr (3, v2)), (q3, .inr (3, v3)), (q4, .inr (3, v4)), (q5, .inr (3, v5))] : va_W)[qk]? = some (b1, .inr (3, vs)) := by
          rcases (show i = 1 ∨ i = 2 ∨ i = 3 ∨ i = 4 ∨ i = 5 by omega) with rfl | rfl | rfl | rfl | rfl
          · exact ⟨q1, 16, v1, hR.1, rfl⟩
          · exact ⟨q2, 17, v2, hR.2.1, rfl⟩
          · exact ⟨q3, 18, v3, hR.2.2.1, rfl⟩
          · exact ⟨q4, 19, v4, hR.2.2.2.1, rfl⟩
          · exact ⟨q5, 20, v5, hR.2.2.2.2.1, rfl⟩
        refine z_aldq (b := b1) hx hb hK hP 1 rfl (by omega) (by omega) (by omega) ((hX (i - 1).toNat (by omega)).trans ((if_neg (by omega)).trans hb1)) dX1_giveBack_44 ?_
        refine zi_astq hx hb hK hP hD hS 1 qk rfl hv1 (by omega) (by omega) (by omega) dX1_giveBack_45 (fun H locs hP hD hS => ?_)
        have hP : va_P D vwCl [(h0, .inr (1, [.ref k0, .int (iI ct)])), (k0, .inl (cy 2, 6, .inr (.inr (.inr (.inr (va_up X i.toNat (some b1))))))), (sia, .inr (3, [.ref lia, .ref wia, .ref gia, .int (iI lra), .int (iI era), .int (iI pla), .int (iI lka), .int (iI cpa)])), (lia, .inr (2, [.ref mia, .int (iI nla)])), (mia, .inl (cy 0, 60, .inl Fla)), (wia, .inr (2, [.ref via, .int (iI nwa)])), (via, .inl (cy 0, 16, .inl Fwa)), (gia, .inr (2, [.ref eia, .int (iI nfa)])), (eia, .inl (cy 0, 60, .inl Ffa)), (sib, .inr (3, [.ref lib, .ref wib, .ref gib, .int (iI lrb), .int (iI erb), .int (iI plb), .int (iI lkb), .int (iI cpb)])), (lib, .inr (2, [.ref mib, .int (iI nlb)])), (mib, .inl (cy 0, 60, .inl Flb)), (wib, .inr (2, [.ref vib, .int (iI nwb)])), (vib, .inl (cy 0, 16, .inl Fwb)), (gib, .inr (2, [.ref eib, .int (iI nfb)])), (eib, .inl (cy 0, 60, .inl Ffb)), (q1, .inr (3, v1)), (q2, .inr (3, v2)), (q3, .inr (3, v3)), (q4, .inr (3, v4)), (q5, .inr (3, v5))] H := hP
        have hD : va_D A [(h0, .inr (1, [.ref k0, .int (iI ct)])), (k0, .inl (cy 2, 6, .inr (.inr (.inr (.inr (va_up X i.toNat (some b1))))))), (sia, .inr (3, [.ref lia, .ref wia, .ref gia, .int (iI lra), .int (iI era), .int (iI pla), .int (iI lka), .int (iI cpa)])), (lia, .inr (2, [.ref mia, .int (iI nla)])), (mia, .inl (cy 0, 60, .inl Fla)), (wia, .inr (2, [.ref via, .int (iI nwa)])), (via, .inl (cy 0, 16, .inl Fwa)), (gia, .inr (2, [.ref eia, .int (iI nfa)])), (eia, .inl (cy 0, 60, .inl Ffa)), (sib, .inr (3, [.ref lib, .ref wib, .ref gib, .int (iI lrb), .int (iI erb), .int (iI plb), .int (iI lkb), .int (iI cpb)])), (lib, .inr (2, [.ref mib, .int (iI nlb)])), (mib, .inl (cy 0, 60, .inl Flb)), (wib, .inr (2, [.ref vib, .int (iI nwb)])), (vib, .inl (cy 0, 16, .inl Fwb)), (gib, .inr (2, [.ref eib, .int (iI nfb)])), (eib, .inl (cy 0, 60, .inl Ffb)), (q1, .inr (3, v1)), (q2, .inr (3, v2)), (q3, .inr (3, v3)), (q4, .inr (3, v4)), (q5, .inr (3, v5))] := hD
        refine z_iinc (lv' := [(3, .int (iI (i + (-1)))), (2, .ref sib), (0, .ref h0), (1, .ref sia)]) hx hb dX1_giveBack_46 hl (k := 0) rfl (by decide) rfl (fun ls hl => ?_)
        refine lv_goto (tgt := 28) hx hb dX1_giveBack_49 (by decide) ?_
        exact ih2 (i + (-1)) (va_up X i.toNat (some b1)) (by omega) (shR_go (by omega) hX hb1) (by omega) _ _ _ hP hD hS (lv_sub hl [0, 1, 2, 3] rfl)
  exact hloop2 (Int.toNat ((((6 : Nat) : Int) - 1)) + 1) (((6 : Nat) : Int) - 1) R (by omega) (fun j hj => (if_neg (by omega)).symm) (by omega) _ _ _ hP hD hS (lv_sub hl [0, 1, 2, 3] rfl)
