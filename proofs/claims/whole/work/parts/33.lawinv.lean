/-! the law's world in blocks, its invariant, and rows of its loop -/
def wMo (m0 a0 p0 q0 v0 t0 : Nat) (ho th tl : Int) : va_W := [(m0, .inr (5, [.ref a0, .ref p0, .int (iI ho), .ref q0, .ref v0, .int (iI th), .ref t0, .int (iI tl)]))]
def wMa (cy : Nat → ClassId) (a n : Nat) (f : Nat → Int32) : va_W := [(a, .inl (cy 0, n, .inl f))]
def LBs (cy : Nat → ClassId) (ad : Nat → Nat) (o0 m0 a0 p0 q0 v0 t0 : Nat) (z : Nat → Int) (f : Nat → Nat → Int32) (zt : Nat → Int) (ft : Nat → Nat → Int32) (en : Int) (B Kf : Nat → Int) (nx ct : Int) (Zh : Nat → Nat → Int) (Fh : Nat → Nat → Nat → Int32) (Zs : Nat → Nat → Int) (Fs : Nat → Nat → Nat → Int32) (sv : Nat → Int32) (tn : Int) (tf : Nat → Int32) (O : Nat → Int64) (ho th tl : Int) (G Hh Sl Sv Tx : Nat → Int32) : List va_W :=
  [wTop ad, wSt cy ad 1 z f, wSt cy ad 8 zt ft, wEn cy ad en B Kf, wHb ad ct, wKb cy ad nx, wSt cy ad 20 (Zh 0) (Fh 0), wSt cy ad 27 (Zh 1) (Fh 1), wSt cy ad 34 (Zh 2) (Fh 2), wSt cy ad 41 (Zh 3) (Fh 3), wSt cy ad 48 (Zh 4) (Fh 4), wSt cy ad 55 (Zh 5) (Fh 5), wSa cy ad, wSt cy ad 63 (Zs 0) (Fs 0), wSt cy ad 70 (Zs 1) (Fs 1), wSv cy ad sv, wTx cy ad tn tf, wOt cy o0 O, wMo m0 a0 p0 q0 v0 t0 ho th tl, wMa cy a0 144 G, wMa cy p0 864 Hh, wMa cy q0 288 Sl, wMa cy v0 2 Sv, wMa cy t0 80 Tx]
/-- both sides hold one state -/
def LJ (z : Nat → Int) (f : Nat → Nat → Int32) (Kf : Nat → Int) (nx ct : Int) (Zh : Nat → Nat → Int) (Fh : Nat → Nat → Nat → Int32) (Zs : Nat → Nat → Int) (Fs : Nat → Nat → Nat → Int32) (sv : Nat → Int32) (tn : Int) (tf : Nat → Int32) (ho tl : Int) (G Hh Sl Sv Tx : Nat → Int32) : Prop :=
  ∃ (M : MS) (h : List MS) (sl : Nat → Option MS) (tx : List Int32), RS z f M ∧ RG G M ∧ MOk M ∧ RXH nx ct Zh Fh h ∧ RH Hh h ∧ ho = (h.length : Int) ∧ h.length ≤ 6 ∧ RXS sv Zs Fs sl ∧ RSl Sl Sv sl ∧ Rep tn tf tx ∧ Rep tl Tx tx ∧ tx.length ≤ 80 ∧ ∀ j : Nat, 0 ≤ Kf j ∧ Kf j ≤ 17
def LI (D : va_G) (cy : Nat → ClassId) (ad : Nat → Nat) (o0 m0 a0 p0 q0 v0 t0 : Nat) (A : Nat → Prop) (H : Heap) : Prop :=
  ∃ (z : Nat → Int) (f : Nat → Nat → Int32) (zt : Nat → Int) (ft : Nat → Nat → Int32) (en : Int) (B Kf : Nat → Int) (nx ct : Int) (Zh : Nat → Nat → Int) (Fh : Nat → Nat → Nat → Int32) (Zs : Nat → Nat → Int) (Fs : Nat → Nat → Nat → Int32) (sv : Nat → Int32) (tn : Int) (tf : Nat → Int32) (O : Nat → Int64) (ho th tl : Int) (G Hh Sl Sv Tx : Nat → Int32),
    LJ z f Kf nx ct Zh Fh Zs Fs sv tn tf ho tl G Hh Sl Sv Tx ∧ va_P D vwCl (LBs cy ad o0 m0 a0 p0 q0 v0 t0 z f zt ft en B Kf nx ct Zh Fh Zs Fs sv tn tf O ho th tl G Hh Sl Sv Tx).flatten H ∧ va_D A (LBs cy ad o0 m0 a0 p0 q0 v0 t0 z f zt ft en B Kf nx ct Zh Fh Zs Fs sv tn tf O ho th tl G Hh Sl Sv Tx).flatten
/-- what holds all through the law -/
def LC (p : Program) (l : Launch) (s : State) (m : MethodId) (c : Code) (b L : Nat) (xs : Nat → Int32) (D : va_G) (cy : Nat → ClassId) : Prop :=
  p.tables.exec = Jvm.exec ∧ c.code = code ∧ c.maxLocals = 7 ∧ s.vm.findClass RL = some m.cls ∧ (∀ w ∈ wsL_law, w.before #[Value.ref b] s = true) ∧ va_X b L xs s s.heap ∧ b < s.heap.size ∧ va_K D vwCl (tysA cy) s ∧ TB s ∧ TC s ∧ SZ (fun q : Nat => s.heap.size ≤ q) s s.heap ∧ l.stackTraces = false ∧ L ≤ 1536
def lvL (i b d0 m0 o0 : Nat) : List (Nat × Value) := [(4, .int (iI (i : Int))), (0, .ref b), (1, .ref d0), (2, .ref m0), (3, .ref o0)]
def bt (z : Int) : Int := if z = 0 then 0 else 1
theorem bt_ok (z : Int) : 0 ≤ bt z ∧ bt z ≤ 1 := by unfold bt; split <;> omega
theorem push_le {h : List MS} {M : MS} (h6 : h.length ≤ 6) : (pushH h M).length ≤ 6 := by
  have := push_len (M := M) h6
  omega
theorem MOk.rules {M : MS} (h : MOk M) {x y : Int} (hx : 0 ≤ x ∧ x ≤ 1 ∧ 0 ≤ y ∧ y ≤ 1) : MOk (mRules M x y) := by
  obtain ⟨line, word, found, lr, er, pl, lk, cp⟩ := M
  obtain ⟨h1, h2, _, _, _, _, _, _, _, _, h11, h12, h13, h14, _⟩ := h
  exact ⟨h1, h2, Int.le_refl _, Nat.zero_le _, Int.le_refl _, by show (0 : Int) ≤ 100; omega, Int.le_refl _, Int.le_refl _, Int.le_refl _, by show (0 : Int) ≤ 16 * 0; omega, hx.1, hx.2.1, hx.2.2.1, hx.2.2.2, fun _ => ⟨rfl, rfl⟩⟩
theorem MOk.set {M : MS} (h : MOk M) {k : Nat} {v : Int32} : MOk (mSet M k v) := by
  obtain ⟨line, word, found, lr, er, pl, lk, cp⟩ := M
  obtain ⟨h1, h2, _, _, _, _, _, _, _, _, h11, h12, h13, h14, _⟩ := h
  exact ⟨(by show (line.set k v).length ≤ 60; rw [List.length_set]; exact h1), h2, Int.le_refl _, Nat.zero_le _, Int.le_refl _, by show (0 : Int) ≤ 100; omega, Int.le_refl _, Int.le_refl _, Int.le_refl _, by show (0 : Int) ≤ 16 * 0; omega, h11, h12, h13, h14, fun _ => ⟨rfl, rfl⟩⟩
theorem MOk.takeL {M : MS} (h : MOk M) {tx : List Int32} (ht : (tx.length : Int) ≤ 60) : MOk (mTakeL M tx) := by
  obtain ⟨line, word, found, lr, er, pl, lk, cp⟩ := M
  obtain ⟨h1, h2, _, _, _, _, _, _, _, _, h11, h12, h13, h14, _⟩ := h
  exact ⟨(by show (tx.map (fun x => x - iI 97)).length ≤ 60; rw [List.length_map]; omega), h2, Int.le_refl _, Nat.zero_le _, Int.le_refl _, by show (0 : Int) ≤ 100; omega, Int.le_refl _, Int.le_refl _, Int.le_refl _, by show (0 : Int) ≤ 16 * 0; omega, h11, h12, h13, h14, fun _ => ⟨rfl, rfl⟩⟩
theorem MOk.takeW {M : MS} (h : MOk M) {tx : List Int32} (ht : (tx.length : Int) ≤ 16) : MOk (mTakeW M tx) := by
  obtain ⟨line, word, found, lr, er, pl, lk, cp⟩ := M
  obtain ⟨h1, h2, _, _, _, _, _, _, _, _, h11, h12, h13, h14, _⟩ := h
  exact ⟨h1, (by show (tx.map (fun x => x - iI 97)).length ≤ 16; rw [List.length_map]; omega), Int.le_refl _, Nat.zero_le _, Int.le_refl _, by show (0 : Int) ≤ 100; omega, Int.le_refl _, Int.le_refl _, Int.le_refl _, by show (0 : Int) ≤ 16 * 0; omega, h11, h12, h13, h14, fun _ => ⟨rfl, rfl⟩⟩
theorem MOk.run {M : MS} (h : MOk M) : MOk (mOf M (mRun M).1) := mRun_ok h 60 (mT M) h
theorem Rep_no {f : Nat → Int32} : Rep 0 f [] := ⟨rfl, fun j hj => absurd hj (Nat.not_lt_zero j)⟩
theorem RH_pop {Hh : Nat → Int32} {h : List MS} (H : RH Hh h) : RH Hh (h.take (h.length - 1)) := by
  intro i M hi
  rw [List.getElem?_take] at hi
  split at hi
  · exact H i M hi
  · cases hi
section LW
variable {p : Program} {l : Launch} {e : Env} {s : State} {m : MethodId} {below : List Frame} {meth : Method} {c : Code} {H : Heap} {locs : List Loc} {cells slots : Nat} {Q : State → Prop}
variable {pc : Nat} {ls : Array Slot} {rest : List Value} {D : va_G} {cy : Nat → ClassId} {b L : Nat} {xs : Nat → Int32} {i : Nat}
/-- an argument out of the script -/
theorem z_arg {j : Int} (C : LC p l s m c b L xs D cy) (hS : va_S (fun q : Nat => s.heap.size ≤ q) s.heap H locs) (h0 : ls[0]? = some (.val (.ref b))) (h4 : ls[4]? = some (.val (.int (iI (i : Int))))) (hj : 0 ≤ j) (hi : (i : Int) + j < L) {x : Int} (ex : (xs ((i : Int) + j).toNat).toInt = x)
    (g0 : decode code pc = .ok (.aload_n 0, 1)) (g1 : decode code (pc + 1) = .ok (.iload 4, 2)) (g2 : decode code (pc + 1 + 2) = .ok (.iconst j, 1)) (g3 : decode code (pc + 1 + 2 + 1) = .ok (.iadd, 1)) (g4 : decode code (pc + 1 + 2 + 1 + 1) = .ok (.iaload, 1))
    (kk : W p l e room_1 s m #[.ref b] below meth c H locs cells slots Q (F0 m (pc + 1 + 2 + 1 + 1 + 1) ls (.int (iI x) :: rest))) : W p l e room_1 s m #[.ref b] below meth c H locs cells slots Q (F0 m pc ls rest) := by
  obtain ⟨hx, hb, hml, hown, hts, hX, hbl, hK, hT, hC, hZ, hfl, hL⟩ := C
  refine lv_aload_n hx hb g0 rfl h0 ?_
  refine lv_iload hx hb g1 h4 ?_
  refine lv_iconst (v := iI j) hx hb g2 rfl ?_
  refine z_add hx hb g3 ?_
  refine va_sld hx hb hX hbl (Nat.not_le.mpr hbl) hS (iI_in (by omega) hi (by omega)) g4 ?_
  rw [iI_cl (by omega) (by omega)]
  refine z_top (show xs ((i : Int) + j).toNat = iI x from by rw [← ex, iI_of]) ?_
  exact kk
/-- whether an int is not 0 -/
theorem z_bit (C : LC p l s m c b L xs D cy) {z x : Int} (h1 : -2147483648 ≤ z) (h2 : z < 2147483648) (ex : bt z = x)
    (g0 : decode code pc = .ok (.ifCond .eq 7, 3)) (g1 : decode code (pc + 3) = .ok (.iconst 1, 1)) (g2 : decode code (pc + 3 + 1) = .ok (.goto 4, 3)) (g3 : decode code (pc + 7) = .ok (.iconst 0, 1))
    (kk : W p l e room_1 s m #[.ref b] below meth c H locs cells slots Q (F0 m (pc + 8) ls (.int (iI x) :: rest))) : W p l e room_1 s m #[.ref b] below meth c H locs cells slots Q (F0 m pc ls (.int (iI z) :: rest)) := by
  obtain ⟨hx, hb, hml, hown, hts, hX, hbl, hK, hT, hC, hZ, hfl, hL⟩ := C
  refine z_if_eq (tgt := pc + 7) hx hb (iI_t h1 h2) g0 (by omega) (fun q => ?_) (fun q => ?_)
  · refine lv_iconst (v := iI 0) hx hb g3 rfl ?_
    rw [show x = 0 from by rw [← ex, bt, if_pos q]] at kk
    exact kk
  · refine lv_iconst (v := iI 1) hx hb g1 rfl ?_
    refine lv_goto (tgt := pc + 8) hx hb g2 (by omega) ?_
    rw [show x = 1 from by rw [← ex, bt, if_neg q]] at kk
    exact kk
def catL (x y : Int) : Int64 := (iI x).toInt64 <<< ((iI 32).toInt64 &&& 63) ||| (iI y).toInt64 &&& 4294967295
/-- two ints of the script as one long -/
theorem z_cat (C : LC p l s m c b L xs D cy) (hS : va_S (fun q : Nat => s.heap.size ≤ q) s.heap H locs) (h0 : ls[0]? = some (.val (.ref b))) (h4 : ls[4]? = some (.val (.int (iI (i : Int))))) (hi : (i : Int) + 2 < L) {x y : Int} (ex : (xs ((i : Int) + 1).toNat).toInt = x) (ey : (xs ((i : Int) + 2).toNat).toInt = y)
    (g0 : decode code pc = .ok (.aload_n 0, 1)) (g1 : decode code (pc + 1) = .ok (.iload 4, 2)) (g2 : decode code (pc + 1 + 2) = .ok (.iconst 1, 1)) (g3 : decode code (pc + 1 + 2 + 1) = .ok (.iadd, 1)) (g4 : decode code (pc + 1 + 2 + 1 + 1) = .ok (.iaload, 1))
    (g5 : decode code (pc + 6) = .ok (.i2l, 1)) (g6 : decode code (pc + 7) = .ok (.bipush 32, 2)) (g7 : decode code (pc + 9) = .ok (.lshl, 1))
    (k0 : decode code (pc + 10) = .ok (.aload_n 0, 1)) (k1 : decode code (pc + 10 + 1) = .ok (.iload 4, 2)) (k2 : decode code (pc + 10 + 1 + 2) = .ok (.iconst 2, 1)) (k3 : decode code (pc + 10 + 1 + 2 + 1) = .ok (.iadd, 1)) (k4 : decode code (pc + 10 + 1 + 2 + 1 + 1) = .ok (.iaload, 1))
    (k5 : decode code (pc + 16) = .ok (.i2l, 1)) (k6 : decode code (pc + 17) = .ok (.ldc2_w 181, 3)) (k7 : decode code (pc + 20) = .ok (.land, 1)) (k8 : decode code (pc + 21) = .ok (.lor, 1))
    (kk : W p l e room_1 s m #[.ref b] below meth c H locs cells slots Q (F0 m (pc + 22) ls (.long (catL x y) :: rest))) : W p l e room_1 s m #[.ref b] below meth c H locs cells slots Q (F0 m pc ls rest) := by
  obtain ⟨hx, hb, hml, hown, hts, hX, hbl, hK, hT, hC, hZ, hfl, hL⟩ := id C
  refine z_arg C hS h0 h4 (by omega) (by omega) ex g0 g1 g2 g3 g4 ?_
  refine lv_i2l (v := (iI x).toInt64) hx hb g5 rfl ?_
  refine lv_bipush (v := iI 32) hx hb g6 (by decide +kernel) ?_
  refine lv_lshl (v := (iI x).toInt64 <<< ((iI 32).toInt64 &&& 63)) hx hb g7 rfl ?_
  refine z_arg C hS h0 h4 (by omega) (by omega) ey k0 k1 k2 k3 k4 ?_
  refine lv_i2l (v := (iI y).toInt64) hx hb k5 rfl ?_
  refine lv_ldc2 (own := RL) (index := 181) (v := 4294967295) hx hb hown (hts (.constantLong RL 181 (4294967295)) (List.mem_of_getElem? (i := 7) rfl)) k6 ?_
  refine lv_land hx hb k7 ?_
  refine lv_lor hx hb k8 ?_
  exact kk
variable {ad : Nat → Nat} {o0 m0 a0 p0 q0 v0 t0 : Nat}
def DT (T : Nat) (off : Int) : Prop := decode code T = .ok (.aload_n 2, 1) ∧ decode code (T + 1) = .ok (.invokevirtual 77, 3) ∧ decode code (T + 1 + 3) = .ok (.iload 5, 2) ∧ decode code (T + 1 + 3 + 2) = .ok (.if_icmp .eq 5, 3) ∧ decode code (T + 11) = .ok (.iload 5, 2) ∧ decode code (T + 11 + 2) = .ok (.ifCond .ne 15, 3) ∧ decode code (T + 11 + 2 + 3) = .ok (.aload_n 3, 1) ∧ decode code (T + 11 + 2 + 3 + 1) = .ok (.iconst 0, 1) ∧ decode code (T + 11 + 2 + 3 + 1 + 1) = .ok (.laload, 1) ∧ decode code (T + 11 + 2 + 3 + 1 + 1 + 1) = .ok (.iload 6, 2) ∧ decode code (T + 11 + 2 + 3 + 1 + 1 + 1 + 2) = .ok (.i2l, 1) ∧ decode code (T + 11 + 2 + 3 + 1 + 1 + 1 + 2 + 1) = .ok (.lcmp, 1) ∧ decode code (T + 11 + 2 + 3 + 1 + 1 + 1 + 2 + 1 + 1) = .ok (.ifCond .eq 5, 3) ∧ decode code (T + 28) = .ok (.goto off, 3)
set_option maxHeartbeats 4000000 in
set_option maxRecDepth 100000 in
/-- the comparisons behind a call that may throw -/
theorem z_tail (C : LC p l s m c b L xs D cy) {T : Nat} {off : Int} (g : DT T off) (ht : ((T + 28 : Nat) : Int) + off = ((1472 : Nat) : Int))
    {z : Nat → Int} {f : Nat → Nat → Int32} {zt : Nat → Int} {ft : Nat → Nat → Int32} {en : Int} {B Kf : Nat → Int} {nx ct : Int} {Zh : Nat → Nat → Int} {Fh : Nat → Nat → Nat → Int32} {Zs : Nat → Nat → Int} {Fs : Nat → Nat → Nat → Int32} {sv : Nat → Int32} {tn : Int} {tf : Nat → Int32} {O : Nat → Int64} {ho th tl : Int} {G Hh Sl Sv Tx : Nat → Int32}
    (hP : va_P D vwCl (LBs cy ad o0 m0 a0 p0 q0 v0 t0 z f zt ft en B Kf nx ct Zh Fh Zs Fs sv tn tf O ho th tl G Hh Sl Sv Tx).flatten H) (hD : va_D (fun q : Nat => s.heap.size ≤ q) (LBs cy ad o0 m0 a0 p0 q0 v0 t0 z f zt ft en B Kf nx ct Zh Fh Zs Fs sv tn tf O ho th tl G Hh Sl Sv Tx).flatten)
    (hS : va_S (fun q : Nat => s.heap.size ≤ q) s.heap H locs) (hro : cells ≤ 601024 ∧ slots ≤ 7293034) {r5 r6 : Int32} (hl : lv_has ls 7 [(6, .int r6), (5, .int r5), (4, .int (iI (i : Int))), (0, .ref b), (1, .ref (ad 0)), (2, .ref m0), (3, .ref o0)])
    (h5 : r5 = iI th) (h6 : r5 = iI 0 → O 0 = lI r6.toInt) (hJ : LJ z f Kf nx ct Zh Fh Zs Fs sv tn tf ho tl G Hh Sl Sv Tx)
    (kk : ∀ (H1 : Heap) (locs1 : List Loc) (ls1 : Array Slot), LI D cy ad o0 m0 a0 p0 q0 v0 t0 (fun q : Nat => s.heap.size ≤ q) H1 → va_S (fun q : Nat => s.heap.size ≤ q) s.heap H1 locs1 → lv_has ls1 7 (lvL i b (ad 0) m0 o0) → W p l e room_1 s m #[.ref b] below meth c H1 locs1 cells slots Q (F0 m 1472 ls1 [])) : W p l e room_1 s m #[.ref b] below meth c H locs cells slots Q (F0 m T ls []) := by
  obtain ⟨hx, hb, hml, hown, hts, hX, hbl, hK, hT, hC, hZ, hfl, hL⟩ := id C
  obtain ⟨g0, g1, g2, g3, g4, g5, g6, g7, g8, g9, g10, g11, g12, g13⟩ := g
  have hA : ∀ q : Nat, s.heap.size ≤ q → (fun q : Nat => s.heap.size ≤ q) q := fun _ h => h
  refine lv_aload_n hx hb g0 rfl (lv_at hl 5 rfl) ?_
  refine z_gVi (n := 0) (b := m0) (As := []) (rest := []) ⟨hx, hb, hml, hown, hts⟩ (c_X5_thrown l D cy m0 a0 p0 q0 v0 t0 ho th tl) gL_law_X5_thrown rfl (by decide +kernel) ⟨Nat.le_of_ble_eq_true rfl, Nat.le_of_ble_eq_true rfl⟩ hK hT hP hS (Fp.same hP hD hS hA [81] rfl rfl (fun _ => rfl)) 81 5 rfl rfl rfl rfl hl.1 rfl (Nat.le_of_ble_eq_true rfl) g1 hro (fun r_1 u_1 H locs hw_1 hP hD hS => ?_)
  have hw : r_1 = iI th := hw_1
  have hend : W p l e room_1 s m #[.ref b] below meth c H locs cells slots Q (F0 m (T + 28) ls []) := lv_goto (tgt := 1472) hx hb g13 ht (kk _ _ _ ⟨z, f, zt, ft, en, B, Kf, nx, ct, Zh, Fh, Zs, Fs, sv, tn, tf, O, ho, th, tl, G, Hh, Sl, Sv, Tx, hJ, hP, hD⟩ hS (lv_sub hl [2, 3, 4, 5, 6] rfl))
  refine lv_iload hx hb g2 (lv_at hl 1 rfl) ?_
  refine lv_icmp_eq (tgt := T + 11) hx hb g3 (by omega) (fun _ => ?_) (fun q => absurd (hw.trans h5.symm) q)
  refine lv_iload hx hb g4 (lv_at hl 1 rfl) ?_
  refine z_if_ne (tgt := T + 28) hx hb (rfl : r5.toInt = r5.toInt) g5 (by omega) (fun _ => hend) (fun q => ?_)
  have e5 : r5 = iI 0 := by rw [← iI_of r5, q]
  refine lv_aload_n hx hb g6 rfl (lv_at hl 6 rfl) ?_
  refine lv_iconst (v := iI 0) hx hb g7 rfl ?_
  refine va_lald hx hb hK hP 80 3 rfl rfl (iI_in (by omega) (by decide) (by omega)) g8 ?_
  refine z_topl (show O (iI 0).toNatClampNeg = lI r6.toInt from by rw [iI_cl (by omega) (by omega)]; exact h6 e5) ?_
  refine lv_iload hx hb g9 (lv_at hl 0 rfl) ?_
  refine z_i2l hx hb (r_l r6) g10 ?_
  exact z_lcmp_eq (tgt := T + 28) hx hb (rfl : (lI r6.toInt).toInt = (lI r6.toInt).toInt) rfl g11 g12 (by omega) (fun _ => hend) (fun q => absurd rfl q)
end LW
