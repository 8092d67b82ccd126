/-! cases of the law: foundPlace, skippedPlaces, lastPlaceOf, letterSkip, endSkip, endSkipByTrying -/
set_option maxHeartbeats 4000000 in
set_option maxRecDepth 100000 in
theorem k_foundPlace {p : Program} {l : Launch} {e : Env} {s : State} {m : MethodId} {below : List Frame} {meth : Method} {c : Code} {H : Heap} {locs : List Loc} {cells slots : Nat} {Q : State → Prop} {ls : Array Slot} {D : va_G} {cy : Nat → ClassId} {b L : Nat} {xs : Nat → Int32} {i : Nat} {ad : Nat → Nat} {o0 m0 a0 p0 q0 v0 t0 : Nat} (C : LC p l s m c b L xs D cy) (hi : (i : Int) + 2 < L) (hI : LI D cy ad o0 m0 a0 p0 q0 v0 t0 (fun q : Nat => s.heap.size ≤ q) H) (hS : va_S (fun q : Nat => s.heap.size ≤ q) s.heap H locs) (hro : cells + 2 ≤ 601024 ∧ slots + 12 ≤ 7293034) (hl : lv_has ls 7 (lvL i b (ad 0) m0 o0)) (kk : ∀ (H1 : Heap) (locs1 : List Loc) (ls1 : Array Slot), LI D cy ad o0 m0 a0 p0 q0 v0 t0 (fun q : Nat => s.heap.size ≤ q) H1 → va_S (fun q : Nat => s.heap.size ≤ q) s.heap H1 locs1 → lv_has ls1 7 (lvL i b (ad 0) m0 o0) → W p l e room_1 s m #[.ref b] below meth c H1 locs1 (cells + 2) (slots + 12) Q (F0 m 1472 ls1 [])) : W p l e room_1 s m #[.ref b] below meth c H locs cells slots Q (F0 m 694 ls []) := by
  obtain ⟨z, f, zt, ft, en, B, Kf, nx, ct, Zh, Fh, Zs, Fs, sv, tn, tf, O, ho, th, tl, G, Hh, Sl, Sv, Tx, ⟨M, h, sl, tx, hR, hG, hM, hH, hHh, hho, hh6, hXS, hSl, hXt, hMt, ht80, hk⟩, hP, hD⟩ := hI
  obtain ⟨hx, hb, hml, hown, hts, hX, hbl, hK, hT, hC, hZ, hfl, hL⟩ := id C
  have hA : ∀ q : Nat, s.heap.size ≤ q → (fun q : Nat => s.heap.size ≤ q) q := fun _ h => h
  have hl : lv_has ls 7 [(4, .int (iI (i : Int))), (0, .ref b), (1, .ref (ad 0)), (2, .ref m0), (3, .ref o0)] := hl
  obtain ⟨x, ex⟩ : ∃ x : Int, (xs ((i : Int) + 1).toNat).toInt = x := ⟨_, rfl⟩
  have hx1 : -2147483648 ≤ x ∧ x < 2147483648 := by rw [← ex]; exact ⟨iI_lo _, iI_hi _⟩
  refine lv_aload_n hx hb dL_law_694 rfl (lv_at hl 2 rfl) ?_
  refine z_arg C hS (lv_at hl 1 rfl) (lv_at hl 0 rfl) (by omega) (by omega) ex dL_law_695 dL_law_696 dL_law_698 dL_law_699 dL_law_700 ?_
  refine lv_aload_n hx hb dL_law_701 rfl (lv_at hl 4 rfl) ?_
  refine z_hSi (n := 3) (As := [.ref (ad 0), .int (iI x), .ref o0]) (rest := []) ⟨hx, hb, hml, hown, hts⟩ (c_L_foundPlace l hfl D cy ad z f M x o0 O hR hM hx1) gL_law_L_foundPlace rfl (by decide +kernel) ⟨Nat.le_of_ble_eq_true rfl, Nat.le_of_ble_eq_true rfl⟩ hK hT hC hZ hS (Fp.blocks hP hD hS hA (cs := [wTop ad, wSt cy ad 1 z f, wOt cy o0 O]) (nb := fun (u : (Nat → Int64)) => [wTop ad, wSt cy ad 1 z f, wOt cy o0 u]) (nbs := fun (u : (Nat → Int64)) => LBs cy ad o0 m0 a0 p0 q0 v0 t0 z f zt ft en B Kf nx ct Zh Fh Zs Fs sv tn tf u ho th tl G Hh Sl Sv Tx) [0, 1, 17] rfl rfl rfl (fun _ => rfl) (fun _ => rfl) (fun _ => rfl)) rfl hl.1 rfl (Nat.le_of_ble_eq_true rfl) dL_law_702 ⟨Nat.le_trans (by omega) hro.1, Nat.le_trans (by omega) hro.2⟩ (fun r_1 u_1 H locs hw_1 hP hD hS => ?_)
  obtain ⟨O_1, rfl⟩ : ∃ w, w = u_1 := ⟨_, rfl⟩
  have hw_1 : (r_1 = iI 0 ∧ ∃ v : Int32, ((0 ≤ x ∧ x < (M.2.2.1.length : Int)) ∧ v = gl M.2.2.1 x.toNat) ∧ O_1 0 = lI v.toInt) ∨ (r_1 = iI 1 ∧ (¬ (0 ≤ x ∧ x < (M.2.2.1.length : Int)))) := hw_1
  have hP : va_P D vwCl (LBs cy ad o0 m0 a0 p0 q0 v0 t0 z f zt ft en B Kf nx ct Zh Fh Zs Fs sv tn tf O_1 ho th tl G Hh Sl Sv Tx).flatten H := hP
  have hD : va_D (fun q : Nat => s.heap.size ≤ q) (LBs cy ad o0 m0 a0 p0 q0 v0 t0 z f zt ft en B Kf nx ct Zh Fh Zs Fs sv tn tf O_1 ho th tl G Hh Sl Sv Tx).flatten := hD
  refine lv_istore (lv' := [(5, .int r_1), (4, .int (iI (i : Int))), (0, .ref b), (1, .ref (ad 0)), (2, .ref m0), (3, .ref o0)]) hx hb dL_law_705 hl (by decide) rfl (fun ls hl => ?_)
  refine lv_aload_n hx hb dL_law_707 rfl (lv_at hl 4 rfl) ?_
  refine z_arg C hS (lv_at hl 2 rfl) (lv_at hl 1 rfl) (by omega) (by omega) ex dL_law_708 dL_law_709 dL_law_711 dL_law_712 dL_law_713 ?_
  refine z_gVi (n := 1) (b := m0) (As := [.int (iI x)]) (rest := []) ⟨hx, hb, hml, hown, hts⟩ (c_X5_foundPlace l D cy m0 a0 p0 q0 v0 t0 ho th tl G M x hG hM hx1) gL_law_X5_foundPlace rfl (by decide +kernel) ⟨Nat.le_of_ble_eq_true rfl, Nat.le_of_ble_eq_true rfl⟩ hK hT hP hS (Fp.blocks hP hD hS hA (cs := [wMo m0 a0 p0 q0 v0 t0 ho th tl, wMa cy a0 144 G]) (nb := fun (u : Int) => [wMo m0 a0 p0 q0 v0 t0 ho u tl, wMa cy a0 144 G]) (nbs := fun (u : Int) => LBs cy ad o0 m0 a0 p0 q0 v0 t0 z f zt ft en B Kf nx ct Zh Fh Zs Fs sv tn tf O_1 ho u tl G Hh Sl Sv Tx) [18, 19] rfl rfl rfl (fun _ => rfl) (fun _ => rfl) (fun _ => rfl)) 81 5 rfl rfl rfl rfl hl.1 rfl (Nat.le_of_ble_eq_true rfl) dL_law_714 ⟨Nat.le_trans (by omega) hro.1, Nat.le_trans (by omega) hro.2⟩ (fun r_2 u_2 H locs hw_2 hP hD hS => ?_)
  obtain ⟨th_2, rfl⟩ : ∃ w, w = u_2 := ⟨_, rfl⟩
  have hw_2 : ((0 ≤ x ∧ x < (M.2.2.1.length : Int)) ∧ r_2 = gl M.2.2.1 x.toNat ∧ th_2 = 0) ∨ (¬ (0 ≤ x ∧ x < (M.2.2.1.length : Int)) ∧ r_2 = iI 0 ∧ th_2 = 1) := hw_2
  have hP : va_P D vwCl (LBs cy ad o0 m0 a0 p0 q0 v0 t0 z f zt ft en B Kf nx ct Zh Fh Zs Fs sv tn tf O_1 ho th_2 tl G Hh Sl Sv Tx).flatten H := hP
  have hD : va_D (fun q : Nat => s.heap.size ≤ q) (LBs cy ad o0 m0 a0 p0 q0 v0 t0 z f zt ft en B Kf nx ct Zh Fh Zs Fs sv tn tf O_1 ho th_2 tl G Hh Sl Sv Tx).flatten := hD
  have hj : r_1 = iI th_2 ∧ (r_1 = iI 0 → O_1 0 = lI r_2.toInt) ∧ LJ z f Kf nx ct Zh Fh Zs Fs sv tn tf ho tl G Hh Sl Sv Tx := by
    rcases hw_1 with ⟨e1, v, ⟨c1, ev⟩, eo⟩ | ⟨e1, c1⟩
    · --
      rcases hw_2 with ⟨c2, e2, et⟩ | ⟨c2, e2, et⟩
      · --
        exact ⟨by rw [e1, et], fun _ => by rw [eo, ev, e2], ⟨M, h, sl, tx, hR, hG, hM, hH, hHh, hho, hh6, hXS, hSl, hXt, hMt, ht80, hk⟩⟩
      · --
        first | exact absurd c1 c2 | exact absurd c2 c1 | (exfalso; omega)
    · --
      rcases hw_2 with ⟨c2, e2, et⟩ | ⟨c2, e2, et⟩
      · --
        first | exact absurd c1 c2 | exact absurd c2 c1 | (exfalso; omega)
      · --
        exact ⟨by rw [e1, et], fun q => absurd (e1.symm.trans q) (by decide), ⟨M, h, sl, tx, hR, hG, hM, hH, hHh, hho, hh6, hXS, hSl, hXt, hMt, ht80, hk⟩⟩
  refine lv_istore (lv' := [(6, .int r_2), (5, .int r_1), (4, .int (iI (i : Int))), (0, .ref b), (1, .ref (ad 0)), (2, .ref m0), (3, .ref o0)]) hx hb dL_law_717 hl (by decide) rfl (fun ls hl => ?_)
  exact z_tail C (T := 719) ⟨dL_law_719, dL_law_720, dL_law_723, dL_law_725, dL_law_730, dL_law_732, dL_law_735, dL_law_736, dL_law_737, dL_law_738, dL_law_740, dL_law_741, dL_law_742, dL_law_747⟩ (by decide) hP hD hS ⟨Nat.le_trans (by omega) hro.1, Nat.le_trans (by omega) hro.2⟩ hl hj.1 hj.2.1 hj.2.2 (fun H1 locs1 ls1 a1 a2 a3 => W.widen (k := cells + 2) (n := slots + 12) (by omega) (by omega) (kk H1 locs1 ls1 a1 a2 a3))
set_option maxHeartbeats 4000000 in
set_option maxRecDepth 100000 in
theorem k_skippedPlaces {p : Program} {l : Launch} {e : Env} {s : State} {m : MethodId} {below : List Frame} {meth : Method} {c : Code} {H : Heap} {locs : List Loc} {cells slots : Nat} {Q : State → Prop} {ls : Array Slot} {D : va_G} {cy : Nat → ClassId} {b L : Nat} {xs : Nat → Int32} {i : Nat} {ad : Nat → Nat} {o0 m0 a0 p0 q0 v0 t0 : Nat} (C : LC p l s m c b L xs D cy) (hi : (i : Int) + 2 < L) (hI : LI D cy ad o0 m0 a0 p0 q0 v0 t0 (fun q : Nat => s.heap.size ≤ q) H) (hS : va_S (fun q : Nat => s.heap.size ≤ q) s.heap H locs) (hro : cells + 2 ≤ 601024 ∧ slots + 12 ≤ 7293034) (hl : lv_has ls 7 (lvL i b (ad 0) m0 o0)) (kk : ∀ (H1 : Heap) (locs1 : List Loc) (ls1 : Array Slot), LI D cy ad o0 m0 a0 p0 q0 v0 t0 (fun q : Nat => s.heap.size ≤ q) H1 → va_S (fun q : Nat => s.heap.size ≤ q) s.heap H1 locs1 → lv_has ls1 7 (lvL i b (ad 0) m0 o0) → W p l e room_1 s m #[.ref b] below meth c H1 locs1 (cells + 2) (slots + 12) Q (F0 m 1472 ls1 [])) : W p l e room_1 s m #[.ref b] below meth c H locs cells slots Q (F0 m 750 ls []) := by
  obtain ⟨z, f, zt, ft, en, B, Kf, nx, ct, Zh, Fh, Zs, Fs, sv, tn, tf, O, ho, th, tl, G, Hh, Sl, Sv, Tx, ⟨M, h, sl, tx, hR, hG, hM, hH, hHh, hho, hh6, hXS, hSl, hXt, hMt, ht80, hk⟩, hP, hD⟩ := hI
  obtain ⟨hx, hb, hml, hown, hts, hX, hbl, hK, hT, hC, hZ, hfl, hL⟩ := id C
  have hA : ∀ q : Nat, s.heap.size ≤ q → (fun q : Nat => s.heap.size ≤ q) q := fun _ h => h
  have hl : lv_has ls 7 [(4, .int (iI (i : Int))), (0, .ref b), (1, .ref (ad 0)), (2, .ref m0), (3, .ref o0)] := hl
  refine lv_aload_n hx hb dL_law_750 rfl (lv_at hl 2 rfl) ?_
  refine z_gVi (n := 0) (b := ad 0) (As := []) (rest := []) ⟨hx, hb, hml, hown, hts⟩ (c_X4_skippedPlaces l D cy ad z f M hR hM) gL_law_X4_skippedPlaces rfl (by decide +kernel) ⟨Nat.le_of_ble_eq_true rfl, Nat.le_of_ble_eq_true rfl⟩ hK hT hP hS (Fp.same hP hD hS hA [0, 1, 2, 3, 4, 5, 6, 7] rfl rfl (fun _ => rfl)) 0 4 rfl rfl rfl rfl hl.1 rfl (Nat.le_of_ble_eq_true rfl) dL_law_751 ⟨Nat.le_trans (by omega) hro.1, Nat.le_trans (by omega) hro.2⟩ (fun r_1 u_1 H locs hw_1 hP hD hS => ?_)
  have hw_1 : r_1 = iI (min M.2.2.2.2.2.1 (max ((M.1.length : Int) - (M.2.1.length : Int) + 1) 0) - M.2.2.2.2.2.2.1) := hw_1
  have hP : va_P D vwCl (LBs cy ad o0 m0 a0 p0 q0 v0 t0 z f zt ft en B Kf nx ct Zh Fh Zs Fs sv tn tf O ho th tl G Hh Sl Sv Tx).flatten H := hP
  have hD : va_D (fun q : Nat => s.heap.size ≤ q) (LBs cy ad o0 m0 a0 p0 q0 v0 t0 z f zt ft en B Kf nx ct Zh Fh Zs Fs sv tn tf O ho th tl G Hh Sl Sv Tx).flatten := hD
  refine lv_aload_n hx hb dL_law_754 rfl (lv_at hl 3 rfl) ?_
  refine z_gVi (n := 0) (b := m0) (As := []) (rest := [.int r_1]) ⟨hx, hb, hml, hown, hts⟩ (c_X5_skippedPlaces l D cy m0 a0 p0 q0 v0 t0 ho th tl G M hG hM) gL_law_X5_skippedPlaces rfl (by decide +kernel) ⟨Nat.le_of_ble_eq_true rfl, Nat.le_of_ble_eq_true rfl⟩ hK hT hP hS (Fp.blocks hP hD hS hA (cs := [wMo m0 a0 p0 q0 v0 t0 ho th tl, wMa cy a0 144 G]) (nb := fun (u : Unit) => [wMo m0 a0 p0 q0 v0 t0 ho (0 : Int) tl, wMa cy a0 144 G]) (nbs := fun (u : Unit) => LBs cy ad o0 m0 a0 p0 q0 v0 t0 z f zt ft en B Kf nx ct Zh Fh Zs Fs sv tn tf O ho (0 : Int) tl G Hh Sl Sv Tx) [18, 19] rfl rfl rfl (fun _ => rfl) (fun _ => rfl) (fun _ => rfl)) 81 5 rfl rfl rfl rfl hl.1 rfl (Nat.le_of_ble_eq_true rfl) dL_law_755 ⟨Nat.le_trans (by omega) hro.1, Nat.le_trans (by omega) hro.2⟩ (fun r_2 u_2 H locs hw_2 hP hD hS => ?_)
  have hw_2 : r_2 = iI (min M.2.2.2.2.2.1 (max ((M.1.length : Int) - (M.2.1.length : Int) + 1) 0) - M.2.2.2.2.2.2.1) := hw_2
  have hP : va_P D vwCl (LBs cy ad o0 m0 a0 p0 q0 v0 t0 z f zt ft en B Kf nx ct Zh Fh Zs Fs sv tn tf O ho (0 : Int) tl G Hh Sl Sv Tx).flatten H := hP
  have hD : va_D (fun q : Nat => s.heap.size ≤ q) (LBs cy ad o0 m0 a0 p0 q0 v0 t0 z f zt ft en B Kf nx ct Zh Fh Zs Fs sv tn tf O ho (0 : Int) tl G Hh Sl Sv Tx).flatten := hD
  have hj : r_1 = r_2 ∧ LJ z f Kf nx ct Zh Fh Zs Fs sv tn tf ho tl G Hh Sl Sv Tx := by
    have e1 := hw_1
    have e2 := hw_2
    exact ⟨e1.trans e2.symm, ⟨M, h, sl, tx, hR, hG, hM, hH, hHh, hho, hh6, hXS, hSl, hXt, hMt, ht80, hk⟩⟩
  refine lv_icmp_eq (tgt := 1472) hx hb dL_law_758 (by decide) (fun _ => ?_) (fun q => absurd hj.1 q)
  exact (fun H1 locs1 ls1 a1 a2 a3 => W.widen (k := cells + 2) (n := slots + 12) (by omega) (by omega) (kk H1 locs1 ls1 a1 a2 a3)) _ _ _ ⟨z, f, zt, ft, en, B, Kf, nx, ct, Zh, Fh, Zs, Fs, sv, tn, tf, O, ho, (0 : Int), tl, G, Hh, Sl, Sv, Tx, hj.2, hP, hD⟩ hS hl
set_option maxHeartbeats 4000000 in
set_option maxRecDepth 100000 in
theorem k_lastPlaceOf {p : Program} {l : Launch} {e : Env} {s : State} {m : MethodId} {below : List Frame} {meth : Method} {c : Code} {H : Heap} {locs : List Loc} {cells slots : Nat} {Q : State → Prop} {ls : Array Slot} {D : va_G} {cy : Nat → ClassId} {b L : Nat} {xs : Nat → Int32} {i : Nat} {ad : Nat → Nat} {o0 m0 a0 p0 q0 v0 t0 : Nat} (C : LC p l s m c b L xs D cy) (hi : (i : Int) + 2 < L) (hI : LI D cy ad o0 m0 a0 p0 q0 v0 t0 (fun q : Nat => s.heap.size ≤ q) H) (hS : va_S (fun q : Nat => s.heap.size ≤ q) s.heap H locs) (hro : cells + 2 ≤ 601024 ∧ slots + 12 ≤ 7293034) (hl : lv_has ls 7 (lvL i b (ad 0) m0 o0)) (kk : ∀ (H1 : Heap) (locs1 : List Loc) (ls1 : Array Slot), LI D cy ad o0 m0 a0 p0 q0 v0 t0 (fun q : Nat => s.heap.size ≤ q) H1 → va_S (fun q : Nat => s.heap.size ≤ q) s.heap H1 locs1 → lv_has ls1 7 (lvL i b (ad 0) m0 o0) → W p l e room_1 s m #[.ref b] below meth c H1 locs1 (cells + 2) (slots + 12) Q (F0 m 1472 ls1 [])) : W p l e room_1 s m #[.ref b] below meth c H locs cells slots Q (F0 m 763 ls []) := by
  obtain ⟨z, f, zt, ft, en, B, Kf, nx, ct, Zh, Fh, Zs, Fs, sv, tn, tf, O, ho, th, tl, G, Hh, Sl, Sv, Tx, ⟨M, h, sl, tx, hR, hG, hM, hH, hHh, hho, hh6, hXS, hSl, hXt, hMt, ht80, hk⟩, hP, hD⟩ := hI
  obtain ⟨hx, hb, hml, hown, hts, hX, hbl, hK, hT, hC, hZ, hfl, hL⟩ := id C
  have hA : ∀ q : Nat, s.heap.size ≤ q → (fun q : Nat => s.heap.size ≤ q) q := fun _ h => h
  have hl : lv_has ls 7 [(4, .int (iI (i : Int))), (0, .ref b), (1, .ref (ad 0)), (2, .ref m0), (3, .ref o0)] := hl
  obtain ⟨x, ex⟩ : ∃ x : Int, (xs ((i : Int) + 1).toNat).toInt = x := ⟨_, rfl⟩
  have hx1 : -2147483648 ≤ x ∧ x < 2147483648 := by rw [← ex]; exact ⟨iI_lo _, iI_hi _⟩
  refine lv_aload_n hx hb dL_law_763 rfl (lv_at hl 2 rfl) ?_
  refine z_arg C hS (lv_at hl 1 rfl) (lv_at hl 0 rfl) (by omega) (by omega) ex dL_law_764 dL_law_765 dL_law_767 dL_law_768 dL_law_769 ?_
  refine lv_aload_n hx hb dL_law_770 rfl (lv_at hl 4 rfl) ?_
  refine z_hSi (n := 3) (As := [.ref (ad 0), .int (iI x), .ref o0]) (rest := []) ⟨hx, hb, hml, hown, hts⟩ (c_L_lastPlaceOf l hfl D cy ad z f M x o0 O hR hM hx1) gL_law_L_lastPlaceOf rfl (by decide +kernel) ⟨Nat.le_of_ble_eq_true rfl, Nat.le_of_ble_eq_true rfl⟩ hK hT hC hZ hS (Fp.blocks hP hD hS hA (cs := [wTop ad, wSt cy ad 1 z f, wOt cy o0 O]) (nb := fun (u : (Nat → Int64)) => [wTop ad, wSt cy ad 1 z f, wOt cy o0 u]) (nbs := fun (u : (Nat → Int64)) => LBs cy ad o0 m0 a0 p0 q0 v0 t0 z f zt ft en B Kf nx ct Zh Fh Zs Fs sv tn tf u ho th tl G Hh Sl Sv Tx) [0, 1, 17] rfl rfl rfl (fun _ => rfl) (fun _ => rfl) (fun _ => rfl)) rfl hl.1 rfl (Nat.le_of_ble_eq_true rfl) dL_law_771 ⟨Nat.le_trans (by omega) hro.1, Nat.le_trans (by omega) hro.2⟩ (fun r_1 u_1 H locs hw_1 hP hD hS => ?_)
  obtain ⟨O_1, rfl⟩ : ∃ w, w = u_1 := ⟨_, rfl⟩
  have hw_1 : (r_1 = iI 0 ∧ ∃ v : Int32, ((0 ≤ x ∧ x ≤ 25) ∧ v = iI (lastF M.2.1.length (gl M.2.1) (iI x))) ∧ O_1 0 = lI v.toInt) ∨ (r_1 = iI 1 ∧ (¬ (0 ≤ x ∧ x ≤ 25))) := hw_1
  have hP : va_P D vwCl (LBs cy ad o0 m0 a0 p0 q0 v0 t0 z f zt ft en B Kf nx ct Zh Fh Zs Fs sv tn tf O_1 ho th tl G Hh Sl Sv Tx).flatten H := hP
  have hD : va_D (fun q : Nat => s.heap.size ≤ q) (LBs cy ad o0 m0 a0 p0 q0 v0 t0 z f zt ft en B Kf nx ct Zh Fh Zs Fs sv tn tf O_1 ho th tl G Hh Sl Sv Tx).flatten := hD
  refine lv_istore (lv' := [(5, .int r_1), (4, .int (iI (i : Int))), (0, .ref b), (1, .ref (ad 0)), (2, .ref m0), (3, .ref o0)]) hx hb dL_law_774 hl (by decide) rfl (fun ls hl => ?_)
  refine lv_aload_n hx hb dL_law_776 rfl (lv_at hl 4 rfl) ?_
  refine z_arg C hS (lv_at hl 2 rfl) (lv_at hl 1 rfl) (by omega) (by omega) ex dL_law_777 dL_law_778 dL_law_780 dL_law_781 dL_law_782 ?_
  refine z_gVi (n := 1) (b := m0) (As := [.int (iI x)]) (rest := []) ⟨hx, hb, hml, hown, hts⟩ (c_X5_lastPlaceOf l D cy m0 a0 p0 q0 v0 t0 ho th tl G M x hG hM hx1) gL_law_X5_lastPlaceOf rfl (by decide +kernel) ⟨Nat.le_of_ble_eq_true rfl, Nat.le_of_ble_eq_true rfl⟩ hK hT hP hS (Fp.blocks hP hD hS hA (cs := [wMo m0 a0 p0 q0 v0 t0 ho th tl, wMa cy a0 144 G]) (nb := fun (u : Int) => [wMo m0 a0 p0 q0 v0 t0 ho u tl, wMa cy a0 144 G]) (nbs := fun (u : Int) => LBs cy ad o0 m0 a0 p0 q0 v0 t0 z f zt ft en B Kf nx ct Zh Fh Zs Fs sv tn tf O_1 ho u tl G Hh Sl Sv Tx) [18, 19] rfl rfl rfl (fun _ => rfl) (fun _ => rfl) (fun _ => rfl)) 81 5 rfl rfl rfl rfl hl.1 rfl (Nat.le_of_ble_eq_true rfl) dL_law_783 ⟨Nat.le_trans (by omega) hro.1, Nat.le_trans (by omega) hro.2⟩ (fun r_2 u_2 H locs hw_2 hP hD hS => ?_)
  obtain ⟨th_2, rfl⟩ : ∃ w, w = u_2 := ⟨_, rfl⟩
  have hw_2 : ((0 ≤ x ∧ x ≤ 25) ∧ r_2 = iI (lastF M.2.1.length (gl M.2.1) (iI x)) ∧ th_2 = 0) ∨ (¬ (0 ≤ x ∧ x ≤ 25) ∧ r_2 = iI 0 ∧ th_2 = 1) := hw_2
  have hP : va_P D vwCl (LBs cy ad o0 m0 a0 p0 q0 v0 t0 z f zt ft en B Kf nx ct Zh Fh Zs Fs sv tn tf O_1 ho th_2 tl G Hh Sl Sv Tx).flatten H := hP
  have hD : va_D (fun q : Nat => s.heap.size ≤ q) (LBs cy ad o0 m0 a0 p0 q0 v0 t0 z f zt ft en B Kf nx ct Zh Fh Zs Fs sv tn tf O_1 ho th_2 tl G Hh Sl Sv Tx).flatten := hD
  have hj : r_1 = iI th_2 ∧ (r_1 = iI 0 → O_1 0 = lI r_2.toInt) ∧ LJ z f Kf nx ct Zh Fh Zs Fs sv tn tf ho tl G Hh Sl Sv Tx := by
    rcases hw_1 with ⟨e1, v, ⟨c1, ev⟩, eo⟩ | ⟨e1, c1⟩
    · --
      rcases hw_2 with ⟨c2, e2, et⟩ | ⟨c2, e2, et⟩
      · --
        exact ⟨by rw [e1, et], fun _ => by rw [eo, ev, e2], ⟨M, h, sl, tx, hR, hG, hM, hH, hHh, hho, hh6, hXS, hSl, hXt, hMt, ht80, hk⟩⟩
      · --
        first | exact absurd c1 c2 | exact absurd c2 c1 | (exfalso; omega)
    · --
      rcases hw_2 with ⟨c2, e2, et⟩ | ⟨c2, e2, et⟩
      · --
        first | exact absurd c1 c2 | exact absurd c2 c1 | (exfalso; omega)
      · --
        exact ⟨by rw [e1, et], fun q => absurd (e1.symm.trans q) (by decide), ⟨M, h, sl, tx, hR, hG, hM, hH, hHh, hho, hh6, hXS, hSl, hXt, hMt, ht80, hk⟩⟩
  refine lv_istore (lv' := [(6, .int r_2), (5, .int r_1), (4, .int (iI (i : Int))), (0, .ref b), (1, .ref (ad 0)), (2, .ref m0), (3, .ref o0)]) hx hb dL_law_786 hl (by decide) rfl (fun ls hl => ?_)
  exact z_tail C (T := 788) ⟨dL_law_788, dL_law_789, dL_law_792, dL_law_794, dL_law_799, dL_law_801, dL_law_804, dL_law_805, dL_law_806, dL_law_807, dL_law_809, dL_law_810, dL_law_811, dL_law_816⟩ (by decide) hP hD hS ⟨Nat.le_trans (by omega) hro.1, Nat.le_trans (by omega) hro.2⟩ hl hj.1 hj.2.1 hj.2.2 (fun H1 locs1 ls1 a1 a2 a3 => W.widen (k := cells + 2) (n := slots + 12) (by omega) (by omega) (kk H1 locs1 ls1 a1 a2 a3))
set_option maxHeartbeats 4000000 in
set_option maxRecDepth 100000 in
theorem k_letterSkip {p : Program} {l : Launch} {e : Env} {s : State} {m : MethodId} {below : List Frame} {meth : Method} {c : Code} {H : Heap} {locs : List Loc} {cells slots : Nat} {Q : State → Prop} {ls : Array Slot} {D : va_G} {cy : Nat → ClassId} {b L : Nat} {xs : Nat → Int32} {i : Nat} {ad : Nat → Nat} {o0 m0 a0 p0 q0 v0 t0 : Nat} (C : LC p l s m c b L xs D cy) (hi : (i : Int) + 2 < L) (hI : LI D cy ad o0 m0 a0 p0 q0 v0 t0 (fun q : Nat => s.heap.size ≤ q) H) (hS : va_S (fun q : Nat => s.heap.size ≤ q) s.heap H locs) (hro : cells + 2 ≤ 601024 ∧ slots + 12 ≤ 7293034) (hl : lv_has ls 7 (lvL i b (ad 0) m0 o0)) (kk : ∀ (H1 : Heap) (locs1 : List Loc) (ls1 : Array Slot), LI D cy ad o0 m0 a0 p0 q0 v0 t0 (fun q : Nat => s.heap.size ≤ q) H1 → va_S (fun q : Nat => s.heap.size ≤ q) s.heap H1 locs1 → lv_has ls1 7 (lvL i b (ad 0) m0 o0) → W p l e room_1 s m #[.ref b] below meth c H1 locs1 (cells + 2) (slots + 12) Q (F0 m 1472 ls1 [])) : W p l e room_1 s m #[.ref b] below meth c H locs cells slots Q (F0 m 819 ls []) := by
  obtain ⟨z, f, zt, ft, en, B, Kf, nx, ct, Zh, Fh, Zs, Fs, sv, tn, tf, O, ho, th, tl, G, Hh, Sl, Sv, Tx, ⟨M, h, sl, tx, hR, hG, hM, hH, hHh, hho, hh6, hXS, hSl, hXt, hMt, ht80, hk⟩, hP, hD⟩ := hI
  obtain ⟨hx, hb, hml, hown, hts, hX, hbl, hK, hT, hC, hZ, hfl, hL⟩ := id C
  have hA : ∀ q : Nat, s.heap.size ≤ q → (fun q : Nat => s.heap.size ≤ q) q := fun _ h => h
  have hl : lv_has ls 7 [(4, .int (iI (i : Int))), (0, .ref b), (1, .ref (ad 0)), (2, .ref m0), (3, .ref o0)] := hl
  obtain ⟨x, ex⟩ : ∃ x : Int, (xs ((i : Int) + 1).toNat).toInt = x := ⟨_, rfl⟩
  have hx1 : -2147483648 ≤ x ∧ x < 2147483648 := by rw [← ex]; exact ⟨iI_lo _, iI_hi _⟩
  obtain ⟨y, ey⟩ : ∃ y : Int, (xs ((i : Int) + 2).toNat).toInt = y := ⟨_, rfl⟩
  have hy1 : -2147483648 ≤ y ∧ y < 2147483648 := by rw [← ey]; exact ⟨iI_lo _, iI_hi _⟩
  refine lv_aload_n hx hb dL_law_819 rfl (lv_at hl 2 rfl) ?_
  refine z_arg C hS (lv_at hl 1 rfl) (lv_at hl 0 rfl) (by omega) (by omega) ex dL_law_820 dL_law_821 dL_law_823 dL_law_824 dL_law_825 ?_
  refine z_arg C hS (lv_at hl 1 rfl) (lv_at hl 0 rfl) (by omega) (by omega) ey dL_law_826 dL_law_827 dL_law_829 dL_law_830 dL_law_831 ?_
  refine lv_aload_n hx hb dL_law_832 rfl (lv_at hl 4 rfl) ?_
  refine z_hSi (n := 4) (As := [.ref (ad 0), .int (iI x), .int (iI y), .ref o0]) (rest := []) ⟨hx, hb, hml, hown, hts⟩ (c_L_letterSkip l hfl D cy ad z f M x y o0 O hR hM hx1 hy1) gL_law_L_letterSkip rfl (by decide +kernel) ⟨Nat.le_of_ble_eq_true rfl, Nat.le_of_ble_eq_true rfl⟩ hK hT hC hZ hS (Fp.blocks hP hD hS hA (cs := [wTop ad, wSt cy ad 1 z f, wOt cy o0 O]) (nb := fun (u : (Nat → Int64)) => [wTop ad, wSt cy ad 1 z f, wOt cy o0 u]) (nbs := fun (u : (Nat → Int64)) => LBs cy ad o0 m0 a0 p0 q0 v0 t0 z f zt ft en B Kf nx ct Zh Fh Zs Fs sv tn tf u ho th tl G Hh Sl Sv Tx) [0, 1, 17] rfl rfl rfl (fun _ => rfl) (fun _ => rfl) (fun _ => rfl)) rfl hl.1 rfl (Nat.le_of_ble_eq_true rfl) dL_law_833 ⟨Nat.le_trans (by omega) hro.1, Nat.le_trans (by omega) hro.2⟩ (fun r_1 u_1 H locs hw_1 hP hD hS => ?_)
  obtain ⟨O_1, rfl⟩ : ∃ w, w = u_1 := ⟨_, rfl⟩
  have hw_1 : (r_1 = iI 0 ∧ ∃ v : Int32, ((0 ≤ x ∧ x < (M.2.1.length : Int)) ∧ (0 ≤ y ∧ y ≤ 25) ∧ v = iI (x - lastF M.2.1.length (gl M.2.1) (iI y))) ∧ O_1 0 = lI v.toInt) ∨ (r_1 = iI 1 ∧ (¬ (0 ≤ x ∧ x < (M.2.1.length : Int)))) ∨ (r_1 = iI 2 ∧ ((0 ≤ x ∧ x < (M.2.1.length : Int)) ∧ ¬ (0 ≤ y ∧ y ≤ 25))) := hw_1
  have hP : va_P D vwCl (LBs cy ad o0 m0 a0 p0 q0 v0 t0 z f zt ft en B Kf nx ct Zh Fh Zs Fs sv tn tf O_1 ho th tl G Hh Sl Sv Tx).flatten H := hP
  have hD : va_D (fun q : Nat => s.heap.size ≤ q) (LBs cy ad o0 m0 a0 p0 q0 v0 t0 z f zt ft en B Kf nx ct Zh Fh Zs Fs sv tn tf O_1 ho th tl G Hh Sl Sv Tx).flatten := hD
  refine lv_istore (lv' := [(5, .int r_1), (4, .int (iI (i : Int))), (0, .ref b), (1, .ref (ad 0)), (2, .ref m0), (3, .ref o0)]) hx hb dL_law_836 hl (by decide) rfl (fun ls hl => ?_)
  refine lv_aload_n hx hb dL_law_838 rfl (lv_at hl 4 rfl) ?_
  refine z_arg C hS (lv_at hl 2 rfl) (lv_at hl 1 rfl) (by omega) (by omega) ex dL_law_839 dL_law_840 dL_law_842 dL_law_843 dL_law_844 ?_
  refine z_arg C hS (lv_at hl 2 rfl) (lv_at hl 1 rfl) (by omega) (by omega) ey dL_law_845 dL_law_846 dL_law_848 dL_law_849 dL_law_850 ?_
  refine z_gVi (n := 2) (b := m0) (As := [.int (iI x), .int (iI y)]) (rest := []) ⟨hx, hb, hml, hown, hts⟩ (c_X5_letterSkip l D cy m0 a0 p0 q0 v0 t0 ho th tl G M x y hG hM hx1 hy1) gL_law_X5_letterSkip rfl (by decide +kernel) ⟨Nat.le_of_ble_eq_true rfl, Nat.le_of_ble_eq_true rfl⟩ hK hT hP hS (Fp.blocks hP hD hS hA (cs := [wMo m0 a0 p0 q0 v0 t0 ho th tl, wMa cy a0 144 G]) (nb := fun (u : Int) => [wMo m0 a0 p0 q0 v0 t0 ho u tl, wMa cy a0 144 G]) (nbs := fun (u : Int) => LBs cy ad o0 m0 a0 p0 q0 v0 t0 z f zt ft en B Kf nx ct Zh Fh Zs Fs sv tn tf O_1 ho u tl G Hh Sl Sv Tx) [18, 19] rfl rfl rfl (fun _ => rfl) (fun _ => rfl) (fun _ => rfl)) 81 5 rfl rfl rfl rfl hl.1 rfl (Nat.le_of_ble_eq_true rfl) dL_law_851 ⟨Nat.le_trans (by omega) hro.1, Nat.le_trans (by omega) hro.2⟩ (fun r_2 u_2 H locs hw_2 hP hD hS => ?_)
  obtain ⟨th_2, rfl⟩ : ∃ w, w = u_2 := ⟨_, rfl⟩
  have hw_2 : ((0 ≤ x ∧ x < (M.2.1.length : Int)) ∧ (0 ≤ y ∧ y ≤ 25) ∧ r_2 = iI (x - lastF M.2.1.length (gl M.2.1) (iI y)) ∧ th_2 = 0) ∨ (¬ (0 ≤ x ∧ x < (M.2.1.length : Int)) ∧ r_2 = iI 0 ∧ th_2 = 1) ∨ ((0 ≤ x ∧ x < (M.2.1.length : Int)) ∧ ¬ (0 ≤ y ∧ y ≤ 25) ∧ r_2 = iI 0 ∧ th_2 = 2) := hw_2
  have hP : va_P D vwCl (LBs cy ad o0 m0 a0 p0 q0 v0 t0 z f zt ft en B Kf nx ct Zh Fh Zs Fs sv tn tf O_1 ho th_2 tl G Hh Sl Sv Tx).flatten H := hP
  have hD : va_D (fun q : Nat => s.heap.size ≤ q) (LBs cy ad o0 m0 a0 p0 q0 v0 t0 z f zt ft en B Kf nx ct Zh Fh Zs Fs sv tn tf O_1 ho th_2 tl G Hh Sl Sv Tx).flatten := hD
  have hj : r_1 = iI th_2 ∧ (r_1 = iI 0 → O_1 0 = lI r_2.toInt) ∧ LJ z f Kf nx ct Zh Fh Zs Fs sv tn tf ho tl G Hh Sl Sv Tx := by
    rcases hw_1 with ⟨e1, v, ⟨c1, c1b, ev⟩, eo⟩ | ⟨e1, c1⟩ | ⟨e1, ⟨c1, c1b⟩⟩
    · --
      rcases hw_2 with ⟨c2, c2b, e2, et⟩ | ⟨c2, e2, et⟩ | ⟨c2, c2b, e2, et⟩
      · --
        exact ⟨by rw [e1, et], fun _ => by rw [eo, ev, e2], ⟨M, h, sl, tx, hR, hG, hM, hH, hHh, hho, hh6, hXS, hSl, hXt, hMt, ht80, hk⟩⟩
      · --
        first | exact absurd c1 c2 | exact absurd c2 c1 | (exfalso; omega)
      · --
        first | exact absurd c1 c2 | exact absurd c2 c1 | (exfalso; omega)
    · --
      rcases hw_2 with ⟨c2, c2b, e2, et⟩ | ⟨c2, e2, et⟩ | ⟨c2, c2b, e2, et⟩
      · --
        first | exact absurd c1 c2 | exact absurd c2 c1 | (exfalso; omega)
      · --
        exact ⟨by rw [e1, et], fun q => absurd (e1.symm.trans q) (by decide), ⟨M, h, sl, tx, hR, hG, hM, hH, hHh, hho, hh6, hXS, hSl, hXt, hMt, ht80, hk⟩⟩
      · --
        first | exact absurd c1 c2 | exact absurd c2 c1 | (exfalso; omega)
    · --
      rcases hw_2 with ⟨c2, c2b, e2, et⟩ | ⟨c2, e2, et⟩ | ⟨c2, c2b, e2, et⟩
      · --
        first | exact absurd c1 c2 | exact absurd c2 c1 | (exfalso; omega)
      · --
        first | exact absurd c1 c2 | exact absurd c2 c1 | (exfalso; omega)
      · --
        exact ⟨by rw [e1, et], fun q => absurd (e1.symm.trans q) (by decide), ⟨M, h, sl, tx, hR, hG, hM, hH, hHh, hho, hh6, hXS, hSl, hXt, hMt, ht80, hk⟩⟩
  refine lv_istore (lv' := [(6, .int r_2), (5, .int r_1), (4, .int (iI (i : Int))), (0, .ref b), (1, .ref (ad 0)), (2, .ref m0), (3, .ref o0)]) hx hb dL_law_854 hl (by decide) rfl (fun ls hl => ?_)
  exact z_tail C (T := 856) ⟨dL_law_856, dL_law_857, dL_law_860, dL_law_862, dL_law_867, dL_law_869, dL_law_872, dL_law_873, dL_law_874, dL_law_875, dL_law_877, dL_law_878, dL_law_879, dL_law_884⟩ (by decide) hP hD hS ⟨Nat.le_trans (by omega) hro.1, Nat.le_trans (by omega) hro.2⟩ hl hj.1 hj.2.1 hj.2.2 (fun H1 locs1 ls1 a1 a2 a3 => W.widen (k := cells + 2) (n := slots + 12) (by omega) (by omega) (kk H1 locs1 ls1 a1 a2 a3))
set_option maxHeartbeats 4000000 in
set_option maxRecDepth 100000 in
theorem k_endSkip {p : Program} {l : Launch} {e : Env} {s : State} {m : MethodId} {below : List Frame} {meth : Method} {c : Code} {H : Heap} {locs : List Loc} {cells slots : Nat} {Q : State → Prop} {ls : Array Slot} {D : va_G} {cy : Nat → ClassId} {b L : Nat} {xs : Nat → Int32} {i : Nat} {ad : Nat → Nat} {o0 m0 a0 p0 q0 v0 t0 : Nat} (C : LC p l s m c b L xs D cy) (hi : (i : Int) + 2 < L) (hI : LI D cy ad o0 m0 a0 p0 q0 v0 t0 (fun q : Nat => s.heap.size ≤ q) H) (hS : va_S (fun q : Nat => s.heap.size ≤ q) s.heap H locs) (hro : cells + 2 ≤ 601024 ∧ slots + 12 ≤ 7293034) (hl : lv_has ls 7 (lvL i b (ad 0) m0 o0)) (kk : ∀ (H1 : Heap) (locs1 : List Loc) (ls1 : Array Slot), LI D cy ad o0 m0 a0 p0 q0 v0 t0 (fun q : Nat => s.heap.size ≤ q) H1 → va_S (fun q : Nat => s.heap.size ≤ q) s.heap H1 locs1 → lv_has ls1 7 (lvL i b (ad 0) m0 o0) → W p l e room_1 s m #[.ref b] below meth c H1 locs1 (cells + 2) (slots + 12) Q (F0 m 1472 ls1 [])) : W p l e room_1 s m #[.ref b] below meth c H locs cells slots Q (F0 m 887 ls []) := by
  obtain ⟨z, f, zt, ft, en, B, Kf, nx, ct, Zh, Fh, Zs, Fs, sv, tn, tf, O, ho, th, tl, G, Hh, Sl, Sv, Tx, ⟨M, h, sl, tx, hR, hG, hM, hH, hHh, hho, hh6, hXS, hSl, hXt, hMt, ht80, hk⟩, hP, hD⟩ := hI
  obtain ⟨hx, hb, hml, hown, hts, hX, hbl, hK, hT, hC, hZ, hfl, hL⟩ := id C
  have hA : ∀ q : Nat, s.heap.size ≤ q → (fun q : Nat => s.heap.size ≤ q) q := fun _ h => h
  have hl : lv_has ls 7 [(4, .int (iI (i : Int))), (0, .ref b), (1, .ref (ad 0)), (2, .ref m0), (3, .ref o0)] := hl
  obtain ⟨x, ex⟩ : ∃ x : Int, (xs ((i : Int) + 1).toNat).toInt = x := ⟨_, rfl⟩
  have hx1 : -2147483648 ≤ x ∧ x < 2147483648 := by rw [← ex]; exact ⟨iI_lo _, iI_hi _⟩
  refine lv_aload_n hx hb dL_law_887 rfl (lv_at hl 2 rfl) ?_
  refine z_arg C hS (lv_at hl 1 rfl) (lv_at hl 0 rfl) (by omega) (by omega) ex dL_law_888 dL_law_889 dL_law_891 dL_law_892 dL_law_893 ?_
  refine lv_aload_n hx hb dL_law_894 rfl (lv_at hl 4 rfl) ?_
  refine z_hSi (n := 3) (As := [.ref (ad 0), .int (iI x), .ref o0]) (rest := []) ⟨hx, hb, hml, hown, hts⟩ (c_L_endSkip l hfl D cy ad z f M en B Kf x o0 O hR hM hk hx1) gL_law_L_endSkip rfl (by decide +kernel) ⟨Nat.le_of_ble_eq_true rfl, Nat.le_of_ble_eq_true rfl⟩ hK hT hC hZ hS (Fp.blocks hP hD hS hA (cs := [wTop ad, wSt cy ad 1 z f, wEn cy ad en B Kf, wOt cy o0 O]) (nb := fun (u : Int × (Nat → Int) × (Nat → Int) × (Nat → Int64)) => [wTop ad, wSt cy ad 1 z f, wEn cy ad u.1 u.2.1 u.2.2.1, wOt cy o0 u.2.2.2]) (nbs := fun (u : Int × (Nat → Int) × (Nat → Int) × (Nat → Int64)) => LBs cy ad o0 m0 a0 p0 q0 v0 t0 z f zt ft u.1 u.2.1 u.2.2.1 nx ct Zh Fh Zs Fs sv tn tf u.2.2.2 ho th tl G Hh Sl Sv Tx) [0, 1, 3, 17] rfl rfl rfl (fun _ => rfl) (fun _ => rfl) (fun _ => rfl)) rfl hl.1 rfl (Nat.le_of_ble_eq_true rfl) dL_law_895 ⟨Nat.le_trans (by omega) hro.1, Nat.le_trans (by omega) hro.2⟩ (fun r_1 u_1 H locs hw_1 hP hD hS => ?_)
  obtain ⟨en_1, B_1, Kf_1, O_1⟩ := u_1
  have hw_1 : (r_1 = iI 0 ∧ ∃ v : Int32, (((0 ≤ x ∧ x < (M.2.1.length : Int)) ∧ v = iI (endF M.2.1.length (gl M.2.1) x.toNat : Int)) ∧ ∀ j : Nat, 0 ≤ Kf_1 j ∧ Kf_1 j ≤ 17) ∧ O_1 0 = lI v.toInt) ∨ (r_1 = iI 1 ∧ (¬ (0 ≤ x ∧ x < (M.2.1.length : Int))) ∧ en_1 = en ∧ B_1 = B ∧ Kf_1 = Kf) := hw_1
  have hP : va_P D vwCl (LBs cy ad o0 m0 a0 p0 q0 v0 t0 z f zt ft en_1 B_1 Kf_1 nx ct Zh Fh Zs Fs sv tn tf O_1 ho th tl G Hh Sl Sv Tx).flatten H := hP
  have hD : va_D (fun q : Nat => s.heap.size ≤ q) (LBs cy ad o0 m0 a0 p0 q0 v0 t0 z f zt ft en_1 B_1 Kf_1 nx ct Zh Fh Zs Fs sv tn tf O_1 ho th tl G Hh Sl Sv Tx).flatten := hD
  refine lv_istore (lv' := [(5, .int r_1), (4, .int (iI (i : Int))), (0, .ref b), (1, .ref (ad 0)), (2, .ref m0), (3, .ref o0)]) hx hb dL_law_898 hl (by decide) rfl (fun ls hl => ?_)
  refine lv_aload_n hx hb dL_law_900 rfl (lv_at hl 4 rfl) ?_
  refine z_arg C hS (lv_at hl 2 rfl) (lv_at hl 1 rfl) (by omega) (by omega) ex dL_law_901 dL_law_902 dL_law_904 dL_law_905 dL_law_906 ?_
  refine z_gVi (n := 1) (b := m0) (As := [.int (iI x)]) (rest := []) ⟨hx, hb, hml, hown, hts⟩ (c_X5_endSkip l D cy m0 a0 p0 q0 v0 t0 ho th tl G M x hG hM hx1) gL_law_X5_endSkip rfl (by decide +kernel) ⟨Nat.le_of_ble_eq_true rfl, Nat.le_of_ble_eq_true rfl⟩ hK hT hP hS (Fp.blocks hP hD hS hA (cs := [wMo m0 a0 p0 q0 v0 t0 ho th tl, wMa cy a0 144 G]) (nb := fun (u : Int) => [wMo m0 a0 p0 q0 v0 t0 ho u tl, wMa cy a0 144 G]) (nbs := fun (u : Int) => LBs cy ad o0 m0 a0 p0 q0 v0 t0 z f zt ft en_1 B_1 Kf_1 nx ct Zh Fh Zs Fs sv tn tf O_1 ho u tl G Hh Sl Sv Tx) [18, 19] rfl rfl rfl (fun _ => rfl) (fun _ => rfl) (fun _ => rfl)) 81 5 rfl rfl rfl rfl hl.1 rfl (Nat.le_of_ble_eq_true rfl) dL_law_907 ⟨Nat.le_trans (by omega) hro.1, Nat.le_trans (by omega) hro.2⟩ (fun r_2 u_2 H locs hw_2 hP hD hS => ?_)
  obtain ⟨th_2, rfl⟩ : ∃ w, w = u_2 := ⟨_, rfl⟩
  have hw_2 : ((0 ≤ x ∧ x < (M.2.1.length : Int)) ∧ r_2 = iI (endF M.2.1.length (gl M.2.1) x.toNat : Int) ∧ th_2 = 0) ∨ (¬ (0 ≤ x ∧ x < (M.2.1.length : Int)) ∧ r_2 = iI 0 ∧ th_2 = 1) := hw_2
  have hP : va_P D vwCl (LBs cy ad o0 m0 a0 p0 q0 v0 t0 z f zt ft en_1 B_1 Kf_1 nx ct Zh Fh Zs Fs sv tn tf O_1 ho th_2 tl G Hh Sl Sv Tx).flatten H := hP
  have hD : va_D (fun q : Nat => s.heap.size ≤ q) (LBs cy ad o0 m0 a0 p0 q0 v0 t0 z f zt ft en_1 B_1 Kf_1 nx ct Zh Fh Zs Fs sv tn tf O_1 ho th_2 tl G Hh Sl Sv Tx).flatten := hD
  have hj : r_1 = iI th_2 ∧ (r_1 = iI 0 → O_1 0 = lI r_2.toInt) ∧ LJ z f Kf_1 nx ct Zh Fh Zs Fs sv tn tf ho tl G Hh Sl Sv Tx := by
    rcases hw_1 with ⟨e1, v, ⟨⟨c1, ev⟩, hk1⟩, eo⟩ | ⟨e1, c1, rfl, rfl, rfl⟩
    · --
      rcases hw_2 with ⟨c2, e2, et⟩ | ⟨c2, e2, et⟩
      · --
        exact ⟨by rw [e1, et], fun _ => by rw [eo, ev, e2], ⟨M, h, sl, tx, hR, hG, hM, hH, hHh, hho, hh6, hXS, hSl, hXt, hMt, ht80, hk1⟩⟩
      · --
        first | exact absurd c1 c2 | exact absurd c2 c1 | (exfalso; omega)
    · --
      rcases hw_2 with ⟨c2, e2, et⟩ | ⟨c2, e2, et⟩
      · --
        first | exact absurd c1 c2 | exact absurd c2 c1 | (exfalso; omega)
      · --
        exact ⟨by rw [e1, et], fun q => absurd (e1.symm.trans q) (by decide), ⟨M, h, sl, tx, hR, hG, hM, hH, hHh, hho, hh6, hXS, hSl, hXt, hMt, ht80, hk⟩⟩
  refine lv_istore (lv' := [(6, .int r_2), (5, .int r_1), (4, .int (iI (i : Int))), (0, .ref b), (1, .ref (ad 0)), (2, .ref m0), (3, .ref o0)]) hx hb dL_law_910 hl (by decide) rfl (fun ls hl => ?_)
  exact z_tail C (T := 912) ⟨dL_law_912, dL_law_913, dL_law_916, dL_law_918, dL_law_923, dL_law_925, dL_law_928, dL_law_929, dL_law_930, dL_law_931, dL_law_933, dL_law_934, dL_law_935, dL_law_940⟩ (by decide) hP hD hS ⟨Nat.le_trans (by omega) hro.1, Nat.le_trans (by omega) hro.2⟩ hl hj.1 hj.2.1 hj.2.2 (fun H1 locs1 ls1 a1 a2 a3 => W.widen (k := cells + 2) (n := slots + 12) (by omega) (by omega) (kk H1 locs1 ls1 a1 a2 a3))
set_option maxHeartbeats 4000000 in
set_option maxRecDepth 100000 in
theorem k_endSkipByTrying {p : Program} {l : Launch} {e : Env} {s : State} {m : MethodId} {below : List Frame} {meth : Method} {c : Code} {H : Heap} {locs : List Loc} {cells slots : Nat} {Q : State → Prop} {ls : Array Slot} {D : va_G} {cy : Nat → ClassId} {b L : Nat} {xs : Nat → Int32} {i : Nat} {ad : Nat → Nat} {o0 m0 a0 p0 q0 v0 t0 : Nat} (C : LC p l s m c b L xs D cy) (hi : (i : Int) + 2 < L) (hI : LI D cy ad o0 m0 a0 p0 q0 v0 t0 (fun q : Nat => s.heap.size ≤ q) H) (hS : va_S (fun q : Nat => s.heap.size ≤ q) s.heap H locs) (hro : cells + 2 ≤ 601024 ∧ slots + 12 ≤ 7293034) (hl : lv_has ls 7 (lvL i b (ad 0) m0 o0)) (kk : ∀ (H1 : Heap) (locs1 : List Loc) (ls1 : Array Slot), LI D cy ad o0 m0 a0 p0 q0 v0 t0 (fun q : Nat => s.heap.size ≤ q) H1 → va_S (fun q : Nat => s.heap.size ≤ q) s.heap H1 locs1 → lv_has ls1 7 (lvL i b (ad 0) m0 o0) → W p l e room_1 s m #[.ref b] below meth c H1 locs1 (cells + 2) (slots + 12) Q (F0 m 1472 ls1 [])) : W p l e room_1 s m #[.ref b] below meth c H locs cells slots Q (F0 m 943 ls []) := by
  obtain ⟨z, f, zt, ft, en, B, Kf, nx, ct, Zh, Fh, Zs, Fs, sv, tn, tf, O, ho, th, tl, G, Hh, Sl, Sv, Tx, ⟨M, h, sl, tx, hR, hG, hM, hH, hHh, hho, hh6, hXS, hSl, hXt, hMt, ht80, hk⟩, hP, hD⟩ := hI
  obtain ⟨hx, hb, hml, hown, hts, hX, hbl, hK, hT, hC, hZ, hfl, hL⟩ := id C
  have hA : ∀ q : Nat, s.heap.size ≤ q → (fun q : Nat => s.heap.size ≤ q) q := fun _ h => h
  have hl : lv_has ls 7 [(4, .int (iI (i : Int))), (0, .ref b), (1, .ref (ad 0)), (2, .ref m0), (3, .ref o0)] := hl
  obtain ⟨x, ex⟩ : ∃ x : Int, (xs ((i : Int) + 1).toNat).toInt = x := ⟨_, rfl⟩
  have hx1 : -2147483648 ≤ x ∧ x < 2147483648 := by rw [← ex]; exact ⟨iI_lo _, iI_hi _⟩
  refine lv_aload_n hx hb dL_law_943 rfl (lv_at hl 2 rfl) ?_
  refine z_arg C hS (lv_at hl 1 rfl) (lv_at hl 0 rfl) (by omega) (by omega) ex dL_law_944 dL_law_945 dL_law_947 dL_law_948 dL_law_949 ?_
  refine lv_aload_n hx hb dL_law_950 rfl (lv_at hl 4 rfl) ?_
  refine z_hSi (n := 3) (As := [.ref (ad 0), .int (iI x), .ref o0]) (rest := []) ⟨hx, hb, hml, hown, hts⟩ (c_L_endSkipByTrying l hfl D cy ad z f M x o0 O hR hM hx1) gL_law_L_endSkipByTrying rfl (by decide +kernel) ⟨Nat.le_of_ble_eq_true rfl, Nat.le_of_ble_eq_true rfl⟩ hK hT hC hZ hS (Fp.blocks hP hD hS hA (cs := [wTop ad, wSt cy ad 1 z f, wOt cy o0 O]) (nb := fun (u : (Nat → Int64)) => [wTop ad, wSt cy ad 1 z f, wOt cy o0 u]) (nbs := fun (u : (Nat → Int64)) => LBs cy ad o0 m0 a0 p0 q0 v0 t0 z f zt ft en B Kf nx ct Zh Fh Zs Fs sv tn tf u ho th tl G Hh Sl Sv Tx) [0, 1, 17] rfl rfl rfl (fun _ => rfl) (fun _ => rfl) (fun _ => rfl)) rfl hl.1 rfl (Nat.le_of_ble_eq_true rfl) dL_law_951 ⟨Nat.le_trans (by omega) hro.1, Nat.le_trans (by omega) hro.2⟩ (fun r_1 u_1 H locs hw_1 hP hD hS => ?_)
  obtain ⟨O_1, rfl⟩ : ∃ w, w = u_1 := ⟨_, rfl⟩
  have hw_1 : (r_1 = iI 0 ∧ ∃ v : Int32, ((0 ≤ x ∧ x < (M.2.1.length : Int)) ∧ v = iI (endF M.2.1.length (gl M.2.1) x.toNat : Int)) ∧ O_1 0 = lI v.toInt) ∨ (r_1 = iI 1 ∧ (¬ (0 ≤ x ∧ x < (M.2.1.length : Int)))) := hw_1
  have hP : va_P D vwCl (LBs cy ad o0 m0 a0 p0 q0 v0 t0 z f zt ft en B Kf nx ct Zh Fh Zs Fs sv tn tf O_1 ho th tl G Hh Sl Sv Tx).flatten H := hP
  have hD : va_D (fun q : Nat => s.heap.size ≤ q) (LBs cy ad o0 m0 a0 p0 q0 v0 t0 z f zt ft en B Kf nx ct Zh Fh Zs Fs sv tn tf O_1 ho th tl G Hh Sl Sv Tx).flatten := hD
  refine lv_istore (lv' := [(5, .int r_1), (4, .int (iI (i : Int))), (0, .ref b), (1, .ref (ad 0)), (2, .ref m0), (3, .ref o0)]) hx hb dL_law_954 hl (by decide) rfl (fun ls hl => ?_)
  refine lv_aload_n hx hb dL_law_956 rfl (lv_at hl 4 rfl) ?_
  refine z_arg C hS (lv_at hl 2 rfl) (lv_at hl 1 rfl) (by omega) (by omega) ex dL_law_957 dL_law_958 dL_law_960 dL_law_961 dL_law_962 ?_
  refine z_gVi (n := 1) (b := m0) (As := [.int (iI x)]) (rest := []) ⟨hx, hb, hml, hown, hts⟩ (c_X5_endSkipByTrying l D cy m0 a0 p0 q0 v0 t0 ho th tl G M x hG hM hx1) gL_law_X5_endSkipByTrying rfl (by decide +kernel) ⟨Nat.le_of_ble_eq_true rfl, Nat.le_of_ble_eq_true rfl⟩ hK hT hP hS (Fp.blocks hP hD hS hA (cs := [wMo m0 a0 p0 q0 v0 t0 ho th tl, wMa cy a0 144 G]) (nb := fun (u : Int) => [wMo m0 a0 p0 q0 v0 t0 ho u tl, wMa cy a0 144 G]) (nbs := fun (u : Int) => LBs cy ad o0 m0 a0 p0 q0 v0 t0 z f zt ft en B Kf nx ct Zh Fh Zs Fs sv tn tf O_1 ho u tl G Hh Sl Sv Tx) [18, 19] rfl rfl rfl (fun _ => rfl) (fun _ => rfl) (fun _ => rfl)) 81 5 rfl rfl rfl rfl hl.1 rfl (Nat.le_of_ble_eq_true rfl) dL_law_963 ⟨Nat.le_trans (by omega) hro.1, Nat.le_trans (by omega) hro.2⟩ (fun r_2 u_2 H locs hw_2 hP hD hS => ?_)
  obtain ⟨th_2, rfl⟩ : ∃ w, w = u_2 := ⟨_, rfl⟩
  have hw_2 : ((0 ≤ x ∧ x < (M.2.1.length : Int)) ∧ r_2 = iI (endF M.2.1.length (gl M.2.1) x.toNat : Int) ∧ th_2 = 0) ∨ (¬ (0 ≤ x ∧ x < (M.2.1.length : Int)) ∧ r_2 = iI 0 ∧ th_2 = 1) := hw_2
  have hP : va_P D vwCl (LBs cy ad o0 m0 a0 p0 q0 v0 t0 z f zt ft en B Kf nx ct Zh Fh Zs Fs sv tn tf O_1 ho th_2 tl G Hh Sl Sv Tx).flatten H := hP
  have hD : va_D (fun q : Nat => s.heap.size ≤ q) (LBs cy ad o0 m0 a0 p0 q0 v0 t0 z f zt ft en B Kf nx ct Zh Fh Zs Fs sv tn tf O_1 ho th_2 tl G Hh Sl Sv Tx).flatten := hD
  have hj : r_1 = iI th_2 ∧ (r_1 = iI 0 → O_1 0 = lI r_2.toInt) ∧ LJ z f Kf nx ct Zh Fh Zs Fs sv tn tf ho tl G Hh Sl Sv Tx := by
    rcases hw_1 with ⟨e1, v, ⟨c1, ev⟩, eo⟩ | ⟨e1, c1⟩
    · --
      rcases hw_2 with ⟨c2, e2, et⟩ | ⟨c2, e2, et⟩
      · --
        exact ⟨by rw [e1, et], fun _ => by rw [eo, ev, e2], ⟨M, h, sl, tx, hR, hG, hM, hH, hHh, hho, hh6, hXS, hSl, hXt, hMt, ht80, hk⟩⟩
      · --
        first | exact absurd c1 c2 | exact absurd c2 c1 | (exfalso; omega)
    · --
      rcases hw_2 with ⟨c2, e2, et⟩ | ⟨c2, e2, et⟩
      · --
        first | exact absurd c1 c2 | exact absurd c2 c1 | (exfalso; omega)
      · --
        exact ⟨by rw [e1, et], fun q => absurd (e1.symm.trans q) (by decide), ⟨M, h, sl, tx, hR, hG, hM, hH, hHh, hho, hh6, hXS, hSl, hXt, hMt, ht80, hk⟩⟩
  refine lv_istore (lv' := [(6, .int r_2), (5, .int r_1), (4, .int (iI (i : Int))), (0, .ref b), (1, .ref (ad 0)), (2, .ref m0), (3, .ref o0)]) hx hb dL_law_966 hl (by decide) rfl (fun ls hl => ?_)
  exact z_tail C (T := 968) ⟨dL_law_968, dL_law_969, dL_law_972, dL_law_974, dL_law_979, dL_law_981, dL_law_984, dL_law_985, dL_law_986, dL_law_987, dL_law_989, dL_law_990, dL_law_991, dL_law_996⟩ (by decide) hP hD hS ⟨Nat.le_trans (by omega) hro.1, Nat.le_trans (by omega) hro.2⟩ hl hj.1 hj.2.1 hj.2.2 (fun H1 locs1 ls1 a1 a2 a3 => W.widen (k := cells + 2) (n := slots + 12) (by omega) (by omega) (kk H1 locs1 ls1 a1 a2 a3))
