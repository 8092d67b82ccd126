/-! cases of the law: lineLetter, wordLetter, place, isOver, lookCount, comparedCount, foundCount -/
set_option maxHeartbeats 4000000 in
set_option maxRecDepth 100000 in
theorem k_lineLetter {p : Program} {l : Launch} {e : Env} {s : State} {m : MethodId} {below : List Frame} {meth : Method} {c : Code} {H : Heap} {locs : List Loc} {cells slots : Nat} {Q : State → Prop} {ls : Array Slot} {D : va_G} {cy : Nat → ClassId} {b L : Nat} {xs : Nat → Int32} {i : Nat} {ad : Nat → Nat} {o0 m0 a0 p0 q0 v0 t0 : Nat} (C : LC p l s m c b L xs D cy) (hi : (i : Int) + 2 < L) (hI : LI D cy ad o0 m0 a0 p0 q0 v0 t0 (fun q : Nat => s.heap.size ≤ q) H) (hS : va_S (fun q : Nat => s.heap.size ≤ q) s.heap H locs) (hro : cells + 2 ≤ 601024 ∧ slots + 12 ≤ 7293034) (hl : lv_has ls 7 (lvL i b (ad 0) m0 o0)) (kk : ∀ (H1 : Heap) (locs1 : List Loc) (ls1 : Array Slot), LI D cy ad o0 m0 a0 p0 q0 v0 t0 (fun q : Nat => s.heap.size ≤ q) H1 → va_S (fun q : Nat => s.heap.size ≤ q) s.heap H1 locs1 → lv_has ls1 7 (lvL i b (ad 0) m0 o0) → W p l e room_1 s m #[.ref b] below meth c H1 locs1 (cells + 2) (slots + 12) Q (F0 m 1472 ls1 [])) : W p l e room_1 s m #[.ref b] below meth c H locs cells slots Q (F0 m 517 ls []) := by
  obtain ⟨z, f, zt, ft, en, B, Kf, nx, ct, Zh, Fh, Zs, Fs, sv, tn, tf, O, ho, th, tl, G, Hh, Sl, Sv, Tx, ⟨M, h, sl, tx, hR, hG, hM, hH, hHh, hho, hh6, hXS, hSl, hXt, hMt, ht80, hk⟩, hP, hD⟩ := hI
  obtain ⟨hx, hb, hml, hown, hts, hX, hbl, hK, hT, hC, hZ, hfl, hL⟩ := id C
  have hA : ∀ q : Nat, s.heap.size ≤ q → (fun q : Nat => s.heap.size ≤ q) q := fun _ h => h
  have hl : lv_has ls 7 [(4, .int (iI (i : Int))), (0, .ref b), (1, .ref (ad 0)), (2, .ref m0), (3, .ref o0)] := hl
  obtain ⟨x, ex⟩ : ∃ x : Int, (xs ((i : Int) + 1).toNat).toInt = x := ⟨_, rfl⟩
  have hx1 : -2147483648 ≤ x ∧ x < 2147483648 := by rw [← ex]; exact ⟨iI_lo _, iI_hi _⟩
  refine lv_aload_n hx hb dL_law_517 rfl (lv_at hl 2 rfl) ?_
  refine z_arg C hS (lv_at hl 1 rfl) (lv_at hl 0 rfl) (by omega) (by omega) ex dL_law_518 dL_law_519 dL_law_521 dL_law_522 dL_law_523 ?_
  refine lv_aload_n hx hb dL_law_524 rfl (lv_at hl 4 rfl) ?_
  refine z_hSi (n := 3) (As := [.ref (ad 0), .int (iI x), .ref o0]) (rest := []) ⟨hx, hb, hml, hown, hts⟩ (c_L_lineLetter l hfl D cy ad z f M x o0 O hR hM hx1) gL_law_L_lineLetter rfl (by decide +kernel) ⟨Nat.le_of_ble_eq_true rfl, Nat.le_of_ble_eq_true rfl⟩ hK hT hC hZ hS (Fp.blocks hP hD hS hA (cs := [wTop ad, wSt cy ad 1 z f, wOt cy o0 O]) (nb := fun (u : (Nat → Int64)) => [wTop ad, wSt cy ad 1 z f, wOt cy o0 u]) (nbs := fun (u : (Nat → Int64)) => LBs cy ad o0 m0 a0 p0 q0 v0 t0 z f zt ft en B Kf nx ct Zh Fh Zs Fs sv tn tf u ho th tl G Hh Sl Sv Tx) [0, 1, 17] rfl rfl rfl (fun _ => rfl) (fun _ => rfl) (fun _ => rfl)) rfl hl.1 rfl (Nat.le_of_ble_eq_true rfl) dL_law_525 ⟨Nat.le_trans (by omega) hro.1, Nat.le_trans (by omega) hro.2⟩ (fun r_1 u_1 H locs hw_1 hP hD hS => ?_)
  obtain ⟨O_1, rfl⟩ : ∃ w, w = u_1 := ⟨_, rfl⟩
  have hw_1 : (r_1 = iI 0 ∧ ∃ v : Int32, ((0 ≤ x ∧ x < (M.1.length : Int)) ∧ v = gl M.1 x.toNat) ∧ O_1 0 = lI v.toInt) ∨ (r_1 = iI 1 ∧ (¬ (0 ≤ x ∧ x < (M.1.length : Int)))) := hw_1
  have hP : va_P D vwCl (LBs cy ad o0 m0 a0 p0 q0 v0 t0 z f zt ft en B Kf nx ct Zh Fh Zs Fs sv tn tf O_1 ho th tl G Hh Sl Sv Tx).flatten H := hP
  have hD : va_D (fun q : Nat => s.heap.size ≤ q) (LBs cy ad o0 m0 a0 p0 q0 v0 t0 z f zt ft en B Kf nx ct Zh Fh Zs Fs sv tn tf O_1 ho th tl G Hh Sl Sv Tx).flatten := hD
  refine lv_istore (lv' := [(5, .int r_1), (4, .int (iI (i : Int))), (0, .ref b), (1, .ref (ad 0)), (2, .ref m0), (3, .ref o0)]) hx hb dL_law_528 hl (by decide) rfl (fun ls hl => ?_)
  refine lv_aload_n hx hb dL_law_530 rfl (lv_at hl 4 rfl) ?_
  refine z_arg C hS (lv_at hl 2 rfl) (lv_at hl 1 rfl) (by omega) (by omega) ex dL_law_531 dL_law_532 dL_law_534 dL_law_535 dL_law_536 ?_
  refine z_gVi (n := 1) (b := m0) (As := [.int (iI x)]) (rest := []) ⟨hx, hb, hml, hown, hts⟩ (c_X5_lineLetter l D cy m0 a0 p0 q0 v0 t0 ho th tl G M x hG hM hx1) gL_law_X5_lineLetter rfl (by decide +kernel) ⟨Nat.le_of_ble_eq_true rfl, Nat.le_of_ble_eq_true rfl⟩ hK hT hP hS (Fp.blocks hP hD hS hA (cs := [wMo m0 a0 p0 q0 v0 t0 ho th tl, wMa cy a0 144 G]) (nb := fun (u : Int) => [wMo m0 a0 p0 q0 v0 t0 ho u tl, wMa cy a0 144 G]) (nbs := fun (u : Int) => LBs cy ad o0 m0 a0 p0 q0 v0 t0 z f zt ft en B Kf nx ct Zh Fh Zs Fs sv tn tf O_1 ho u tl G Hh Sl Sv Tx) [18, 19] rfl rfl rfl (fun _ => rfl) (fun _ => rfl) (fun _ => rfl)) 81 5 rfl rfl rfl rfl hl.1 rfl (Nat.le_of_ble_eq_true rfl) dL_law_537 ⟨Nat.le_trans (by omega) hro.1, Nat.le_trans (by omega) hro.2⟩ (fun r_2 u_2 H locs hw_2 hP hD hS => ?_)
  obtain ⟨th_2, rfl⟩ : ∃ w, w = u_2 := ⟨_, rfl⟩
  have hw_2 : ((0 ≤ x ∧ x < (M.1.length : Int)) ∧ r_2 = gl M.1 x.toNat ∧ th_2 = 0) ∨ (¬ (0 ≤ x ∧ x < (M.1.length : Int)) ∧ r_2 = iI 0 ∧ th_2 = 1) := hw_2
  have hP : va_P D vwCl (LBs cy ad o0 m0 a0 p0 q0 v0 t0 z f zt ft en B Kf nx ct Zh Fh Zs Fs sv tn tf O_1 ho th_2 tl G Hh Sl Sv Tx).flatten H := hP
  have hD : va_D (fun q : Nat => s.heap.size ≤ q) (LBs cy ad o0 m0 a0 p0 q0 v0 t0 z f zt ft en B Kf nx ct Zh Fh Zs Fs sv tn tf O_1 ho th_2 tl G Hh Sl Sv Tx).flatten := hD
  have hj : r_1 = iI th_2 ∧ (r_1 = iI 0 → O_1 0 = lI r_2.toInt) ∧ LJ z f Kf nx ct Zh Fh Zs Fs sv tn tf ho tl G Hh Sl Sv Tx := by
    rcases hw_1 with ⟨e1, v, ⟨c1, ev⟩, eo⟩ | ⟨e1, c1⟩
    · --
      rcases hw_2 with ⟨c2, e2, et⟩ | ⟨c2, e2, et⟩
      · --
        exact ⟨by rw [e1, et], fun _ => by rw [eo, ev, e2], ⟨M, h, sl, tx, hR, hG, hM, hH, hHh, hho, hh6, hXS, hSl, hXt, hMt, ht80, hk⟩⟩
      · --
        first | exact absurd c1 c2 | exact absurd c2 c1 | (exfalso; omega)
    · --
      rcases hw_2 with ⟨c2, e2, et⟩ | ⟨c2, e2, et⟩
      · --
        first | exact absurd c1 c2 | exact absurd c2 c1 | (exfalso; omega)
      · --
        exact ⟨by rw [e1, et], fun q => absurd (e1.symm.trans q) (by decide), ⟨M, h, sl, tx, hR, hG, hM, hH, hHh, hho, hh6, hXS, hSl, hXt, hMt, ht80, hk⟩⟩
  refine lv_istore (lv' := [(6, .int r_2), (5, .int r_1), (4, .int (iI (i : Int))), (0, .ref b), (1, .ref (ad 0)), (2, .ref m0), (3, .ref o0)]) hx hb dL_law_540 hl (by decide) rfl (fun ls hl => ?_)
  exact z_tail C (T := 542) ⟨dL_law_542, dL_law_543, dL_law_546, dL_law_548, dL_law_553, dL_law_555, dL_law_558, dL_law_559, dL_law_560, dL_law_561, dL_law_563, dL_law_564, dL_law_565, dL_law_570⟩ (by decide) hP hD hS ⟨Nat.le_trans (by omega) hro.1, Nat.le_trans (by omega) hro.2⟩ hl hj.1 hj.2.1 hj.2.2 (fun H1 locs1 ls1 a1 a2 a3 => W.widen (k := cells + 2) (n := slots + 12) (by omega) (by omega) (kk H1 locs1 ls1 a1 a2 a3))
set_option maxHeartbeats 4000000 in
set_option maxRecDepth 100000 in
theorem k_wordLetter {p : Program} {l : Launch} {e : Env} {s : State} {m : MethodId} {below : List Frame} {meth : Method} {c : Code} {H : Heap} {locs : List Loc} {cells slots : Nat} {Q : State → Prop} {ls : Array Slot} {D : va_G} {cy : Nat → ClassId} {b L : Nat} {xs : Nat → Int32} {i : Nat} {ad : Nat → Nat} {o0 m0 a0 p0 q0 v0 t0 : Nat} (C : LC p l s m c b L xs D cy) (hi : (i : Int) + 2 < L) (hI : LI D cy ad o0 m0 a0 p0 q0 v0 t0 (fun q : Nat => s.heap.size ≤ q) H) (hS : va_S (fun q : Nat => s.heap.size ≤ q) s.heap H locs) (hro : cells + 2 ≤ 601024 ∧ slots + 12 ≤ 7293034) (hl : lv_has ls 7 (lvL i b (ad 0) m0 o0)) (kk : ∀ (H1 : Heap) (locs1 : List Loc) (ls1 : Array Slot), LI D cy ad o0 m0 a0 p0 q0 v0 t0 (fun q : Nat => s.heap.size ≤ q) H1 → va_S (fun q : Nat => s.heap.size ≤ q) s.heap H1 locs1 → lv_has ls1 7 (lvL i b (ad 0) m0 o0) → W p l e room_1 s m #[.ref b] below meth c H1 locs1 (cells + 2) (slots + 12) Q (F0 m 1472 ls1 [])) : W p l e room_1 s m #[.ref b] below meth c H locs cells slots Q (F0 m 573 ls []) := by
  obtain ⟨z, f, zt, ft, en, B, Kf, nx, ct, Zh, Fh, Zs, Fs, sv, tn, tf, O, ho, th, tl, G, Hh, Sl, Sv, Tx, ⟨M, h, sl, tx, hR, hG, hM, hH, hHh, hho, hh6, hXS, hSl, hXt, hMt, ht80, hk⟩, hP, hD⟩ := hI
  obtain ⟨hx, hb, hml, hown, hts, hX, hbl, hK, hT, hC, hZ, hfl, hL⟩ := id C
  have hA : ∀ q : Nat, s.heap.size ≤ q → (fun q : Nat => s.heap.size ≤ q) q := fun _ h => h
  have hl : lv_has ls 7 [(4, .int (iI (i : Int))), (0, .ref b), (1, .ref (ad 0)), (2, .ref m0), (3, .ref o0)] := hl
  obtain ⟨x, ex⟩ : ∃ x : Int, (xs ((i : Int) + 1).toNat).toInt = x := ⟨_, rfl⟩
  have hx1 : -2147483648 ≤ x ∧ x < 2147483648 := by rw [← ex]; exact ⟨iI_lo _, iI_hi _⟩
  refine lv_aload_n hx hb dL_law_573 rfl (lv_at hl 2 rfl) ?_
  refine z_arg C hS (lv_at hl 1 rfl) (lv_at hl 0 rfl) (by omega) (by omega) ex dL_law_574 dL_law_575 dL_law_577 dL_law_578 dL_law_579 ?_
  refine lv_aload_n hx hb dL_law_580 rfl (lv_at hl 4 rfl) ?_
  refine z_hSi (n := 3) (As := [.ref (ad 0), .int (iI x), .ref o0]) (rest := []) ⟨hx, hb, hml, hown, hts⟩ (c_L_wordLetter l hfl D cy ad z f M x o0 O hR hM hx1) gL_law_L_wordLetter rfl (by decide +kernel) ⟨Nat.le_of_ble_eq_true rfl, Nat.le_of_ble_eq_true rfl⟩ hK hT hC hZ hS (Fp.blocks hP hD hS hA (cs := [wTop ad, wSt cy ad 1 z f, wOt cy o0 O]) (nb := fun (u : (Nat → Int64)) => [wTop ad, wSt cy ad 1 z f, wOt cy o0 u]) (nbs := fun (u : (Nat → Int64)) => LBs cy ad o0 m0 a0 p0 q0 v0 t0 z f zt ft en B Kf nx ct Zh Fh Zs Fs sv tn tf u ho th tl G Hh Sl Sv Tx) [0, 1, 17] rfl rfl rfl (fun _ => rfl) (fun _ => rfl) (fun _ => rfl)) rfl hl.1 rfl (Nat.le_of_ble_eq_true rfl) dL_law_581 ⟨Nat.le_trans (by omega) hro.1, Nat.le_trans (by omega) hro.2⟩ (fun r_1 u_1 H locs hw_1 hP hD hS => ?_)
  obtain ⟨O_1, rfl⟩ : ∃ w, w = u_1 := ⟨_, rfl⟩
  have hw_1 : (r_1 = iI 0 ∧ ∃ v : Int32, ((0 ≤ x ∧ x < (M.2.1.length : Int)) ∧ v = gl M.2.1 x.toNat) ∧ O_1 0 = lI v.toInt) ∨ (r_1 = iI 1 ∧ (¬ (0 ≤ x ∧ x < (M.2.1.length : Int)))) := hw_1
  have hP : va_P D vwCl (LBs cy ad o0 m0 a0 p0 q0 v0 t0 z f zt ft en B Kf nx ct Zh Fh Zs Fs sv tn tf O_1 ho th tl G Hh Sl Sv Tx).flatten H := hP
  have hD : va_D (fun q : Nat => s.heap.size ≤ q) (LBs cy ad o0 m0 a0 p0 q0 v0 t0 z f zt ft en B Kf nx ct Zh Fh Zs Fs sv tn tf O_1 ho th tl G Hh Sl Sv Tx).flatten := hD
  refine lv_istore (lv' := [(5, .int r_1), (4, .int (iI (i : Int))), (0, .ref b), (1, .ref (ad 0)), (2, .ref m0), (3, .ref o0)]) hx hb dL_law_584 hl (by decide) rfl (fun ls hl => ?_)
  refine lv_aload_n hx hb dL_law_586 rfl (lv_at hl 4 rfl) ?_
  refine z_arg C hS (lv_at hl 2 rfl) (lv_at hl 1 rfl) (by omega) (by omega) ex dL_law_587 dL_law_588 dL_law_590 dL_law_591 dL_law_592 ?_
  refine z_gVi (n := 1) (b := m0) (As := [.int (iI x)]) (rest := []) ⟨hx, hb, hml, hown, hts⟩ (c_X5_wordLetter l D cy m0 a0 p0 q0 v0 t0 ho th tl G M x hG hM hx1) gL_law_X5_wordLetter rfl (by decide +kernel) ⟨Nat.le_of_ble_eq_true rfl, Nat.le_of_ble_eq_true rfl⟩ hK hT hP hS (Fp.blocks hP hD hS hA (cs := [wMo m0 a0 p0 q0 v0 t0 ho th tl, wMa cy a0 144 G]) (nb := fun (u : Int) => [wMo m0 a0 p0 q0 v0 t0 ho u tl, wMa cy a0 144 G]) (nbs := fun (u : Int) => LBs cy ad o0 m0 a0 p0 q0 v0 t0 z f zt ft en B Kf nx ct Zh Fh Zs Fs sv tn tf O_1 ho u tl G Hh Sl Sv Tx) [18, 19] rfl rfl rfl (fun _ => rfl) (fun _ => rfl) (fun _ => rfl)) 81 5 rfl rfl rfl rfl hl.1 rfl (Nat.le_of_ble_eq_true rfl) dL_law_593 ⟨Nat.le_trans (by omega) hro.1, Nat.le_trans (by omega) hro.2⟩ (fun r_2 u_2 H locs hw_2 hP hD hS => ?_)
  obtain ⟨th_2, rfl⟩ : ∃ w, w = u_2 := ⟨_, rfl⟩
  have hw_2 : ((0 ≤ x ∧ x < (M.2.1.length : Int)) ∧ r_2 = gl M.2.1 x.toNat ∧ th_2 = 0) ∨ (¬ (0 ≤ x ∧ x < (M.2.1.length : Int)) ∧ r_2 = iI 0 ∧ th_2 = 1) := hw_2
  have hP : va_P D vwCl (LBs cy ad o0 m0 a0 p0 q0 v0 t0 z f zt ft en B Kf nx ct Zh Fh Zs Fs sv tn tf O_1 ho th_2 tl G Hh Sl Sv Tx).flatten H := hP
  have hD : va_D (fun q : Nat => s.heap.size ≤ q) (LBs cy ad o0 m0 a0 p0 q0 v0 t0 z f zt ft en B Kf nx ct Zh Fh Zs Fs sv tn tf O_1 ho th_2 tl G Hh Sl Sv Tx).flatten := hD
  have hj : r_1 = iI th_2 ∧ (r_1 = iI 0 → O_1 0 = lI r_2.toInt) ∧ LJ z f Kf nx ct Zh Fh Zs Fs sv tn tf ho tl G Hh Sl Sv Tx := by
    rcases hw_1 with ⟨e1, v, ⟨c1, ev⟩, eo⟩ | ⟨e1, c1⟩
    · --
      rcases hw_2 with ⟨c2, e2, et⟩ | ⟨c2, e2, et⟩
      · --
        exact ⟨by rw [e1, et], fun _ => by rw [eo, ev, e2], ⟨M, h, sl, tx, hR, hG, hM, hH, hHh, hho, hh6, hXS, hSl, hXt, hMt, ht80, hk⟩⟩
      · --
        first | exact absurd c1 c2 | exact absurd c2 c1 | (exfalso; omega)
    · --
      rcases hw_2 with ⟨c2, e2, et⟩ | ⟨c2, e2, et⟩
      · --
        first | exact absurd c1 c2 | exact absurd c2 c1 | (exfalso; omega)
      · --
        exact ⟨by rw [e1, et], fun q => absurd (e1.symm.trans q) (by decide), ⟨M, h, sl, tx, hR, hG, hM, hH, hHh, hho, hh6, hXS, hSl, hXt, hMt, ht80, hk⟩⟩
  refine lv_istore (lv' := [(6, .int r_2), (5, .int r_1), (4, .int (iI (i : Int))), (0, .ref b), (1, .ref (ad 0)), (2, .ref m0), (3, .ref o0)]) hx hb dL_law_596 hl (by decide) rfl (fun ls hl => ?_)
  exact z_tail C (T := 598) ⟨dL_law_598, dL_law_599, dL_law_602, dL_law_604, dL_law_609, dL_law_611, dL_law_614, dL_law_615, dL_law_616, dL_law_617, dL_law_619, dL_law_620, dL_law_621, dL_law_626⟩ (by decide) hP hD hS ⟨Nat.le_trans (by omega) hro.1, Nat.le_trans (by omega) hro.2⟩ hl hj.1 hj.2.1 hj.2.2 (fun H1 locs1 ls1 a1 a2 a3 => W.widen (k := cells + 2) (n := slots + 12) (by omega) (by omega) (kk H1 locs1 ls1 a1 a2 a3))
set_option maxHeartbeats 4000000 in
set_option maxRecDepth 100000 in
theorem k_place {p : Program} {l : Launch} {e : Env} {s : State} {m : MethodId} {below : List Frame} {meth : Method} {c : Code} {H : Heap} {locs : List Loc} {cells slots : Nat} {Q : State → Prop} {ls : Array Slot} {D : va_G} {cy : Nat → ClassId} {b L : Nat} {xs : Nat → Int32} {i : Nat} {ad : Nat → Nat} {o0 m0 a0 p0 q0 v0 t0 : Nat} (C : LC p l s m c b L xs D cy) (hi : (i : Int) + 2 < L) (hI : LI D cy ad o0 m0 a0 p0 q0 v0 t0 (fun q : Nat => s.heap.size ≤ q) H) (hS : va_S (fun q : Nat => s.heap.size ≤ q) s.heap H locs) (hro : cells + 2 ≤ 601024 ∧ slots + 12 ≤ 7293034) (hl : lv_has ls 7 (lvL i b (ad 0) m0 o0)) (kk : ∀ (H1 : Heap) (locs1 : List Loc) (ls1 : Array Slot), LI D cy ad o0 m0 a0 p0 q0 v0 t0 (fun q : Nat => s.heap.size ≤ q) H1 → va_S (fun q : Nat => s.heap.size ≤ q) s.heap H1 locs1 → lv_has ls1 7 (lvL i b (ad 0) m0 o0) → W p l e room_1 s m #[.ref b] below meth c H1 locs1 (cells + 2) (slots + 12) Q (F0 m 1472 ls1 [])) : W p l e room_1 s m #[.ref b] below meth c H locs cells slots Q (F0 m 629 ls []) := by
  obtain ⟨z, f, zt, ft, en, B, Kf, nx, ct, Zh, Fh, Zs, Fs, sv, tn, tf, O, ho, th, tl, G, Hh, Sl, Sv, Tx, ⟨M, h, sl, tx, hR, hG, hM, hH, hHh, hho, hh6, hXS, hSl, hXt, hMt, ht80, hk⟩, hP, hD⟩ := hI
  obtain ⟨hx, hb, hml, hown, hts, hX, hbl, hK, hT, hC, hZ, hfl, hL⟩ := id C
  have hA : ∀ q : Nat, s.heap.size ≤ q → (fun q : Nat => s.heap.size ≤ q) q := fun _ h => h
  have hl : lv_has ls 7 [(4, .int (iI (i : Int))), (0, .ref b), (1, .ref (ad 0)), (2, .ref m0), (3, .ref o0)] := hl
  refine lv_aload_n hx hb dL_law_629 rfl (lv_at hl 2 rfl) ?_
  refine z_gVi (n := 0) (b := ad 0) (As := []) (rest := []) ⟨hx, hb, hml, hown, hts⟩ (c_X4_place l D cy ad z f M hR hM) gL_law_X4_place rfl (by decide +kernel) ⟨Nat.le_of_ble_eq_true rfl, Nat.le_of_ble_eq_true rfl⟩ hK hT hP hS (Fp.same hP hD hS hA [0, 1, 2, 3, 4, 5, 6, 7] rfl rfl (fun _ => rfl)) 0 4 rfl rfl rfl rfl hl.1 rfl (Nat.le_of_ble_eq_true rfl) dL_law_630 ⟨Nat.le_trans (by omega) hro.1, Nat.le_trans (by omega) hro.2⟩ (fun r_1 u_1 H locs hw_1 hP hD hS => ?_)
  have hw_1 : r_1 = iI M.2.2.2.2.2.1 := hw_1
  have hP : va_P D vwCl (LBs cy ad o0 m0 a0 p0 q0 v0 t0 z f zt ft en B Kf nx ct Zh Fh Zs Fs sv tn tf O ho th tl G Hh Sl Sv Tx).flatten H := hP
  have hD : va_D (fun q : Nat => s.heap.size ≤ q) (LBs cy ad o0 m0 a0 p0 q0 v0 t0 z f zt ft en B Kf nx ct Zh Fh Zs Fs sv tn tf O ho th tl G Hh Sl Sv Tx).flatten := hD
  refine lv_aload_n hx hb dL_law_633 rfl (lv_at hl 3 rfl) ?_
  refine z_gVi (n := 0) (b := m0) (As := []) (rest := [.int r_1]) ⟨hx, hb, hml, hown, hts⟩ (c_X5_place l D cy m0 a0 p0 q0 v0 t0 ho th tl G M hG hM) gL_law_X5_place rfl (by decide +kernel) ⟨Nat.le_of_ble_eq_true rfl, Nat.le_of_ble_eq_true rfl⟩ hK hT hP hS (Fp.blocks hP hD hS hA (cs := [wMo m0 a0 p0 q0 v0 t0 ho th tl, wMa cy a0 144 G]) (nb := fun (u : Unit) => [wMo m0 a0 p0 q0 v0 t0 ho (0 : Int) tl, wMa cy a0 144 G]) (nbs := fun (u : Unit) => LBs cy ad o0 m0 a0 p0 q0 v0 t0 z f zt ft en B Kf nx ct Zh Fh Zs Fs sv tn tf O ho (0 : Int) tl G Hh Sl Sv Tx) [18, 19] rfl rfl rfl (fun _ => rfl) (fun _ => rfl) (fun _ => rfl)) 81 5 rfl rfl rfl rfl hl.1 rfl (Nat.le_of_ble_eq_true rfl) dL_law_634 ⟨Nat.le_trans (by omega) hro.1, Nat.le_trans (by omega) hro.2⟩ (fun r_2 u_2 H locs hw_2 hP hD hS => ?_)
  have hw_2 : r_2 = iI M.2.2.2.2.2.1 := hw_2
  have hP : va_P D vwCl (LBs cy ad o0 m0 a0 p0 q0 v0 t0 z f zt ft en B Kf nx ct Zh Fh Zs Fs sv tn tf O ho (0 : Int) tl G Hh Sl Sv Tx).flatten H := hP
  have hD : va_D (fun q : Nat => s.heap.size ≤ q) (LBs cy ad o0 m0 a0 p0 q0 v0 t0 z f zt ft en B Kf nx ct Zh Fh Zs Fs sv tn tf O ho (0 : Int) tl G Hh Sl Sv Tx).flatten := hD
  have hj : r_1 = r_2 ∧ LJ z f Kf nx ct Zh Fh Zs Fs sv tn tf ho tl G Hh Sl Sv Tx := by
    have e1 := hw_1
    have e2 := hw_2
    exact ⟨e1.trans e2.symm, ⟨M, h, sl, tx, hR, hG, hM, hH, hHh, hho, hh6, hXS, hSl, hXt, hMt, ht80, hk⟩⟩
  refine lv_icmp_eq (tgt := 1472) hx hb dL_law_637 (by decide) (fun _ => ?_) (fun q => absurd hj.1 q)
  exact (fun H1 locs1 ls1 a1 a2 a3 => W.widen (k := cells + 2) (n := slots + 12) (by omega) (by omega) (kk H1 locs1 ls1 a1 a2 a3)) _ _ _ ⟨z, f, zt, ft, en, B, Kf, nx, ct, Zh, Fh, Zs, Fs, sv, tn, tf, O, ho, (0 : Int), tl, G, Hh, Sl, Sv, Tx, hj.2, hP, hD⟩ hS hl
set_option maxHeartbeats 4000000 in
set_option maxRecDepth 100000 in
theorem k_isOver {p : Program} {l : Launch} {e : Env} {s : State} {m : MethodId} {below : List Frame} {meth : Method} {c : Code} {H : Heap} {locs : List Loc} {cells slots : Nat} {Q : State → Prop} {ls : Array Slot} {D : va_G} {cy : Nat → ClassId} {b L : Nat} {xs : Nat → Int32} {i : Nat} {ad : Nat → Nat} {o0 m0 a0 p0 q0 v0 t0 : Nat} (C : LC p l s m c b L xs D cy) (hi : (i : Int) + 2 < L) (hI : LI D cy ad o0 m0 a0 p0 q0 v0 t0 (fun q : Nat => s.heap.size ≤ q) H) (hS : va_S (fun q : Nat => s.heap.size ≤ q) s.heap H locs) (hro : cells + 2 ≤ 601024 ∧ slots + 12 ≤ 7293034) (hl : lv_has ls 7 (lvL i b (ad 0) m0 o0)) (kk : ∀ (H1 : Heap) (locs1 : List Loc) (ls1 : Array Slot), LI D cy ad o0 m0 a0 p0 q0 v0 t0 (fun q : Nat => s.heap.size ≤ q) H1 → va_S (fun q : Nat => s.heap.size ≤ q) s.heap H1 locs1 → lv_has ls1 7 (lvL i b (ad 0) m0 o0) → W p l e room_1 s m #[.ref b] below meth c H1 locs1 (cells + 2) (slots + 12) Q (F0 m 1472 ls1 [])) : W p l e room_1 s m #[.ref b] below meth c H locs cells slots Q (F0 m 642 ls []) := by
  obtain ⟨z, f, zt, ft, en, B, Kf, nx, ct, Zh, Fh, Zs, Fs, sv, tn, tf, O, ho, th, tl, G, Hh, Sl, Sv, Tx, ⟨M, h, sl, tx, hR, hG, hM, hH, hHh, hho, hh6, hXS, hSl, hXt, hMt, ht80, hk⟩, hP, hD⟩ := hI
  obtain ⟨hx, hb, hml, hown, hts, hX, hbl, hK, hT, hC, hZ, hfl, hL⟩ := id C
  have hA : ∀ q : Nat, s.heap.size ≤ q → (fun q : Nat => s.heap.size ≤ q) q := fun _ h => h
  have hl : lv_has ls 7 [(4, .int (iI (i : Int))), (0, .ref b), (1, .ref (ad 0)), (2, .ref m0), (3, .ref o0)] := hl
  refine lv_aload_n hx hb dL_law_642 rfl (lv_at hl 2 rfl) ?_
  refine z_gVi (n := 0) (b := ad 0) (As := []) (rest := []) ⟨hx, hb, hml, hown, hts⟩ (c_X4_isOver l D cy ad z f M hR hM) gL_law_X4_isOver rfl (by decide +kernel) ⟨Nat.le_of_ble_eq_true rfl, Nat.le_of_ble_eq_true rfl⟩ hK hT hP hS (Fp.same hP hD hS hA [0, 1, 2, 3, 4, 5, 6, 7] rfl rfl (fun _ => rfl)) 0 4 rfl rfl rfl rfl hl.1 rfl (Nat.le_of_ble_eq_true rfl) dL_law_643 ⟨Nat.le_trans (by omega) hro.1, Nat.le_trans (by omega) hro.2⟩ (fun r_1 u_1 H locs hw_1 hP hD hS => ?_)
  have hw_1 : ((mOver M) ∧ r_1 = iI 1) ∨ (¬ (mOver M) ∧ r_1 = iI 0) := hw_1
  have hP : va_P D vwCl (LBs cy ad o0 m0 a0 p0 q0 v0 t0 z f zt ft en B Kf nx ct Zh Fh Zs Fs sv tn tf O ho th tl G Hh Sl Sv Tx).flatten H := hP
  have hD : va_D (fun q : Nat => s.heap.size ≤ q) (LBs cy ad o0 m0 a0 p0 q0 v0 t0 z f zt ft en B Kf nx ct Zh Fh Zs Fs sv tn tf O ho th tl G Hh Sl Sv Tx).flatten := hD
  refine lv_aload_n hx hb dL_law_646 rfl (lv_at hl 3 rfl) ?_
  refine z_gVi (n := 0) (b := m0) (As := []) (rest := [.int r_1]) ⟨hx, hb, hml, hown, hts⟩ (c_X5_isOver l D cy m0 a0 p0 q0 v0 t0 ho th tl G M hG hM) gL_law_X5_isOver rfl (by decide +kernel) ⟨Nat.le_of_ble_eq_true rfl, Nat.le_of_ble_eq_true rfl⟩ hK hT hP hS (Fp.blocks hP hD hS hA (cs := [wMo m0 a0 p0 q0 v0 t0 ho th tl, wMa cy a0 144 G]) (nb := fun (u : Unit) => [wMo m0 a0 p0 q0 v0 t0 ho (0 : Int) tl, wMa cy a0 144 G]) (nbs := fun (u : Unit) => LBs cy ad o0 m0 a0 p0 q0 v0 t0 z f zt ft en B Kf nx ct Zh Fh Zs Fs sv tn tf O ho (0 : Int) tl G Hh Sl Sv Tx) [18, 19] rfl rfl rfl (fun _ => rfl) (fun _ => rfl) (fun _ => rfl)) 81 5 rfl rfl rfl rfl hl.1 rfl (Nat.le_of_ble_eq_true rfl) dL_law_647 ⟨Nat.le_trans (by omega) hro.1, Nat.le_trans (by omega) hro.2⟩ (fun r_2 u_2 H locs hw_2 hP hD hS => ?_)
  have hw_2 : ((mOver M) ∧ r_2 = iI 1) ∨ (¬ (mOver M) ∧ r_2 = iI 0) := hw_2
  have hP : va_P D vwCl (LBs cy ad o0 m0 a0 p0 q0 v0 t0 z f zt ft en B Kf nx ct Zh Fh Zs Fs sv tn tf O ho (0 : Int) tl G Hh Sl Sv Tx).flatten H := hP
  have hD : va_D (fun q : Nat => s.heap.size ≤ q) (LBs cy ad o0 m0 a0 p0 q0 v0 t0 z f zt ft en B Kf nx ct Zh Fh Zs Fs sv tn tf O ho (0 : Int) tl G Hh Sl Sv Tx).flatten := hD
  have hj : r_1 = r_2 ∧ LJ z f Kf nx ct Zh Fh Zs Fs sv tn tf ho tl G Hh Sl Sv Tx := by
    rcases hw_1 with ⟨c1, e1⟩ | ⟨c1, e1⟩
    · --
      rcases hw_2 with ⟨c2, e2⟩ | ⟨c2, e2⟩
      · --
        exact ⟨e1.trans e2.symm, ⟨M, h, sl, tx, hR, hG, hM, hH, hHh, hho, hh6, hXS, hSl, hXt, hMt, ht80, hk⟩⟩
      · --
        first | exact absurd c1 c2 | exact absurd c2 c1 | (exfalso; omega)
    · --
      rcases hw_2 with ⟨c2, e2⟩ | ⟨c2, e2⟩
      · --
        first | exact absurd c1 c2 | exact absurd c2 c1 | (exfalso; omega)
      · --
        exact ⟨e1.trans e2.symm, ⟨M, h, sl, tx, hR, hG, hM, hH, hHh, hho, hh6, hXS, hSl, hXt, hMt, ht80, hk⟩⟩
  refine lv_icmp_eq (tgt := 1472) hx hb dL_law_650 (by decide) (fun _ => ?_) (fun q => absurd hj.1 q)
  exact (fun H1 locs1 ls1 a1 a2 a3 => W.widen (k := cells + 2) (n := slots + 12) (by omega) (by omega) (kk H1 locs1 ls1 a1 a2 a3)) _ _ _ ⟨z, f, zt, ft, en, B, Kf, nx, ct, Zh, Fh, Zs, Fs, sv, tn, tf, O, ho, (0 : Int), tl, G, Hh, Sl, Sv, Tx, hj.2, hP, hD⟩ hS hl
set_option maxHeartbeats 4000000 in
set_option maxRecDepth 100000 in
theorem k_lookCount {p : Program} {l : Launch} {e : Env} {s : State} {m : MethodId} {below : List Frame} {meth : Method} {c : Code} {H : Heap} {locs : List Loc} {cells slots : Nat} {Q : State → Prop} {ls : Array Slot} {D : va_G} {cy : Nat → ClassId} {b L : Nat} {xs : Nat → Int32} {i : Nat} {ad : Nat → Nat} {o0 m0 a0 p0 q0 v0 t0 : Nat} (C : LC p l s m c b L xs D cy) (hi : (i : Int) + 2 < L) (hI : LI D cy ad o0 m0 a0 p0 q0 v0 t0 (fun q : Nat => s.heap.size ≤ q) H) (hS : va_S (fun q : Nat => s.heap.size ≤ q) s.heap H locs) (hro : cells + 2 ≤ 601024 ∧ slots + 12 ≤ 7293034) (hl : lv_has ls 7 (lvL i b (ad 0) m0 o0)) (kk : ∀ (H1 : Heap) (locs1 : List Loc) (ls1 : Array Slot), LI D cy ad o0 m0 a0 p0 q0 v0 t0 (fun q : Nat => s.heap.size ≤ q) H1 → va_S (fun q : Nat => s.heap.size ≤ q) s.heap H1 locs1 → lv_has ls1 7 (lvL i b (ad 0) m0 o0) → W p l e room_1 s m #[.ref b] below meth c H1 locs1 (cells + 2) (slots + 12) Q (F0 m 1472 ls1 [])) : W p l e room_1 s m #[.ref b] below meth c H locs cells slots Q (F0 m 655 ls []) := by
  obtain ⟨z, f, zt, ft, en, B, Kf, nx, ct, Zh, Fh, Zs, Fs, sv, tn, tf, O, ho, th, tl, G, Hh, Sl, Sv, Tx, ⟨M, h, sl, tx, hR, hG, hM, hH, hHh, hho, hh6, hXS, hSl, hXt, hMt, ht80, hk⟩, hP, hD⟩ := hI
  obtain ⟨hx, hb, hml, hown, hts, hX, hbl, hK, hT, hC, hZ, hfl, hL⟩ := id C
  have hA : ∀ q : Nat, s.heap.size ≤ q → (fun q : Nat => s.heap.size ≤ q) q := fun _ h => h
  have hl : lv_has ls 7 [(4, .int (iI (i : Int))), (0, .ref b), (1, .ref (ad 0)), (2, .ref m0), (3, .ref o0)] := hl
  refine lv_aload_n hx hb dL_law_655 rfl (lv_at hl 2 rfl) ?_
  refine z_gVi (n := 0) (b := ad 0) (As := []) (rest := []) ⟨hx, hb, hml, hown, hts⟩ (c_X4_lookCount l D cy ad z f M hR hM) gL_law_X4_lookCount rfl (by decide +kernel) ⟨Nat.le_of_ble_eq_true rfl, Nat.le_of_ble_eq_true rfl⟩ hK hT hP hS (Fp.same hP hD hS hA [0, 1, 2, 3, 4, 5, 6, 7] rfl rfl (fun _ => rfl)) 0 4 rfl rfl rfl rfl hl.1 rfl (Nat.le_of_ble_eq_true rfl) dL_law_656 ⟨Nat.le_trans (by omega) hro.1, Nat.le_trans (by omega) hro.2⟩ (fun r_1 u_1 H locs hw_1 hP hD hS => ?_)
  have hw_1 : r_1 = iI M.2.2.2.2.2.2.1 := hw_1
  have hP : va_P D vwCl (LBs cy ad o0 m0 a0 p0 q0 v0 t0 z f zt ft en B Kf nx ct Zh Fh Zs Fs sv tn tf O ho th tl G Hh Sl Sv Tx).flatten H := hP
  have hD : va_D (fun q : Nat => s.heap.size ≤ q) (LBs cy ad o0 m0 a0 p0 q0 v0 t0 z f zt ft en B Kf nx ct Zh Fh Zs Fs sv tn tf O ho th tl G Hh Sl Sv Tx).flatten := hD
  refine lv_aload_n hx hb dL_law_659 rfl (lv_at hl 3 rfl) ?_
  refine z_gVi (n := 0) (b := m0) (As := []) (rest := [.int r_1]) ⟨hx, hb, hml, hown, hts⟩ (c_X5_lookCount l D cy m0 a0 p0 q0 v0 t0 ho th tl G M hG hM) gL_law_X5_lookCount rfl (by decide +kernel) ⟨Nat.le_of_ble_eq_true rfl, Nat.le_of_ble_eq_true rfl⟩ hK hT hP hS (Fp.blocks hP hD hS hA (cs := [wMo m0 a0 p0 q0 v0 t0 ho th tl, wMa cy a0 144 G]) (nb := fun (u : Unit) => [wMo m0 a0 p0 q0 v0 t0 ho (0 : Int) tl, wMa cy a0 144 G]) (nbs := fun (u : Unit) => LBs cy ad o0 m0 a0 p0 q0 v0 t0 z f zt ft en B Kf nx ct Zh Fh Zs Fs sv tn tf O ho (0 : Int) tl G Hh Sl Sv Tx) [18, 19] rfl rfl rfl (fun _ => rfl) (fun _ => rfl) (fun _ => rfl)) 81 5 rfl rfl rfl rfl hl.1 rfl (Nat.le_of_ble_eq_true rfl) dL_law_660 ⟨Nat.le_trans (by omega) hro.1, Nat.le_trans (by omega) hro.2⟩ (fun r_2 u_2 H locs hw_2 hP hD hS => ?_)
  have hw_2 : r_2 = iI M.2.2.2.2.2.2.1 := hw_2
  have hP : va_P D vwCl (LBs cy ad o0 m0 a0 p0 q0 v0 t0 z f zt ft en B Kf nx ct Zh Fh Zs Fs sv tn tf O ho (0 : Int) tl G Hh Sl Sv Tx).flatten H := hP
  have hD : va_D (fun q : Nat => s.heap.size ≤ q) (LBs cy ad o0 m0 a0 p0 q0 v0 t0 z f zt ft en B Kf nx ct Zh Fh Zs Fs sv tn tf O ho (0 : Int) tl G Hh Sl Sv Tx).flatten := hD
  have hj : r_1 = r_2 ∧ LJ z f Kf nx ct Zh Fh Zs Fs sv tn tf ho tl G Hh Sl Sv Tx := by
    have e1 := hw_1
    have e2 := hw_2
    exact ⟨e1.trans e2.symm, ⟨M, h, sl, tx, hR, hG, hM, hH, hHh, hho, hh6, hXS, hSl, hXt, hMt, ht80, hk⟩⟩
  refine lv_icmp_eq (tgt := 1472) hx hb dL_law_663 (by decide) (fun _ => ?_) (fun q => absurd hj.1 q)
  exact (fun H1 locs1 ls1 a1 a2 a3 => W.widen (k := cells + 2) (n := slots + 12) (by omega) (by omega) (kk H1 locs1 ls1 a1 a2 a3)) _ _ _ ⟨z, f, zt, ft, en, B, Kf, nx, ct, Zh, Fh, Zs, Fs, sv, tn, tf, O, ho, (0 : Int), tl, G, Hh, Sl, Sv, Tx, hj.2, hP, hD⟩ hS hl
set_option maxHeartbeats 4000000 in
set_option maxRecDepth 100000 in
theorem k_comparedCount {p : Program} {l : Launch} {e : Env} {s : State} {m : MethodId} {below : List Frame} {meth : Method} {c : Code} {H : Heap} {locs : List Loc} {cells slots : Nat} {Q : State → Prop} {ls : Array Slot} {D : va_G} {cy : Nat → ClassId} {b L : Nat} {xs : Nat → Int32} {i : Nat} {ad : Nat → Nat} {o0 m0 a0 p0 q0 v0 t0 : Nat} (C : LC p l s m c b L xs D cy) (hi : (i : Int) + 2 < L) (hI : LI D cy ad o0 m0 a0 p0 q0 v0 t0 (fun q : Nat => s.heap.size ≤ q) H) (hS : va_S (fun q : Nat => s.heap.size ≤ q) s.heap H locs) (hro : cells + 2 ≤ 601024 ∧ slots + 12 ≤ 7293034) (hl : lv_has ls 7 (lvL i b (ad 0) m0 o0)) (kk : ∀ (H1 : Heap) (locs1 : List Loc) (ls1 : Array Slot), LI D cy ad o0 m0 a0 p0 q0 v0 t0 (fun q : Nat => s.heap.size ≤ q) H1 → va_S (fun q : Nat => s.heap.size ≤ q) s.heap H1 locs1 → lv_has ls1 7 (lvL i b (ad 0) m0 o0) → W p l e room_1 s m #[.ref b] below meth c H1 locs1 (cells + 2) (slots + 12) Q (F0 m 1472 ls1 [])) : W p l e room_1 s m #[.ref b] below meth c H locs cells slots Q (F0 m 668 ls []) := by
  obtain ⟨z, f, zt, ft, en, B, Kf, nx, ct, Zh, Fh, Zs, Fs, sv, tn, tf, O, ho, th, tl, G, Hh, Sl, Sv, Tx, ⟨M, h, sl, tx, hR, hG, hM, hH, hHh, hho, hh6, hXS, hSl, hXt, hMt, ht80, hk⟩, hP, hD⟩ := hI
  obtain ⟨hx, hb, hml, hown, hts, hX, hbl, hK, hT, hC, hZ, hfl, hL⟩ := id C
  have hA : ∀ q : Nat, s.heap.size ≤ q → (fun q : Nat => s.heap.size ≤ q) q := fun _ h => h
  have hl : lv_has ls 7 [(4, .int (iI (i : Int))), (0, .ref b), (1, .ref (ad 0)), (2, .ref m0), (3, .ref o0)] := hl
  refine lv_aload_n hx hb dL_law_668 rfl (lv_at hl 2 rfl) ?_
  refine z_gVi (n := 0) (b := ad 0) (As := []) (rest := []) ⟨hx, hb, hml, hown, hts⟩ (c_X4_comparedCount l D cy ad z f M hR hM) gL_law_X4_comparedCount rfl (by decide +kernel) ⟨Nat.le_of_ble_eq_true rfl, Nat.le_of_ble_eq_true rfl⟩ hK hT hP hS (Fp.same hP hD hS hA [0, 1, 2, 3, 4, 5, 6, 7] rfl rfl (fun _ => rfl)) 0 4 rfl rfl rfl rfl hl.1 rfl (Nat.le_of_ble_eq_true rfl) dL_law_669 ⟨Nat.le_trans (by omega) hro.1, Nat.le_trans (by omega) hro.2⟩ (fun r_1 u_1 H locs hw_1 hP hD hS => ?_)
  have hw_1 : r_1 = iI M.2.2.2.2.2.2.2 := hw_1
  have hP : va_P D vwCl (LBs cy ad o0 m0 a0 p0 q0 v0 t0 z f zt ft en B Kf nx ct Zh Fh Zs Fs sv tn tf O ho th tl G Hh Sl Sv Tx).flatten H := hP
  have hD : va_D (fun q : Nat => s.heap.size ≤ q) (LBs cy ad o0 m0 a0 p0 q0 v0 t0 z f zt ft en B Kf nx ct Zh Fh Zs Fs sv tn tf O ho th tl G Hh Sl Sv Tx).flatten := hD
  refine lv_aload_n hx hb dL_law_672 rfl (lv_at hl 3 rfl) ?_
  refine z_gVi (n := 0) (b := m0) (As := []) (rest := [.int r_1]) ⟨hx, hb, hml, hown, hts⟩ (c_X5_comparedCount l D cy m0 a0 p0 q0 v0 t0 ho th tl G M hG hM) gL_law_X5_comparedCount rfl (by decide +kernel) ⟨Nat.le_of_ble_eq_true rfl, Nat.le_of_ble_eq_true rfl⟩ hK hT hP hS (Fp.blocks hP hD hS hA (cs := [wMo m0 a0 p0 q0 v0 t0 ho th tl, wMa cy a0 144 G]) (nb := fun (u : Unit) => [wMo m0 a0 p0 q0 v0 t0 ho (0 : Int) tl, wMa cy a0 144 G]) (nbs := fun (u : Unit) => LBs cy ad o0 m0 a0 p0 q0 v0 t0 z f zt ft en B Kf nx ct Zh Fh Zs Fs sv tn tf O ho (0 : Int) tl G Hh Sl Sv Tx) [18, 19] rfl rfl rfl (fun _ => rfl) (fun _ => rfl) (fun _ => rfl)) 81 5 rfl rfl rfl rfl hl.1 rfl (Nat.le_of_ble_eq_true rfl) dL_law_673 ⟨Nat.le_trans (by omega) hro.1, Nat.le_trans (by omega) hro.2⟩ (fun r_2 u_2 H locs hw_2 hP hD hS => ?_)
  have hw_2 : r_2 = iI M.2.2.2.2.2.2.2 := hw_2
  have hP : va_P D vwCl (LBs cy ad o0 m0 a0 p0 q0 v0 t0 z f zt ft en B Kf nx ct Zh Fh Zs Fs sv tn tf O ho (0 : Int) tl G Hh Sl Sv Tx).flatten H := hP
  have hD : va_D (fun q : Nat => s.heap.size ≤ q) (LBs cy ad o0 m0 a0 p0 q0 v0 t0 z f zt ft en B Kf nx ct Zh Fh Zs Fs sv tn tf O ho (0 : Int) tl G Hh Sl Sv Tx).flatten := hD
  have hj : r_1 = r_2 ∧ LJ z f Kf nx ct Zh Fh Zs Fs sv tn tf ho tl G Hh Sl Sv Tx := by
    have e1 := hw_1
    have e2 := hw_2
    exact ⟨e1.trans e2.symm, ⟨M, h, sl, tx, hR, hG, hM, hH, hHh, hho, hh6, hXS, hSl, hXt, hMt, ht80, hk⟩⟩
  refine lv_icmp_eq (tgt := 1472) hx hb dL_law_676 (by decide) (fun _ => ?_) (fun q => absurd hj.1 q)
  exact (fun H1 locs1 ls1 a1 a2 a3 => W.widen (k := cells + 2) (n := slots + 12) (by omega) (by omega) (kk H1 locs1 ls1 a1 a2 a3)) _ _ _ ⟨z, f, zt, ft, en, B, Kf, nx, ct, Zh, Fh, Zs, Fs, sv, tn, tf, O, ho, (0 : Int), tl, G, Hh, Sl, Sv, Tx, hj.2, hP, hD⟩ hS hl
set_option maxHeartbeats 4000000 in
set_option maxRecDepth 100000 in
theorem k_foundCount {p : Program} {l : Launch} {e : Env} {s : State} {m : MethodId} {below : List Frame} {meth : Method} {c : Code} {H : Heap} {locs : List Loc} {cells slots : Nat} {Q : State → Prop} {ls : Array Slot} {D : va_G} {cy : Nat → ClassId} {b L : Nat} {xs : Nat → Int32} {i : Nat} {ad : Nat → Nat} {o0 m0 a0 p0 q0 v0 t0 : Nat} (C : LC p l s m c b L xs D cy) (hi : (i : Int) + 2 < L) (hI : LI D cy ad o0 m0 a0 p0 q0 v0 t0 (fun q : Nat => s.heap.size ≤ q) H) (hS : va_S (fun q : Nat => s.heap.size ≤ q) s.heap H locs) (hro : cells + 2 ≤ 601024 ∧ slots + 12 ≤ 7293034) (hl : lv_has ls 7 (lvL i b (ad 0) m0 o0)) (kk : ∀ (H1 : Heap) (locs1 : List Loc) (ls1 : Array Slot), LI D cy ad o0 m0 a0 p0 q0 v0 t0 (fun q : Nat => s.heap.size ≤ q) H1 → va_S (fun q : Nat => s.heap.size ≤ q) s.heap H1 locs1 → lv_has ls1 7 (lvL i b (ad 0) m0 o0) → W p l e room_1 s m #[.ref b] below meth c H1 locs1 (cells + 2) (slots + 12) Q (F0 m 1472 ls1 [])) : W p l e room_1 s m #[.ref b] below meth c H locs cells slots Q (F0 m 681 ls []) := by
  obtain ⟨z, f, zt, ft, en, B, Kf, nx, ct, Zh, Fh, Zs, Fs, sv, tn, tf, O, ho, th, tl, G, Hh, Sl, Sv, Tx, ⟨M, h, sl, tx, hR, hG, hM, hH, hHh, hho, hh6, hXS, hSl, hXt, hMt, ht80, hk⟩, hP, hD⟩ := hI
  obtain ⟨hx, hb, hml, hown, hts, hX, hbl, hK, hT, hC, hZ, hfl, hL⟩ := id C
  have hA : ∀ q : Nat, s.heap.size ≤ q → (fun q : Nat => s.heap.size ≤ q) q := fun _ h => h
  have hl : lv_has ls 7 [(4, .int (iI (i : Int))), (0, .ref b), (1, .ref (ad 0)), (2, .ref m0), (3, .ref o0)] := hl
  refine lv_aload_n hx hb dL_law_681 rfl (lv_at hl 2 rfl) ?_
  refine z_gVi (n := 0) (b := ad 0) (As := []) (rest := []) ⟨hx, hb, hml, hown, hts⟩ (c_X4_foundCount l D cy ad z f M hR hM) gL_law_X4_foundCount rfl (by decide +kernel) ⟨Nat.le_of_ble_eq_true rfl, Nat.le_of_ble_eq_true rfl⟩ hK hT hP hS (Fp.same hP hD hS hA [0, 1, 2, 3, 4, 5, 6, 7] rfl rfl (fun _ => rfl)) 0 4 rfl rfl rfl rfl hl.1 rfl (Nat.le_of_ble_eq_true rfl) dL_law_682 ⟨Nat.le_trans (by omega) hro.1, Nat.le_trans (by omega) hro.2⟩ (fun r_1 u_1 H locs hw_1 hP hD hS => ?_)
  have hw_1 : r_1 = iI (M.2.2.1.length : Int) := hw_1
  have hP : va_P D vwCl (LBs cy ad o0 m0 a0 p0 q0 v0 t0 z f zt ft en B Kf nx ct Zh Fh Zs Fs sv tn tf O ho th tl G Hh Sl Sv Tx).flatten H := hP
  have hD : va_D (fun q : Nat => s.heap.size ≤ q) (LBs cy ad o0 m0 a0 p0 q0 v0 t0 z f zt ft en B Kf nx ct Zh Fh Zs Fs sv tn tf O ho th tl G Hh Sl Sv Tx).flatten := hD
  refine lv_aload_n hx hb dL_law_685 rfl (lv_at hl 3 rfl) ?_
  refine z_gVi (n := 0) (b := m0) (As := []) (rest := [.int r_1]) ⟨hx, hb, hml, hown, hts⟩ (c_X5_foundCount l D cy m0 a0 p0 q0 v0 t0 ho th tl G M hG hM) gL_law_X5_foundCount rfl (by decide +kernel) ⟨Nat.le_of_ble_eq_true rfl, Nat.le_of_ble_eq_true rfl⟩ hK hT hP hS (Fp.blocks hP hD hS hA (cs := [wMo m0 a0 p0 q0 v0 t0 ho th tl, wMa cy a0 144 G]) (nb := fun (u : Unit) => [wMo m0 a0 p0 q0 v0 t0 ho (0 : Int) tl, wMa cy a0 144 G]) (nbs := fun (u : Unit) => LBs cy ad o0 m0 a0 p0 q0 v0 t0 z f zt ft en B Kf nx ct Zh Fh Zs Fs sv tn tf O ho (0 : Int) tl G Hh Sl Sv Tx) [18, 19] rfl rfl rfl (fun _ => rfl) (fun _ => rfl) (fun _ => rfl)) 81 5 rfl rfl rfl rfl hl.1 rfl (Nat.le_of_ble_eq_true rfl) dL_law_686 ⟨Nat.le_trans (by omega) hro.1, Nat.le_trans (by omega) hro.2⟩ (fun r_2 u_2 H locs hw_2 hP hD hS => ?_)
  have hw_2 : r_2 = iI (M.2.2.1.length : Int) := hw_2
  have hP : va_P D vwCl (LBs cy ad o0 m0 a0 p0 q0 v0 t0 z f zt ft en B Kf nx ct Zh Fh Zs Fs sv tn tf O ho (0 : Int) tl G Hh Sl Sv Tx).flatten H := hP
  have hD : va_D (fun q : Nat => s.heap.size ≤ q) (LBs cy ad o0 m0 a0 p0 q0 v0 t0 z f zt ft en B Kf nx ct Zh Fh Zs Fs sv tn tf O ho (0 : Int) tl G Hh Sl Sv Tx).flatten := hD
  have hj : r_1 = r_2 ∧ LJ z f Kf nx ct Zh Fh Zs Fs sv tn tf ho tl G Hh Sl Sv Tx := by
    have e1 := hw_1
    have e2 := hw_2
    exact ⟨e1.trans e2.symm, ⟨M, h, sl, tx, hR, hG, hM, hH, hHh, hho, hh6, hXS, hSl, hXt, hMt, ht80, hk⟩⟩
  refine lv_icmp_eq (tgt := 1472) hx hb dL_law_689 (by decide) (fun _ => ?_) (fun q => absurd hj.1 q)
  exact (fun H1 locs1 ls1 a1 a2 a3 => W.widen (k := cells + 2) (n := slots + 12) (by omega) (by omega) (kk H1 locs1 ls1 a1 a2 a3)) _ _ _ ⟨z, f, zt, ft, en, B, Kf, nx, ct, Zh, Fh, Zs, Fs, sv, tn, tf, O, ho, (0 : Int), tl, G, Hh, Sl, Sv, Tx, hj.2, hP, hD⟩ hS hl
