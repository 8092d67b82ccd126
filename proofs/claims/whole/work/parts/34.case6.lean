/-! cases of the law: textError, undo, undoCount, saveState, loadState -/
set_option maxHeartbeats 4000000 in
set_option maxRecDepth 100000 in
theorem k_textError {p : Program} {l : Launch} {e : Env} {s : State} {m : MethodId} {below : List Frame} {meth : Method} {c : Code} {H : Heap} {locs : List Loc} {cells slots : Nat} {Q : State → Prop} {ls : Array Slot} {D : va_G} {cy : Nat → ClassId} {b L : Nat} {xs : Nat → Int32} {i : Nat} {ad : Nat → Nat} {o0 m0 a0 p0 q0 v0 t0 : Nat} (C : LC p l s m c b L xs D cy) (hi : (i : Int) + 2 < L) (hI : LI D cy ad o0 m0 a0 p0 q0 v0 t0 (fun q : Nat => s.heap.size ≤ q) H) (hS : va_S (fun q : Nat => s.heap.size ≤ q) s.heap H locs) (hro : cells + 2 ≤ 601024 ∧ slots + 12 ≤ 7293034) (hl : lv_has ls 7 (lvL i b (ad 0) m0 o0)) (kk : ∀ (H1 : Heap) (locs1 : List Loc) (ls1 : Array Slot), LI D cy ad o0 m0 a0 p0 q0 v0 t0 (fun q : Nat => s.heap.size ≤ q) H1 → va_S (fun q : Nat => s.heap.size ≤ q) s.heap H1 locs1 → lv_has ls1 7 (lvL i b (ad 0) m0 o0) → W p l e room_1 s m #[.ref b] below meth c H1 locs1 (cells + 2) (slots + 12) Q (F0 m 1472 ls1 [])) : W p l e room_1 s m #[.ref b] below meth c H locs cells slots Q (F0 m 1290 ls []) := by
  obtain ⟨z, f, zt, ft, en, B, Kf, nx, ct, Zh, Fh, Zs, Fs, sv, tn, tf, O, ho, th, tl, G, Hh, Sl, Sv, Tx, ⟨M, h, sl, tx, hR, hG, hM, hH, hHh, hho, hh6, hXS, hSl, hXt, hMt, ht80, hk⟩, hP, hD⟩ := hI
  obtain ⟨hx, hb, hml, hown, hts, hX, hbl, hK, hT, hC, hZ, hfl, hL⟩ := id C
  have hA : ∀ q : Nat, s.heap.size ≤ q → (fun q : Nat => s.heap.size ≤ q) q := fun _ h => h
  have hl : lv_has ls 7 [(4, .int (iI (i : Int))), (0, .ref b), (1, .ref (ad 0)), (2, .ref m0), (3, .ref o0)] := hl
  refine lv_aload_n hx hb dL_law_1290 rfl (lv_at hl 2 rfl) ?_
  refine z_gVi (n := 0) (b := ad 0) (As := []) (rest := []) ⟨hx, hb, hml, hown, hts⟩ (c_X4_textError l D cy ad tn tf tx ⟨hXt, ht80⟩) gL_law_X4_textError rfl (by decide +kernel) ⟨Nat.le_of_ble_eq_true rfl, Nat.le_of_ble_eq_true rfl⟩ hK hT hP hS (Fp.same hP hD hS hA [0, 78, 79] rfl rfl (fun _ => rfl)) 0 4 rfl rfl rfl rfl hl.1 rfl (Nat.le_of_ble_eq_true rfl) dL_law_1291 ⟨Nat.le_trans (by omega) hro.1, Nat.le_trans (by omega) hro.2⟩ (fun r_1 u_1 H locs hw_1 hP hD hS => ?_)
  have hw_1 : r_1 = iI (errF tx 0) := hw_1
  have hP : va_P D vwCl (LBs cy ad o0 m0 a0 p0 q0 v0 t0 z f zt ft en B Kf nx ct Zh Fh Zs Fs sv tn tf O ho th tl G Hh Sl Sv Tx).flatten H := hP
  have hD : va_D (fun q : Nat => s.heap.size ≤ q) (LBs cy ad o0 m0 a0 p0 q0 v0 t0 z f zt ft en B Kf nx ct Zh Fh Zs Fs sv tn tf O ho th tl G Hh Sl Sv Tx).flatten := hD
  refine lv_aload_n hx hb dL_law_1294 rfl (lv_at hl 3 rfl) ?_
  refine z_gVi (n := 0) (b := m0) (As := []) (rest := [.int r_1]) ⟨hx, hb, hml, hown, hts⟩ (c_X5_textError l D cy m0 a0 p0 q0 v0 t0 ho th tl Tx tx hMt ht80) gL_law_X5_textError rfl (by decide +kernel) ⟨Nat.le_of_ble_eq_true rfl, Nat.le_of_ble_eq_true rfl⟩ hK hT hP hS (Fp.blocks hP hD hS hA (cs := [wMo m0 a0 p0 q0 v0 t0 ho th tl, wMa cy t0 80 Tx]) (nb := fun (u : Unit) => [wMo m0 a0 p0 q0 v0 t0 ho (0 : Int) tl, wMa cy t0 80 Tx]) (nbs := fun (u : Unit) => LBs cy ad o0 m0 a0 p0 q0 v0 t0 z f zt ft en B Kf nx ct Zh Fh Zs Fs sv tn tf O ho (0 : Int) tl G Hh Sl Sv Tx) [18, 23] rfl rfl rfl (fun _ => rfl) (fun _ => rfl) (fun _ => rfl)) 81 5 rfl rfl rfl rfl hl.1 rfl (Nat.le_of_ble_eq_true rfl) dL_law_1295 ⟨Nat.le_trans (by omega) hro.1, Nat.le_trans (by omega) hro.2⟩ (fun r_2 u_2 H locs hw_2 hP hD hS => ?_)
  have hw_2 : r_2 = iI (errF tx 0) := hw_2
  have hP : va_P D vwCl (LBs cy ad o0 m0 a0 p0 q0 v0 t0 z f zt ft en B Kf nx ct Zh Fh Zs Fs sv tn tf O ho (0 : Int) tl G Hh Sl Sv Tx).flatten H := hP
  have hD : va_D (fun q : Nat => s.heap.size ≤ q) (LBs cy ad o0 m0 a0 p0 q0 v0 t0 z f zt ft en B Kf nx ct Zh Fh Zs Fs sv tn tf O ho (0 : Int) tl G Hh Sl Sv Tx).flatten := hD
  have hj : r_1 = r_2 ∧ LJ z f Kf nx ct Zh Fh Zs Fs sv tn tf ho tl G Hh Sl Sv Tx := by
    have e1 := hw_1
    have e2 := hw_2
    exact ⟨e1.trans e2.symm, ⟨M, h, sl, tx, hR, hG, hM, hH, hHh, hho, hh6, hXS, hSl, hXt, hMt, ht80, hk⟩⟩
  refine lv_icmp_eq (tgt := 1472) hx hb dL_law_1298 (by decide) (fun _ => ?_) (fun q => absurd hj.1 q)
  exact (fun H1 locs1 ls1 a1 a2 a3 => W.widen (k := cells + 2) (n := slots + 12) (by omega) (by omega) (kk H1 locs1 ls1 a1 a2 a3)) _ _ _ ⟨z, f, zt, ft, en, B, Kf, nx, ct, Zh, Fh, Zs, Fs, sv, tn, tf, O, ho, (0 : Int), tl, G, Hh, Sl, Sv, Tx, hj.2, hP, hD⟩ hS hl
set_option maxHeartbeats 4000000 in
set_option maxRecDepth 100000 in
theorem k_undo {p : Program} {l : Launch} {e : Env} {s : State} {m : MethodId} {below : List Frame} {meth : Method} {c : Code} {H : Heap} {locs : List Loc} {cells slots : Nat} {Q : State → Prop} {ls : Array Slot} {D : va_G} {cy : Nat → ClassId} {b L : Nat} {xs : Nat → Int32} {i : Nat} {ad : Nat → Nat} {o0 m0 a0 p0 q0 v0 t0 : Nat} (C : LC p l s m c b L xs D cy) (hi : (i : Int) + 2 < L) (hI : LI D cy ad o0 m0 a0 p0 q0 v0 t0 (fun q : Nat => s.heap.size ≤ q) H) (hS : va_S (fun q : Nat => s.heap.size ≤ q) s.heap H locs) (hro : cells + 2 ≤ 601024 ∧ slots + 12 ≤ 7293034) (hl : lv_has ls 7 (lvL i b (ad 0) m0 o0)) (kk : ∀ (H1 : Heap) (locs1 : List Loc) (ls1 : Array Slot), LI D cy ad o0 m0 a0 p0 q0 v0 t0 (fun q : Nat => s.heap.size ≤ q) H1 → va_S (fun q : Nat => s.heap.size ≤ q) s.heap H1 locs1 → lv_has ls1 7 (lvL i b (ad 0) m0 o0) → W p l e room_1 s m #[.ref b] below meth c H1 locs1 (cells + 2) (slots + 12) Q (F0 m 1472 ls1 [])) : W p l e room_1 s m #[.ref b] below meth c H locs cells slots Q (F0 m 1303 ls []) := by
  obtain ⟨z, f, zt, ft, en, B, Kf, nx, ct, Zh, Fh, Zs, Fs, sv, tn, tf, O, ho, th, tl, G, Hh, Sl, Sv, Tx, ⟨M, h, sl, tx, hR, hG, hM, hH, hHh, hho, hh6, hXS, hSl, hXt, hMt, ht80, hk⟩, hP, hD⟩ := hI
  obtain ⟨hx, hb, hml, hown, hts, hX, hbl, hK, hT, hC, hZ, hfl, hL⟩ := id C
  have hA : ∀ q : Nat, s.heap.size ≤ q → (fun q : Nat => s.heap.size ≤ q) q := fun _ h => h
  have hl : lv_has ls 7 [(4, .int (iI (i : Int))), (0, .ref b), (1, .ref (ad 0)), (2, .ref m0), (3, .ref o0)] := hl
  refine lv_aload_n hx hb dL_law_1303 rfl (lv_at hl 2 rfl) ?_
  refine lv_aload_n hx hb dL_law_1304 rfl (lv_at hl 4 rfl) ?_
  refine z_hSi (n := 2) (As := [.ref (ad 0), .ref o0]) (rest := []) ⟨hx, hb, hml, hown, hts⟩ (c_L_undo l hfl D cy ad z f M nx ct Zh Fh h o0 O hH) gL_law_L_undo rfl (by decide +kernel) ⟨Nat.le_of_ble_eq_true rfl, Nat.le_of_ble_eq_true rfl⟩ hK hT hC hZ hS (Fp.blocks hP hD hS hA (cs := [wTop ad, wSt cy ad 1 z f, wHb ad ct, wKb cy ad nx, wSt cy ad 20 (Zh 0) (Fh 0), wSt cy ad 27 (Zh 1) (Fh 1), wSt cy ad 34 (Zh 2) (Fh 2), wSt cy ad 41 (Zh 3) (Fh 3), wSt cy ad 48 (Zh 4) (Fh 4), wSt cy ad 55 (Zh 5) (Fh 5), wOt cy o0 O]) (nb := fun (u : (Nat → Int) × (Nat → Nat → Int32) × Int × Int × (Nat → Int64)) => [wTop ad, wSt cy ad 1 u.1 u.2.1, wHb ad u.2.2.2.1, wKb cy ad u.2.2.1, wSt cy ad 20 (Zh 0) (Fh 0), wSt cy ad 27 (Zh 1) (Fh 1), wSt cy ad 34 (Zh 2) (Fh 2), wSt cy ad 41 (Zh 3) (Fh 3), wSt cy ad 48 (Zh 4) (Fh 4), wSt cy ad 55 (Zh 5) (Fh 5), wOt cy o0 u.2.2.2.2]) (nbs := fun (u : (Nat → Int) × (Nat → Nat → Int32) × Int × Int × (Nat → Int64)) => LBs cy ad o0 m0 a0 p0 q0 v0 t0 u.1 u.2.1 zt ft en B Kf u.2.2.1 u.2.2.2.1 Zh Fh Zs Fs sv tn tf u.2.2.2.2 ho th tl G Hh Sl Sv Tx) [0, 1, 4, 5, 6, 7, 8, 9, 10, 11, 17] rfl rfl rfl (fun _ => rfl) (fun _ => rfl) (fun _ => rfl)) rfl hl.1 rfl (Nat.le_of_ble_eq_true rfl) dL_law_1305 ⟨Nat.le_trans (by omega) hro.1, Nat.le_trans (by omega) hro.2⟩ (fun r_1 u_1 H locs hw_1 hP hD hS => ?_)
  obtain ⟨z_1, f_1, nx_1, ct_1, O_1⟩ := u_1
  have hw_1 : (r_1 = iI 0 ∧ ∃ v : Int32, (¬ h.length = 0 ∧ v = iI ((h.length : Int) - 1) ∧ RXH nx_1 ct_1 Zh Fh (h.take (h.length - 1)) ∧ ∀ M2 : MS, h[h.length - 1]? = some M2 → RS z_1 f_1 M2) ∧ O_1 0 = lI v.toInt) ∨ (r_1 = iI 1 ∧ (h.length = 0) ∧ z_1 = z ∧ f_1 = f ∧ nx_1 = nx ∧ ct_1 = ct) := hw_1
  have hP : va_P D vwCl (LBs cy ad o0 m0 a0 p0 q0 v0 t0 z_1 f_1 zt ft en B Kf nx_1 ct_1 Zh Fh Zs Fs sv tn tf O_1 ho th tl G Hh Sl Sv Tx).flatten H := hP
  have hD : va_D (fun q : Nat => s.heap.size ≤ q) (LBs cy ad o0 m0 a0 p0 q0 v0 t0 z_1 f_1 zt ft en B Kf nx_1 ct_1 Zh Fh Zs Fs sv tn tf O_1 ho th tl G Hh Sl Sv Tx).flatten := hD
  refine lv_istore (lv' := [(5, .int r_1), (4, .int (iI (i : Int))), (0, .ref b), (1, .ref (ad 0)), (2, .ref m0), (3, .ref o0)]) hx hb dL_law_1308 hl (by decide) rfl (fun ls hl => ?_)
  refine lv_aload_n hx hb dL_law_1310 rfl (lv_at hl 4 rfl) ?_
  refine z_gVi (n := 0) (b := m0) (As := []) (rest := []) ⟨hx, hb, hml, hown, hts⟩ (c_X5_undo l D cy m0 a0 p0 q0 v0 t0 ho th tl G Hh M h hG hM hHh ⟨hho, hh6⟩) gL_law_X5_undo rfl (by decide +kernel) ⟨Nat.le_of_ble_eq_true rfl, Nat.le_of_ble_eq_true rfl⟩ hK hT hP hS (Fp.blocks hP hD hS hA (cs := [wMo m0 a0 p0 q0 v0 t0 ho th tl, wMa cy a0 144 G, wMa cy p0 864 Hh]) (nb := fun (u : (Nat → Int32) × Int × Int) => [wMo m0 a0 p0 q0 v0 t0 u.2.1 u.2.2 tl, wMa cy a0 144 u.1, wMa cy p0 864 Hh]) (nbs := fun (u : (Nat → Int32) × Int × Int) => LBs cy ad o0 m0 a0 p0 q0 v0 t0 z_1 f_1 zt ft en B Kf nx_1 ct_1 Zh Fh Zs Fs sv tn tf O_1 u.2.1 u.2.2 tl u.1 Hh Sl Sv Tx) [18, 19, 20] rfl rfl rfl (fun _ => rfl) (fun _ => rfl) (fun _ => rfl)) 81 5 rfl rfl rfl rfl hl.1 rfl (Nat.le_of_ble_eq_true rfl) dL_law_1311 ⟨Nat.le_trans (by omega) hro.1, Nat.le_trans (by omega) hro.2⟩ (fun r_2 u_2 H locs hw_2 hP hD hS => ?_)
  obtain ⟨G_2, ho_2, th_2⟩ := u_2
  have hw_2 : (h.length = 0 ∧ r_2 = iI 0 ∧ th_2 = 1 ∧ G_2 = G ∧ ho_2 = ho) ∨ (¬ h.length = 0 ∧ r_2 = iI ((h.length : Int) - 1) ∧ th_2 = 0 ∧ ho_2 = (h.length : Int) - 1 ∧ ∀ M2 : MS, h[h.length - 1]? = some M2 → RG G_2 M2) := hw_2
  have hP : va_P D vwCl (LBs cy ad o0 m0 a0 p0 q0 v0 t0 z_1 f_1 zt ft en B Kf nx_1 ct_1 Zh Fh Zs Fs sv tn tf O_1 ho_2 th_2 tl G_2 Hh Sl Sv Tx).flatten H := hP
  have hD : va_D (fun q : Nat => s.heap.size ≤ q) (LBs cy ad o0 m0 a0 p0 q0 v0 t0 z_1 f_1 zt ft en B Kf nx_1 ct_1 Zh Fh Zs Fs sv tn tf O_1 ho_2 th_2 tl G_2 Hh Sl Sv Tx).flatten := hD
  have hj : r_1 = iI th_2 ∧ (r_1 = iI 0 → O_1 0 = lI r_2.toInt) ∧ LJ z_1 f_1 Kf nx_1 ct_1 Zh Fh Zs Fs sv tn tf ho_2 tl G_2 Hh Sl Sv Tx := by
    rcases hw_1 with ⟨e1, v, ⟨c1, ev, hH1, hR1⟩, eo⟩ | ⟨e1, c1, rfl, rfl, rfl, rfl⟩
    · --
      rcases hw_2 with ⟨c2, e2, et, rfl, rfl⟩ | ⟨c2, e2, et, eho, hG2⟩
      · --
        first | exact absurd c1 c2 | exact absurd c2 c1 | (exfalso; omega)
      · --
        obtain ⟨M2, hM2⟩ : ∃ M2 : MS, h[h.length - 1]? = some M2 := ⟨_, List.getElem?_eq_getElem (by omega)⟩
        exact ⟨by rw [e1, et], fun _ => by rw [eo, ev, e2], ⟨M2, (h.take (h.length - 1)), sl, tx, (hR1 M2 hM2), (hG2 M2 hM2), (hHh _ M2 hM2).2, hH1, (RH_pop hHh), (by rw [eho, List.length_take]; omega), (by rw [List.length_take]; omega), hXS, hSl, hXt, hMt, ht80, hk⟩⟩
    · --
      rcases hw_2 with ⟨c2, e2, et, rfl, rfl⟩ | ⟨c2, e2, et, eho, hG2⟩
      · --
        exact ⟨by rw [e1, et], fun q => absurd (e1.symm.trans q) (by decide), ⟨M, h, sl, tx, hR, hG, hM, hH, hHh, hho, hh6, hXS, hSl, hXt, hMt, ht80, hk⟩⟩
      · --
        first | exact absurd c1 c2 | exact absurd c2 c1 | (exfalso; omega)
  refine lv_istore (lv' := [(6, .int r_2), (5, .int r_1), (4, .int (iI (i : Int))), (0, .ref b), (1, .ref (ad 0)), (2, .ref m0), (3, .ref o0)]) hx hb dL_law_1314 hl (by decide) rfl (fun ls hl => ?_)
  exact z_tail C (T := 1316) ⟨dL_law_1316, dL_law_1317, dL_law_1320, dL_law_1322, dL_law_1327, dL_law_1329, dL_law_1332, dL_law_1333, dL_law_1334, dL_law_1335, dL_law_1337, dL_law_1338, dL_law_1339, dL_law_1344⟩ (by decide) hP hD hS ⟨Nat.le_trans (by omega) hro.1, Nat.le_trans (by omega) hro.2⟩ hl hj.1 hj.2.1 hj.2.2 (fun H1 locs1 ls1 a1 a2 a3 => W.widen (k := cells + 2) (n := slots + 12) (by omega) (by omega) (kk H1 locs1 ls1 a1 a2 a3))
set_option maxHeartbeats 4000000 in
set_option maxRecDepth 100000 in
theorem k_undoCount {p : Program} {l : Launch} {e : Env} {s : State} {m : MethodId} {below : List Frame} {meth : Method} {c : Code} {H : Heap} {locs : List Loc} {cells slots : Nat} {Q : State → Prop} {ls : Array Slot} {D : va_G} {cy : Nat → ClassId} {b L : Nat} {xs : Nat → Int32} {i : Nat} {ad : Nat → Nat} {o0 m0 a0 p0 q0 v0 t0 : Nat} (C : LC p l s m c b L xs D cy) (hi : (i : Int) + 2 < L) (hI : LI D cy ad o0 m0 a0 p0 q0 v0 t0 (fun q : Nat => s.heap.size ≤ q) H) (hS : va_S (fun q : Nat => s.heap.size ≤ q) s.heap H locs) (hro : cells + 2 ≤ 601024 ∧ slots + 12 ≤ 7293034) (hl : lv_has ls 7 (lvL i b (ad 0) m0 o0)) (kk : ∀ (H1 : Heap) (locs1 : List Loc) (ls1 : Array Slot), LI D cy ad o0 m0 a0 p0 q0 v0 t0 (fun q : Nat => s.heap.size ≤ q) H1 → va_S (fun q : Nat => s.heap.size ≤ q) s.heap H1 locs1 → lv_has ls1 7 (lvL i b (ad 0) m0 o0) → W p l e room_1 s m #[.ref b] below meth c H1 locs1 (cells + 2) (slots + 12) Q (F0 m 1472 ls1 [])) : W p l e room_1 s m #[.ref b] below meth c H locs cells slots Q (F0 m 1347 ls []) := by
  obtain ⟨z, f, zt, ft, en, B, Kf, nx, ct, Zh, Fh, Zs, Fs, sv, tn, tf, O, ho, th, tl, G, Hh, Sl, Sv, Tx, ⟨M, h, sl, tx, hR, hG, hM, hH, hHh, hho, hh6, hXS, hSl, hXt, hMt, ht80, hk⟩, hP, hD⟩ := hI
  obtain ⟨hx, hb, hml, hown, hts, hX, hbl, hK, hT, hC, hZ, hfl, hL⟩ := id C
  have hA : ∀ q : Nat, s.heap.size ≤ q → (fun q : Nat => s.heap.size ≤ q) q := fun _ h => h
  have hl : lv_has ls 7 [(4, .int (iI (i : Int))), (0, .ref b), (1, .ref (ad 0)), (2, .ref m0), (3, .ref o0)] := hl
  refine lv_aload_n hx hb dL_law_1347 rfl (lv_at hl 2 rfl) ?_
  refine z_gVi (n := 0) (b := ad 0) (As := []) (rest := []) ⟨hx, hb, hml, hown, hts⟩ (c_X4_undoCount l D cy ad nx ct Zh Fh h hH) gL_law_X4_undoCount rfl (by decide +kernel) ⟨Nat.le_of_ble_eq_true rfl, Nat.le_of_ble_eq_true rfl⟩ hK hT hP hS (Fp.same hP hD hS hA [0, 18] rfl rfl (fun _ => rfl)) 0 4 rfl rfl rfl rfl hl.1 rfl (Nat.le_of_ble_eq_true rfl) dL_law_1348 ⟨Nat.le_trans (by omega) hro.1, Nat.le_trans (by omega) hro.2⟩ (fun r_1 u_1 H locs hw_1 hP hD hS => ?_)
  have hw_1 : r_1 = iI (h.length : Int) := hw_1
  have hP : va_P D vwCl (LBs cy ad o0 m0 a0 p0 q0 v0 t0 z f zt ft en B Kf nx ct Zh Fh Zs Fs sv tn tf O ho th tl G Hh Sl Sv Tx).flatten H := hP
  have hD : va_D (fun q : Nat => s.heap.size ≤ q) (LBs cy ad o0 m0 a0 p0 q0 v0 t0 z f zt ft en B Kf nx ct Zh Fh Zs Fs sv tn tf O ho th tl G Hh Sl Sv Tx).flatten := hD
  refine lv_aload_n hx hb dL_law_1351 rfl (lv_at hl 3 rfl) ?_
  refine z_gVi (n := 0) (b := m0) (As := []) (rest := [.int r_1]) ⟨hx, hb, hml, hown, hts⟩ (c_X5_undoCount l D cy m0 a0 p0 q0 v0 t0 ho th tl) gL_law_X5_undoCount rfl (by decide +kernel) ⟨Nat.le_of_ble_eq_true rfl, Nat.le_of_ble_eq_true rfl⟩ hK hT hP hS (Fp.blocks hP hD hS hA (cs := [wMo m0 a0 p0 q0 v0 t0 ho th tl]) (nb := fun (u : Unit) => [wMo m0 a0 p0 q0 v0 t0 ho (0 : Int) tl]) (nbs := fun (u : Unit) => LBs cy ad o0 m0 a0 p0 q0 v0 t0 z f zt ft en B Kf nx ct Zh Fh Zs Fs sv tn tf O ho (0 : Int) tl G Hh Sl Sv Tx) [18] rfl rfl rfl (fun _ => rfl) (fun _ => rfl) (fun _ => rfl)) 81 5 rfl rfl rfl rfl hl.1 rfl (Nat.le_of_ble_eq_true rfl) dL_law_1352 ⟨Nat.le_trans (by omega) hro.1, Nat.le_trans (by omega) hro.2⟩ (fun r_2 u_2 H locs hw_2 hP hD hS => ?_)
  have hw_2 : r_2 = iI ho := hw_2
  have hP : va_P D vwCl (LBs cy ad o0 m0 a0 p0 q0 v0 t0 z f zt ft en B Kf nx ct Zh Fh Zs Fs sv tn tf O ho (0 : Int) tl G Hh Sl Sv Tx).flatten H := hP
  have hD : va_D (fun q : Nat => s.heap.size ≤ q) (LBs cy ad o0 m0 a0 p0 q0 v0 t0 z f zt ft en B Kf nx ct Zh Fh Zs Fs sv tn tf O ho (0 : Int) tl G Hh Sl Sv Tx).flatten := hD
  have hj : r_1 = r_2 ∧ LJ z f Kf nx ct Zh Fh Zs Fs sv tn tf ho tl G Hh Sl Sv Tx := by
    have e1 := hw_1
    have e2 := hw_2
    exact ⟨by rw [e1, e2, hho], ⟨M, h, sl, tx, hR, hG, hM, hH, hHh, hho, hh6, hXS, hSl, hXt, hMt, ht80, hk⟩⟩
  refine lv_icmp_eq (tgt := 1472) hx hb dL_law_1355 (by decide) (fun _ => ?_) (fun q => absurd hj.1 q)
  exact (fun H1 locs1 ls1 a1 a2 a3 => W.widen (k := cells + 2) (n := slots + 12) (by omega) (by omega) (kk H1 locs1 ls1 a1 a2 a3)) _ _ _ ⟨z, f, zt, ft, en, B, Kf, nx, ct, Zh, Fh, Zs, Fs, sv, tn, tf, O, ho, (0 : Int), tl, G, Hh, Sl, Sv, Tx, hj.2, hP, hD⟩ hS hl
set_option maxHeartbeats 4000000 in
set_option maxRecDepth 100000 in
theorem k_saveState {p : Program} {l : Launch} {e : Env} {s : State} {m : MethodId} {below : List Frame} {meth : Method} {c : Code} {H : Heap} {locs : List Loc} {cells slots : Nat} {Q : State → Prop} {ls : Array Slot} {D : va_G} {cy : Nat → ClassId} {b L : Nat} {xs : Nat → Int32} {i : Nat} {ad : Nat → Nat} {o0 m0 a0 p0 q0 v0 t0 : Nat} (C : LC p l s m c b L xs D cy) (hi : (i : Int) + 2 < L) (hI : LI D cy ad o0 m0 a0 p0 q0 v0 t0 (fun q : Nat => s.heap.size ≤ q) H) (hS : va_S (fun q : Nat => s.heap.size ≤ q) s.heap H locs) (hro : cells + 2 ≤ 601024 ∧ slots + 12 ≤ 7293034) (hl : lv_has ls 7 (lvL i b (ad 0) m0 o0)) (kk : ∀ (H1 : Heap) (locs1 : List Loc) (ls1 : Array Slot), LI D cy ad o0 m0 a0 p0 q0 v0 t0 (fun q : Nat => s.heap.size ≤ q) H1 → va_S (fun q : Nat => s.heap.size ≤ q) s.heap H1 locs1 → lv_has ls1 7 (lvL i b (ad 0) m0 o0) → W p l e room_1 s m #[.ref b] below meth c H1 locs1 (cells + 2) (slots + 12) Q (F0 m 1472 ls1 [])) : W p l e room_1 s m #[.ref b] below meth c H locs cells slots Q (F0 m 1360 ls []) := by
  obtain ⟨z, f, zt, ft, en, B, Kf, nx, ct, Zh, Fh, Zs, Fs, sv, tn, tf, O, ho, th, tl, G, Hh, Sl, Sv, Tx, ⟨M, h, sl, tx, hR, hG, hM, hH, hHh, hho, hh6, hXS, hSl, hXt, hMt, ht80, hk⟩, hP, hD⟩ := hI
  obtain ⟨hx, hb, hml, hown, hts, hX, hbl, hK, hT, hC, hZ, hfl, hL⟩ := id C
  have hA : ∀ q : Nat, s.heap.size ≤ q → (fun q : Nat => s.heap.size ≤ q) q := fun _ h => h
  have hl : lv_has ls 7 [(4, .int (iI (i : Int))), (0, .ref b), (1, .ref (ad 0)), (2, .ref m0), (3, .ref o0)] := hl
  obtain ⟨x, ex⟩ : ∃ x : Int, (xs ((i : Int) + 1).toNat).toInt = x := ⟨_, rfl⟩
  have hx1 : -2147483648 ≤ x ∧ x < 2147483648 := by rw [← ex]; exact ⟨iI_lo _, iI_hi _⟩
  refine lv_aload_n hx hb dL_law_1360 rfl (lv_at hl 2 rfl) ?_
  refine z_arg C hS (lv_at hl 1 rfl) (lv_at hl 0 rfl) (by omega) (by omega) ex dL_law_1361 dL_law_1362 dL_law_1364 dL_law_1365 dL_law_1366 ?_
  refine lv_aload_n hx hb dL_law_1367 rfl (lv_at hl 4 rfl) ?_
  refine z_hSi (n := 3) (As := [.ref (ad 0), .int (iI x), .ref o0]) (rest := []) ⟨hx, hb, hml, hown, hts⟩ (c_L_saveState l hfl D cy ad z f M Zs Fs sv sl x o0 O hR hM hXS hx1) gL_law_L_saveState rfl (by decide +kernel) ⟨Nat.le_of_ble_eq_true rfl, Nat.le_of_ble_eq_true rfl⟩ hK hT hC hZ hS (Fp.blocks hP hD hS hA (cs := [wTop ad, wSt cy ad 1 z f, wSa cy ad, wSt cy ad 63 (Zs 0) (Fs 0), wSt cy ad 70 (Zs 1) (Fs 1), wSv cy ad sv, wOt cy o0 O]) (nb := fun (u : (Nat → Nat → Int) × (Nat → Nat → Nat → Int32) × (Nat → Int32) × (Nat → Int64)) => [wTop ad, wSt cy ad 1 z f, wSa cy ad, wSt cy ad 63 (u.1 0) (u.2.1 0), wSt cy ad 70 (u.1 1) (u.2.1 1), wSv cy ad u.2.2.1, wOt cy o0 u.2.2.2]) (nbs := fun (u : (Nat → Nat → Int) × (Nat → Nat → Nat → Int32) × (Nat → Int32) × (Nat → Int64)) => LBs cy ad o0 m0 a0 p0 q0 v0 t0 z f zt ft en B Kf nx ct Zh Fh u.1 u.2.1 u.2.2.1 tn tf u.2.2.2 ho th tl G Hh Sl Sv Tx) [0, 1, 12, 13, 14, 15, 17] rfl rfl rfl (fun _ => rfl) (fun _ => rfl) (fun _ => rfl)) rfl hl.1 rfl (Nat.le_of_ble_eq_true rfl) dL_law_1368 ⟨Nat.le_trans (by omega) hro.1, Nat.le_trans (by omega) hro.2⟩ (fun r_1 u_1 H locs hw_1 hP hD hS => ?_)
  obtain ⟨Zs_1, Fs_1, sv_1, O_1⟩ := u_1
  have hw_1 : (r_1 = iI 0 ∧ ∃ v : Int32, ((x = 0 ∨ x = 1) ∧ v = iI (M.1.length : Int) ∧ RXS sv_1 Zs_1 Fs_1 (fun j => if j = x.toNat then some M else sl j)) ∧ O_1 0 = lI v.toInt) ∨ (r_1 = iI 1 ∧ (¬ (x = 0 ∨ x = 1)) ∧ Zs_1 = Zs ∧ Fs_1 = Fs ∧ sv_1 = sv) := hw_1
  have hP : va_P D vwCl (LBs cy ad o0 m0 a0 p0 q0 v0 t0 z f zt ft en B Kf nx ct Zh Fh Zs_1 Fs_1 sv_1 tn tf O_1 ho th tl G Hh Sl Sv Tx).flatten H := hP
  have hD : va_D (fun q : Nat => s.heap.size ≤ q) (LBs cy ad o0 m0 a0 p0 q0 v0 t0 z f zt ft en B Kf nx ct Zh Fh Zs_1 Fs_1 sv_1 tn tf O_1 ho th tl G Hh Sl Sv Tx).flatten := hD
  refine lv_istore (lv' := [(5, .int r_1), (4, .int (iI (i : Int))), (0, .ref b), (1, .ref (ad 0)), (2, .ref m0), (3, .ref o0)]) hx hb dL_law_1371 hl (by decide) rfl (fun ls hl => ?_)
  refine lv_aload_n hx hb dL_law_1373 rfl (lv_at hl 4 rfl) ?_
  refine z_arg C hS (lv_at hl 2 rfl) (lv_at hl 1 rfl) (by omega) (by omega) ex dL_law_1374 dL_law_1375 dL_law_1377 dL_law_1378 dL_law_1379 ?_
  refine z_gVi (n := 1) (b := m0) (As := [.int (iI x)]) (rest := []) ⟨hx, hb, hml, hown, hts⟩ (c_X5_saveState l D cy m0 a0 p0 q0 v0 t0 ho th tl G Sl Sv M sl x hG hM hSl hx1) gL_law_X5_saveState rfl (by decide +kernel) ⟨Nat.le_of_ble_eq_true rfl, Nat.le_of_ble_eq_true rfl⟩ hK hT hP hS (Fp.blocks hP hD hS hA (cs := [wMo m0 a0 p0 q0 v0 t0 ho th tl, wMa cy a0 144 G, wMa cy q0 288 Sl, wMa cy v0 2 Sv]) (nb := fun (u : (Nat → Int32) × (Nat → Int32) × Int) => [wMo m0 a0 p0 q0 v0 t0 ho u.2.2 tl, wMa cy a0 144 G, wMa cy q0 288 u.1, wMa cy v0 2 u.2.1]) (nbs := fun (u : (Nat → Int32) × (Nat → Int32) × Int) => LBs cy ad o0 m0 a0 p0 q0 v0 t0 z f zt ft en B Kf nx ct Zh Fh Zs_1 Fs_1 sv_1 tn tf O_1 ho u.2.2 tl G Hh u.1 u.2.1 Tx) [18, 19, 21, 22] rfl rfl rfl (fun _ => rfl) (fun _ => rfl) (fun _ => rfl)) 81 5 rfl rfl rfl rfl hl.1 rfl (Nat.le_of_ble_eq_true rfl) dL_law_1380 ⟨Nat.le_trans (by omega) hro.1, Nat.le_trans (by omega) hro.2⟩ (fun r_2 u_2 H locs hw_2 hP hD hS => ?_)
  obtain ⟨Sl_2, Sv_2, th_2⟩ := u_2
  have hw_2 : (¬ (x = 0 ∨ x = 1) ∧ r_2 = iI 0 ∧ th_2 = 1 ∧ Sl_2 = Sl ∧ Sv_2 = Sv) ∨ ((x = 0 ∨ x = 1) ∧ r_2 = iI (M.1.length : Int) ∧ th_2 = 0 ∧ RSl Sl_2 Sv_2 (fun j => if j = x.toNat then some M else sl j)) := hw_2
  have hP : va_P D vwCl (LBs cy ad o0 m0 a0 p0 q0 v0 t0 z f zt ft en B Kf nx ct Zh Fh Zs_1 Fs_1 sv_1 tn tf O_1 ho th_2 tl G Hh Sl_2 Sv_2 Tx).flatten H := hP
  have hD : va_D (fun q : Nat => s.heap.size ≤ q) (LBs cy ad o0 m0 a0 p0 q0 v0 t0 z f zt ft en B Kf nx ct Zh Fh Zs_1 Fs_1 sv_1 tn tf O_1 ho th_2 tl G Hh Sl_2 Sv_2 Tx).flatten := hD
  have hj : r_1 = iI th_2 ∧ (r_1 = iI 0 → O_1 0 = lI r_2.toInt) ∧ LJ z f Kf nx ct Zh Fh Zs_1 Fs_1 sv_1 tn tf ho tl G Hh Sl_2 Sv_2 Tx := by
    rcases hw_1 with ⟨e1, v, ⟨c1, ev, hXS1⟩, eo⟩ | ⟨e1, c1, rfl, rfl, rfl⟩
    · --
      rcases hw_2 with ⟨c2, e2, et, rfl, rfl⟩ | ⟨c2, e2, et, hSl2⟩
      · --
        first | exact absurd c1 c2 | exact absurd c2 c1 | (exfalso; omega)
      · --
        exact ⟨by rw [e1, et], fun _ => by rw [eo, ev, e2], ⟨M, h, (fun j => if j = x.toNat then some M else sl j), tx, hR, hG, hM, hH, hHh, hho, hh6, hXS1, hSl2, hXt, hMt, ht80, hk⟩⟩
    · --
      rcases hw_2 with ⟨c2, e2, et, rfl, rfl⟩ | ⟨c2, e2, et, hSl2⟩
      · --
        exact ⟨by rw [e1, et], fun q => absurd (e1.symm.trans q) (by decide), ⟨M, h, sl, tx, hR, hG, hM, hH, hHh, hho, hh6, hXS, hSl, hXt, hMt, ht80, hk⟩⟩
      · --
        first | exact absurd c1 c2 | exact absurd c2 c1 | (exfalso; omega)
  refine lv_istore (lv' := [(6, .int r_2), (5, .int r_1), (4, .int (iI (i : Int))), (0, .ref b), (1, .ref (ad 0)), (2, .ref m0), (3, .ref o0)]) hx hb dL_law_1383 hl (by decide) rfl (fun ls hl => ?_)
  exact z_tail C (T := 1385) ⟨dL_law_1385, dL_law_1386, dL_law_1389, dL_law_1391, dL_law_1396, dL_law_1398, dL_law_1401, dL_law_1402, dL_law_1403, dL_law_1404, dL_law_1406, dL_law_1407, dL_law_1408, dL_law_1413⟩ (by decide) hP hD hS ⟨Nat.le_trans (by omega) hro.1, Nat.le_trans (by omega) hro.2⟩ hl hj.1 hj.2.1 hj.2.2 (fun H1 locs1 ls1 a1 a2 a3 => W.widen (k := cells + 2) (n := slots + 12) (by omega) (by omega) (kk H1 locs1 ls1 a1 a2 a3))
set_option maxHeartbeats 4000000 in
set_option maxRecDepth 100000 in
theorem k_loadState {p : Program} {l : Launch} {e : Env} {s : State} {m : MethodId} {below : List Frame} {meth : Method} {c : Code} {H : Heap} {locs : List Loc} {cells slots : Nat} {Q : State → Prop} {ls : Array Slot} {D : va_G} {cy : Nat → ClassId} {b L : Nat} {xs : Nat → Int32} {i : Nat} {ad : Nat → Nat} {o0 m0 a0 p0 q0 v0 t0 : Nat} (C : LC p l s m c b L xs D cy) (hi : (i : Int) + 2 < L) (hI : LI D cy ad o0 m0 a0 p0 q0 v0 t0 (fun q : Nat => s.heap.size ≤ q) H) (hS : va_S (fun q : Nat => s.heap.size ≤ q) s.heap H locs) (hro : cells + 2 ≤ 601024 ∧ slots + 12 ≤ 7293034) (hl : lv_has ls 7 (lvL i b (ad 0) m0 o0)) (kk : ∀ (H1 : Heap) (locs1 : List Loc) (ls1 : Array Slot), LI D cy ad o0 m0 a0 p0 q0 v0 t0 (fun q : Nat => s.heap.size ≤ q) H1 → va_S (fun q : Nat => s.heap.size ≤ q) s.heap H1 locs1 → lv_has ls1 7 (lvL i b (ad 0) m0 o0) → W p l e room_1 s m #[.ref b] below meth c H1 locs1 (cells + 2) (slots + 12) Q (F0 m 1472 ls1 [])) : W p l e room_1 s m #[.ref b] below meth c H locs cells slots Q (F0 m 1416 ls []) := by
  obtain ⟨z, f, zt, ft, en, B, Kf, nx, ct, Zh, Fh, Zs, Fs, sv, tn, tf, O, ho, th, tl, G, Hh, Sl, Sv, Tx, ⟨M, h, sl, tx, hR, hG, hM, hH, hHh, hho, hh6, hXS, hSl, hXt, hMt, ht80, hk⟩, hP, hD⟩ := hI
  obtain ⟨hx, hb, hml, hown, hts, hX, hbl, hK, hT, hC, hZ, hfl, hL⟩ := id C
  have hA : ∀ q : Nat, s.heap.size ≤ q → (fun q : Nat => s.heap.size ≤ q) q := fun _ h => h
  have hl : lv_has ls 7 [(4, .int (iI (i : Int))), (0, .ref b), (1, .ref (ad 0)), (2, .ref m0), (3, .ref o0)] := hl
  obtain ⟨x, ex⟩ : ∃ x : Int, (xs ((i : Int) + 1).toNat).toInt = x := ⟨_, rfl⟩
  have hx1 : -2147483648 ≤ x ∧ x < 2147483648 := by rw [← ex]; exact ⟨iI_lo _, iI_hi _⟩
  refine lv_aload_n hx hb dL_law_1416 rfl (lv_at hl 2 rfl) ?_
  refine z_arg C hS (lv_at hl 1 rfl) (lv_at hl 0 rfl) (by omega) (by omega) ex dL_law_1417 dL_law_1418 dL_law_1420 dL_law_1421 dL_law_1422 ?_
  refine lv_aload_n hx hb dL_law_1423 rfl (lv_at hl 4 rfl) ?_
  refine z_hSi (n := 3) (As := [.ref (ad 0), .int (iI x), .ref o0]) (rest := []) ⟨hx, hb, hml, hown, hts⟩ (c_L_loadState l hfl D cy ad z f M nx ct Zh Fh h Zs Fs sv sl x o0 O hR hM hH hXS hx1) gL_law_L_loadState rfl (by decide +kernel) ⟨Nat.le_of_ble_eq_true rfl, Nat.le_of_ble_eq_true rfl⟩ hK hT hC hZ hS (Fp.blocks hP hD hS hA (cs := [wTop ad, wSt cy ad 1 z f, wHb ad ct, wKb cy ad nx, wSt cy ad 20 (Zh 0) (Fh 0), wSt cy ad 27 (Zh 1) (Fh 1), wSt cy ad 34 (Zh 2) (Fh 2), wSt cy ad 41 (Zh 3) (Fh 3), wSt cy ad 48 (Zh 4) (Fh 4), wSt cy ad 55 (Zh 5) (Fh 5), wSa cy ad, wSt cy ad 63 (Zs 0) (Fs 0), wSt cy ad 70 (Zs 1) (Fs 1), wSv cy ad sv, wOt cy o0 O]) (nb := fun (u : (Nat → Int) × (Nat → Nat → Int32) × Int × Int × (Nat → Nat → Int) × (Nat → Nat → Nat → Int32) × (Nat → Int64)) => [wTop ad, wSt cy ad 1 u.1 u.2.1, wHb ad u.2.2.2.1, wKb cy ad u.2.2.1, wSt cy ad 20 (u.2.2.2.2.1 0) (u.2.2.2.2.2.1 0), wSt cy ad 27 (u.2.2.2.2.1 1) (u.2.2.2.2.2.1 1), wSt cy ad 34 (u.2.2.2.2.1 2) (u.2.2.2.2.2.1 2), wSt cy ad 41 (u.2.2.2.2.1 3) (u.2.2.2.2.2.1 3), wSt cy ad 48 (u.2.2.2.2.1 4) (u.2.2.2.2.2.1 4), wSt cy ad 55 (u.2.2.2.2.1 5) (u.2.2.2.2.2.1 5), wSa cy ad, wSt cy ad 63 (Zs 0) (Fs 0), wSt cy ad 70 (Zs 1) (Fs 1), wSv cy ad sv, wOt cy o0 u.2.2.2.2.2.2]) (nbs := fun (u : (Nat → Int) × (Nat → Nat → Int32) × Int × Int × (Nat → Nat → Int) × (Nat → Nat → Nat → Int32) × (Nat → Int64)) => LBs cy ad o0 m0 a0 p0 q0 v0 t0 u.1 u.2.1 zt ft en B Kf u.2.2.1 u.2.2.2.1 u.2.2.2.2.1 u.2.2.2.2.2.1 Zs Fs sv tn tf u.2.2.2.2.2.2 ho th tl G Hh Sl Sv Tx) [0, 1, 4, 5, 6, 7, 8, 9, 10, 11, 12, 13, 14, 15, 17] rfl rfl rfl (fun _ => rfl) (fun _ => rfl) (fun _ => rfl)) rfl hl.1 rfl (Nat.le_of_ble_eq_true rfl) dL_law_1424 ⟨Nat.le_trans (by omega) hro.1, Nat.le_trans (by omega) hro.2⟩ (fun r_1 u_1 H locs hw_1 hP hD hS => ?_)
  obtain ⟨z_1, f_1, nx_1, ct_1, Zh_1, Fh_1, O_1⟩ := u_1
  have hw_1 : (r_1 = iI 0 ∧ ∃ v : Int32, ((x = 0 ∨ x = 1) ∧ (∃ M2 : MS, sl x.toNat = some M2 ∧ v = iI (M2.1.length : Int) ∧ RS z_1 f_1 M2) ∧ RXH nx_1 ct_1 Zh_1 Fh_1 (pushH h M)) ∧ O_1 0 = lI v.toInt) ∨ (r_1 = iI 1 ∧ (¬ (x = 0 ∨ x = 1)) ∧ z_1 = z ∧ f_1 = f ∧ nx_1 = nx ∧ ct_1 = ct ∧ Zh_1 = Zh ∧ Fh_1 = Fh) ∨ (r_1 = iI 2 ∧ ((x = 0 ∨ x = 1) ∧ sl x.toNat = none) ∧ z_1 = z ∧ f_1 = f ∧ nx_1 = nx ∧ ct_1 = ct ∧ Zh_1 = Zh ∧ Fh_1 = Fh) := hw_1
  have hP : va_P D vwCl (LBs cy ad o0 m0 a0 p0 q0 v0 t0 z_1 f_1 zt ft en B Kf nx_1 ct_1 Zh_1 Fh_1 Zs Fs sv tn tf O_1 ho th tl G Hh Sl Sv Tx).flatten H := hP
  have hD : va_D (fun q : Nat => s.heap.size ≤ q) (LBs cy ad o0 m0 a0 p0 q0 v0 t0 z_1 f_1 zt ft en B Kf nx_1 ct_1 Zh_1 Fh_1 Zs Fs sv tn tf O_1 ho th tl G Hh Sl Sv Tx).flatten := hD
  refine lv_istore (lv' := [(5, .int r_1), (4, .int (iI (i : Int))), (0, .ref b), (1, .ref (ad 0)), (2, .ref m0), (3, .ref o0)]) hx hb dL_law_1427 hl (by decide) rfl (fun ls hl => ?_)
  refine lv_aload_n hx hb dL_law_1429 rfl (lv_at hl 4 rfl) ?_
  refine z_arg C hS (lv_at hl 2 rfl) (lv_at hl 1 rfl) (by omega) (by omega) ex dL_law_1430 dL_law_1431 dL_law_1433 dL_law_1434 dL_law_1435 ?_
  refine z_gVi (n := 1) (b := m0) (As := [.int (iI x)]) (rest := []) ⟨hx, hb, hml, hown, hts⟩ (c_X5_loadState l D cy m0 a0 p0 q0 v0 t0 ho th tl G Hh Sl Sv M h sl x hG hM hHh ⟨hho, hh6⟩ hSl hx1) gL_law_X5_loadState rfl (by decide +kernel) ⟨Nat.le_of_ble_eq_true rfl, Nat.le_of_ble_eq_true rfl⟩ hK hT hP hS (Fp.blocks hP hD hS hA (cs := [wMo m0 a0 p0 q0 v0 t0 ho th tl, wMa cy a0 144 G, wMa cy p0 864 Hh, wMa cy q0 288 Sl, wMa cy v0 2 Sv]) (nb := fun (u : (Nat → Int32) × Int × (Nat → Int32) × Int) => [wMo m0 a0 p0 q0 v0 t0 u.2.1 u.2.2.2 tl, wMa cy a0 144 u.1, wMa cy p0 864 u.2.2.1, wMa cy q0 288 Sl, wMa cy v0 2 Sv]) (nbs := fun (u : (Nat → Int32) × Int × (Nat → Int32) × Int) => LBs cy ad o0 m0 a0 p0 q0 v0 t0 z_1 f_1 zt ft en B Kf nx_1 ct_1 Zh_1 Fh_1 Zs Fs sv tn tf O_1 u.2.1 u.2.2.2 tl u.1 u.2.2.1 Sl Sv Tx) [18, 19, 20, 21, 22] rfl rfl rfl (fun _ => rfl) (fun _ => rfl) (fun _ => rfl)) 81 5 rfl rfl rfl rfl hl.1 rfl (Nat.le_of_ble_eq_true rfl) dL_law_1436 ⟨Nat.le_trans (by omega) hro.1, Nat.le_trans (by omega) hro.2⟩ (fun r_2 u_2 H locs hw_2 hP hD hS => ?_)
  obtain ⟨G_2, ho_2, Hh_2, th_2⟩ := u_2
  have hw_2 : (¬ (x = 0 ∨ x = 1) ∧ r_2 = iI 0 ∧ th_2 = 1 ∧ G_2 = G ∧ ho_2 = ho ∧ Hh_2 = Hh) ∨ ((x = 0 ∨ x = 1) ∧ sl x.toNat = none ∧ r_2 = iI 0 ∧ th_2 = 2 ∧ G_2 = G ∧ ho_2 = ho ∧ Hh_2 = Hh) ∨ ((x = 0 ∨ x = 1) ∧ ∃ M2 : MS, sl x.toNat = some M2 ∧ r_2 = iI (M2.1.length : Int) ∧ th_2 = 0 ∧ RG G_2 M2 ∧ ho_2 = ((pushH h M).length : Int) ∧ RH Hh_2 (pushH h M)) := hw_2
  have hP : va_P D vwCl (LBs cy ad o0 m0 a0 p0 q0 v0 t0 z_1 f_1 zt ft en B Kf nx_1 ct_1 Zh_1 Fh_1 Zs Fs sv tn tf O_1 ho_2 th_2 tl G_2 Hh_2 Sl Sv Tx).flatten H := hP
  have hD : va_D (fun q : Nat => s.heap.size ≤ q) (LBs cy ad o0 m0 a0 p0 q0 v0 t0 z_1 f_1 zt ft en B Kf nx_1 ct_1 Zh_1 Fh_1 Zs Fs sv tn tf O_1 ho_2 th_2 tl G_2 Hh_2 Sl Sv Tx).flatten := hD
  have hj : r_1 = iI th_2 ∧ (r_1 = iI 0 → O_1 0 = lI r_2.toInt) ∧ LJ z_1 f_1 Kf nx_1 ct_1 Zh_1 Fh_1 Zs Fs sv tn tf ho_2 tl G_2 Hh_2 Sl Sv Tx := by
    rcases hw_1 with ⟨e1, v, ⟨c1, ⟨M2, s2, ev, hR1⟩, hH1⟩, eo⟩ | ⟨e1, c1, rfl, rfl, rfl, rfl, rfl, rfl⟩ | ⟨e1, ⟨c1, c1b⟩, rfl, rfl, rfl, rfl, rfl, rfl⟩
    · --
      rcases hw_2 with ⟨c2, e2, et, rfl, rfl, rfl⟩ | ⟨c2, c2b, e2, et, rfl, rfl, rfl⟩ | ⟨c2, M3, s3, e2, et, hG2, eho, hRH⟩
      · --
        first | exact absurd c1 c2 | exact absurd c2 c1 | (exfalso; omega)
      · --
        exact absurd (s2.symm.trans c2b) (by simp)
      · --
        obtain rfl : M2 = M3 := Option.some.inj (s2.symm.trans s3)
        exact ⟨by rw [e1, et], fun _ => by rw [eo, ev, e2], ⟨M2, (pushH h M), sl, tx, hR1, hG2, (RXS_ok hXS (by omega) s2), hH1, hRH, eho, (push_le hh6), hXS, hSl, hXt, hMt, ht80, hk⟩⟩
    · --
      rcases hw_2 with ⟨c2, e2, et, rfl, rfl, rfl⟩ | ⟨c2, c2b, e2, et, rfl, rfl, rfl⟩ | ⟨c2, M3, s3, e2, et, hG2, eho, hRH⟩
      · --
        exact ⟨by rw [e1, et], fun q => absurd (e1.symm.trans q) (by decide), ⟨M, h, sl, tx, hR, hG, hM, hH, hHh, hho, hh6, hXS, hSl, hXt, hMt, ht80, hk⟩⟩
      · --
        first | exact absurd c1 c2 | exact absurd c2 c1 | (exfalso; omega)
      · --
        first | exact absurd c1 c2 | exact absurd c2 c1 | (exfalso; omega)
    · --
      rcases hw_2 with ⟨c2, e2, et, rfl, rfl, rfl⟩ | ⟨c2, c2b, e2, et, rfl, rfl, rfl⟩ | ⟨c2, M3, s3, e2, et, hG2, eho, hRH⟩
      · --
        first | exact absurd c1 c2 | exact absurd c2 c1 | (exfalso; omega)
      · --
        exact ⟨by rw [e1, et], fun q => absurd (e1.symm.trans q) (by decide), ⟨M, h, sl, tx, hR, hG, hM, hH, hHh, hho, hh6, hXS, hSl, hXt, hMt, ht80, hk⟩⟩
      · --
        exact absurd (s3.symm.trans c1b) (by simp)
  refine lv_istore (lv' := [(6, .int r_2), (5, .int r_1), (4, .int (iI (i : Int))), (0, .ref b), (1, .ref (ad 0)), (2, .ref m0), (3, .ref o0)]) hx hb dL_law_1439 hl (by decide) rfl (fun ls hl => ?_)
  exact z_tail C (T := 1441) ⟨dL_law_1441, dL_law_1442, dL_law_1445, dL_law_1447, dL_law_1452, dL_law_1454, dL_law_1457, dL_law_1458, dL_law_1459, dL_law_1460, dL_law_1462, dL_law_1463, dL_law_1464, dL_law_1469⟩ (by decide) hP hD hS ⟨Nat.le_trans (by omega) hro.1, Nat.le_trans (by omega) hro.2⟩ hl hj.1 hj.2.1 hj.2.2 (fun H1 locs1 ls1 a1 a2 a3 => W.widen (k := cells + 2) (n := slots + 12) (by omega) (by omega) (kk H1 locs1 ls1 a1 a2 a3))
