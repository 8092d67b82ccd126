/-! cases of the law: finish, rewind, setLetter, lineLength, wordLength -/
set_option maxHeartbeats 4000000 in
set_option maxRecDepth 100000 in
theorem k_finish {p : Program} {l : Launch} {e : Env} {s : State} {m : MethodId} {below : List Frame} {meth : Method} {c : Code} {H : Heap} {locs : List Loc} {cells slots : Nat} {Q : State → Prop} {ls : Array Slot} {D : va_G} {cy : Nat → ClassId} {b L : Nat} {xs : Nat → Int32} {i : Nat} {ad : Nat → Nat} {o0 m0 a0 p0 q0 v0 t0 : Nat} (C : LC p l s m c b L xs D cy) (hi : (i : Int) + 2 < L) (hI : LI D cy ad o0 m0 a0 p0 q0 v0 t0 (fun q : Nat => s.heap.size ≤ q) H) (hS : va_S (fun q : Nat => s.heap.size ≤ q) s.heap H locs) (hro : cells + 2 ≤ 601024 ∧ slots + 12 ≤ 7293034) (hl : lv_has ls 7 (lvL i b (ad 0) m0 o0)) (kk : ∀ (H1 : Heap) (locs1 : List Loc) (ls1 : Array Slot), LI D cy ad o0 m0 a0 p0 q0 v0 t0 (fun q : Nat => s.heap.size ≤ q) H1 → va_S (fun q : Nat => s.heap.size ≤ q) s.heap H1 locs1 → lv_has ls1 7 (lvL i b (ad 0) m0 o0) → W p l e room_1 s m #[.ref b] below meth c H1 locs1 (cells + 2) (slots + 12) Q (F0 m 1472 ls1 [])) : W p l e room_1 s m #[.ref b] below meth c H locs cells slots Q (F0 m 397 ls []) := by
  obtain ⟨z, f, zt, ft, en, B, Kf, nx, ct, Zh, Fh, Zs, Fs, sv, tn, tf, O, ho, th, tl, G, Hh, Sl, Sv, Tx, ⟨M, h, sl, tx, hR, hG, hM, hH, hHh, hho, hh6, hXS, hSl, hXt, hMt, ht80, hk⟩, hP, hD⟩ := hI
  obtain ⟨hx, hb, hml, hown, hts, hX, hbl, hK, hT, hC, hZ, hfl, hL⟩ := id C
  have hA : ∀ q : Nat, s.heap.size ≤ q → (fun q : Nat => s.heap.size ≤ q) q := fun _ h => h
  have hl : lv_has ls 7 [(4, .int (iI (i : Int))), (0, .ref b), (1, .ref (ad 0)), (2, .ref m0), (3, .ref o0)] := hl
  refine lv_aload_n hx hb dL_law_397 rfl (lv_at hl 2 rfl) ?_
  refine z_gVi (n := 0) (b := ad 0) (As := []) (rest := []) ⟨hx, hb, hml, hown, hts⟩ (c_X4_finish l D cy ad z f M nx ct Zh Fh h en B Kf hR hM hH hk) gL_law_X4_finish rfl (by decide +kernel) ⟨Nat.le_of_ble_eq_true rfl, Nat.le_of_ble_eq_true rfl⟩ hK hT hP hS (Fp.blocks hP hD hS hA (cs := [wTop ad, wSt cy ad 1 z f, wHb ad ct, wKb cy ad nx, wSt cy ad 20 (Zh 0) (Fh 0), wSt cy ad 27 (Zh 1) (Fh 1), wSt cy ad 34 (Zh 2) (Fh 2), wSt cy ad 41 (Zh 3) (Fh 3), wSt cy ad 48 (Zh 4) (Fh 4), wSt cy ad 55 (Zh 5) (Fh 5), wEn cy ad en B Kf]) (nb := fun (u : (Nat → Int) × (Nat → Nat → Int32) × Int × Int × (Nat → Nat → Int) × (Nat → Nat → Nat → Int32) × Int × (Nat → Int) × (Nat → Int)) => [wTop ad, wSt cy ad 1 u.1 u.2.1, wHb ad u.2.2.2.1, wKb cy ad u.2.2.1, wSt cy ad 20 (u.2.2.2.2.1 0) (u.2.2.2.2.2.1 0), wSt cy ad 27 (u.2.2.2.2.1 1) (u.2.2.2.2.2.1 1), wSt cy ad 34 (u.2.2.2.2.1 2) (u.2.2.2.2.2.1 2), wSt cy ad 41 (u.2.2.2.2.1 3) (u.2.2.2.2.2.1 3), wSt cy ad 48 (u.2.2.2.2.1 4) (u.2.2.2.2.2.1 4), wSt cy ad 55 (u.2.2.2.2.1 5) (u.2.2.2.2.2.1 5), wEn cy ad u.2.2.2.2.2.2.1 u.2.2.2.2.2.2.2.1 u.2.2.2.2.2.2.2.2]) (nbs := fun (u : (Nat → Int) × (Nat → Nat → Int32) × Int × Int × (Nat → Nat → Int) × (Nat → Nat → Nat → Int32) × Int × (Nat → Int) × (Nat → Int)) => LBs cy ad o0 m0 a0 p0 q0 v0 t0 u.1 u.2.1 zt ft u.2.2.2.2.2.2.1 u.2.2.2.2.2.2.2.1 u.2.2.2.2.2.2.2.2 u.2.2.1 u.2.2.2.1 u.2.2.2.2.1 u.2.2.2.2.2.1 Zs Fs sv tn tf O ho th tl G Hh Sl Sv Tx) [0, 1, 4, 5, 6, 7, 8, 9, 10, 11, 3] rfl rfl rfl (fun _ => rfl) (fun _ => rfl) (fun _ => rfl)) 0 4 rfl rfl rfl rfl hl.1 rfl (Nat.le_of_ble_eq_true rfl) dL_law_398 ⟨Nat.le_trans (by omega) hro.1, Nat.le_trans (by omega) hro.2⟩ (fun r_1 u_1 H locs hw_1 hP hD hS => ?_)
  obtain ⟨z_1, f_1, nx_1, ct_1, Zh_1, Fh_1, en_1, B_1, Kf_1⟩ := u_1
  have hw_1 : r_1 = iI (mRun M).2 ∧ RS z_1 f_1 (mOf M (mRun M).1) ∧ RXH nx_1 ct_1 Zh_1 Fh_1 (pushH h M) ∧ ∀ j : Nat, 0 ≤ Kf_1 j ∧ Kf_1 j ≤ 17 := hw_1
  have hP : va_P D vwCl (LBs cy ad o0 m0 a0 p0 q0 v0 t0 z_1 f_1 zt ft en_1 B_1 Kf_1 nx_1 ct_1 Zh_1 Fh_1 Zs Fs sv tn tf O ho th tl G Hh Sl Sv Tx).flatten H := hP
  have hD : va_D (fun q : Nat => s.heap.size ≤ q) (LBs cy ad o0 m0 a0 p0 q0 v0 t0 z_1 f_1 zt ft en_1 B_1 Kf_1 nx_1 ct_1 Zh_1 Fh_1 Zs Fs sv tn tf O ho th tl G Hh Sl Sv Tx).flatten := hD
  refine lv_aload_n hx hb dL_law_401 rfl (lv_at hl 3 rfl) ?_
  refine z_gVi (n := 0) (b := m0) (As := []) (rest := [.int r_1]) ⟨hx, hb, hml, hown, hts⟩ (c_X5_finish l D cy m0 a0 p0 q0 v0 t0 ho th tl G Hh M h hG hM hHh ⟨hho, hh6⟩) gL_law_X5_finish rfl (by decide +kernel) ⟨Nat.le_of_ble_eq_true rfl, Nat.le_of_ble_eq_true rfl⟩ hK hT hP hS (Fp.blocks hP hD hS hA (cs := [wMo m0 a0 p0 q0 v0 t0 ho th tl, wMa cy a0 144 G, wMa cy p0 864 Hh]) (nb := fun (u : (Nat → Int32) × Int × (Nat → Int32)) => [wMo m0 a0 p0 q0 v0 t0 u.2.1 (0 : Int) tl, wMa cy a0 144 u.1, wMa cy p0 864 u.2.2]) (nbs := fun (u : (Nat → Int32) × Int × (Nat → Int32)) => LBs cy ad o0 m0 a0 p0 q0 v0 t0 z_1 f_1 zt ft en_1 B_1 Kf_1 nx_1 ct_1 Zh_1 Fh_1 Zs Fs sv tn tf O u.2.1 (0 : Int) tl u.1 u.2.2 Sl Sv Tx) [18, 19, 20] rfl rfl rfl (fun _ => rfl) (fun _ => rfl) (fun _ => rfl)) 81 5 rfl rfl rfl rfl hl.1 rfl (Nat.le_of_ble_eq_true rfl) dL_law_402 ⟨Nat.le_trans (by omega) hro.1, Nat.le_trans (by omega) hro.2⟩ (fun r_2 u_2 H locs hw_2 hP hD hS => ?_)
  obtain ⟨G_2, ho_2, Hh_2⟩ := u_2
  have hw_2 : r_2 = iI (mRun M).2 ∧ RG G_2 (mOf M (mRun M).1) ∧ ho_2 = ((pushH h M).length : Int) ∧ RH Hh_2 (pushH h M) := hw_2
  have hP : va_P D vwCl (LBs cy ad o0 m0 a0 p0 q0 v0 t0 z_1 f_1 zt ft en_1 B_1 Kf_1 nx_1 ct_1 Zh_1 Fh_1 Zs Fs sv tn tf O ho_2 (0 : Int) tl G_2 Hh_2 Sl Sv Tx).flatten H := hP
  have hD : va_D (fun q : Nat => s.heap.size ≤ q) (LBs cy ad o0 m0 a0 p0 q0 v0 t0 z_1 f_1 zt ft en_1 B_1 Kf_1 nx_1 ct_1 Zh_1 Fh_1 Zs Fs sv tn tf O ho_2 (0 : Int) tl G_2 Hh_2 Sl Sv Tx).flatten := hD
  have hj : r_1 = r_2 ∧ LJ z_1 f_1 Kf_1 nx_1 ct_1 Zh_1 Fh_1 Zs Fs sv tn tf ho_2 tl G_2 Hh_2 Sl Sv Tx := by
    obtain ⟨e1, hR1, hH1, hk1⟩ := hw_1
    obtain ⟨e2, hG2, eho, hRH⟩ := hw_2
    exact ⟨e1.trans e2.symm, ⟨(mOf M (mRun M).1), (pushH h M), sl, tx, hR1, hG2, hM.run, hH1, hRH, eho, (push_le hh6), hXS, hSl, hXt, hMt, ht80, hk1⟩⟩
  refine lv_icmp_eq (tgt := 1472) hx hb dL_law_405 (by decide) (fun _ => ?_) (fun q => absurd hj.1 q)
  exact (fun H1 locs1 ls1 a1 a2 a3 => W.widen (k := cells + 2) (n := slots + 12) (by omega) (by omega) (kk H1 locs1 ls1 a1 a2 a3)) _ _ _ ⟨z_1, f_1, zt, ft, en_1, B_1, Kf_1, nx_1, ct_1, Zh_1, Fh_1, Zs, Fs, sv, tn, tf, O, ho_2, (0 : Int), tl, G_2, Hh_2, Sl, Sv, Tx, hj.2, hP, hD⟩ hS hl
set_option maxHeartbeats 4000000 in
set_option maxRecDepth 100000 in
theorem k_rewind {p : Program} {l : Launch} {e : Env} {s : State} {m : MethodId} {below : List Frame} {meth : Method} {c : Code} {H : Heap} {locs : List Loc} {cells slots : Nat} {Q : State → Prop} {ls : Array Slot} {D : va_G} {cy : Nat → ClassId} {b L : Nat} {xs : Nat → Int32} {i : Nat} {ad : Nat → Nat} {o0 m0 a0 p0 q0 v0 t0 : Nat} (C : LC p l s m c b L xs D cy) (hi : (i : Int) + 2 < L) (hI : LI D cy ad o0 m0 a0 p0 q0 v0 t0 (fun q : Nat => s.heap.size ≤ q) H) (hS : va_S (fun q : Nat => s.heap.size ≤ q) s.heap H locs) (hro : cells + 2 ≤ 601024 ∧ slots + 12 ≤ 7293034) (hl : lv_has ls 7 (lvL i b (ad 0) m0 o0)) (kk : ∀ (H1 : Heap) (locs1 : List Loc) (ls1 : Array Slot), LI D cy ad o0 m0 a0 p0 q0 v0 t0 (fun q : Nat => s.heap.size ≤ q) H1 → va_S (fun q : Nat => s.heap.size ≤ q) s.heap H1 locs1 → lv_has ls1 7 (lvL i b (ad 0) m0 o0) → W p l e room_1 s m #[.ref b] below meth c H1 locs1 (cells + 2) (slots + 12) Q (F0 m 1472 ls1 [])) : W p l e room_1 s m #[.ref b] below meth c H locs cells slots Q (F0 m 410 ls []) := by
  obtain ⟨z, f, zt, ft, en, B, Kf, nx, ct, Zh, Fh, Zs, Fs, sv, tn, tf, O, ho, th, tl, G, Hh, Sl, Sv, Tx, ⟨M, h, sl, tx, hR, hG, hM, hH, hHh, hho, hh6, hXS, hSl, hXt, hMt, ht80, hk⟩, hP, hD⟩ := hI
  obtain ⟨hx, hb, hml, hown, hts, hX, hbl, hK, hT, hC, hZ, hfl, hL⟩ := id C
  have hA : ∀ q : Nat, s.heap.size ≤ q → (fun q : Nat => s.heap.size ≤ q) q := fun _ h => h
  have hl : lv_has ls 7 [(4, .int (iI (i : Int))), (0, .ref b), (1, .ref (ad 0)), (2, .ref m0), (3, .ref o0)] := hl
  refine lv_aload_n hx hb dL_law_410 rfl (lv_at hl 2 rfl) ?_
  refine z_gVi (n := 0) (b := ad 0) (As := []) (rest := []) ⟨hx, hb, hml, hown, hts⟩ (c_X4_rewind l D cy ad z f M nx ct Zh Fh h hR hM hH) gL_law_X4_rewind rfl (by decide +kernel) ⟨Nat.le_of_ble_eq_true rfl, Nat.le_of_ble_eq_true rfl⟩ hK hT hP hS (Fp.blocks hP hD hS hA (cs := [wTop ad, wSt cy ad 1 z f, wHb ad ct, wKb cy ad nx, wSt cy ad 20 (Zh 0) (Fh 0), wSt cy ad 27 (Zh 1) (Fh 1), wSt cy ad 34 (Zh 2) (Fh 2), wSt cy ad 41 (Zh 3) (Fh 3), wSt cy ad 48 (Zh 4) (Fh 4), wSt cy ad 55 (Zh 5) (Fh 5)]) (nb := fun (u : (Nat → Int) × (Nat → Nat → Int32) × Int × Int × (Nat → Nat → Int) × (Nat → Nat → Nat → Int32)) => [wTop ad, wSt cy ad 1 u.1 u.2.1, wHb ad u.2.2.2.1, wKb cy ad u.2.2.1, wSt cy ad 20 (u.2.2.2.2.1 0) (u.2.2.2.2.2 0), wSt cy ad 27 (u.2.2.2.2.1 1) (u.2.2.2.2.2 1), wSt cy ad 34 (u.2.2.2.2.1 2) (u.2.2.2.2.2 2), wSt cy ad 41 (u.2.2.2.2.1 3) (u.2.2.2.2.2 3), wSt cy ad 48 (u.2.2.2.2.1 4) (u.2.2.2.2.2 4), wSt cy ad 55 (u.2.2.2.2.1 5) (u.2.2.2.2.2 5)]) (nbs := fun (u : (Nat → Int) × (Nat → Nat → Int32) × Int × Int × (Nat → Nat → Int) × (Nat → Nat → Nat → Int32)) => LBs cy ad o0 m0 a0 p0 q0 v0 t0 u.1 u.2.1 zt ft en B Kf u.2.2.1 u.2.2.2.1 u.2.2.2.2.1 u.2.2.2.2.2 Zs Fs sv tn tf O ho th tl G Hh Sl Sv Tx) [0, 1, 4, 5, 6, 7, 8, 9, 10, 11] rfl rfl rfl (fun _ => rfl) (fun _ => rfl) (fun _ => rfl)) 0 4 rfl rfl rfl rfl hl.1 rfl (Nat.le_of_ble_eq_true rfl) dL_law_411 ⟨Nat.le_trans (by omega) hro.1, Nat.le_trans (by omega) hro.2⟩ (fun r_1 u_1 H locs hw_1 hP hD hS => ?_)
  obtain ⟨z_1, f_1, nx_1, ct_1, Zh_1, Fh_1⟩ := u_1
  have hw_1 : r_1 = iI M.2.2.2.2.2.2.1 ∧ RS z_1 f_1 (bgn M) ∧ RXH nx_1 ct_1 Zh_1 Fh_1 (pushH h M) := hw_1
  have hP : va_P D vwCl (LBs cy ad o0 m0 a0 p0 q0 v0 t0 z_1 f_1 zt ft en B Kf nx_1 ct_1 Zh_1 Fh_1 Zs Fs sv tn tf O ho th tl G Hh Sl Sv Tx).flatten H := hP
  have hD : va_D (fun q : Nat => s.heap.size ≤ q) (LBs cy ad o0 m0 a0 p0 q0 v0 t0 z_1 f_1 zt ft en B Kf nx_1 ct_1 Zh_1 Fh_1 Zs Fs sv tn tf O ho th tl G Hh Sl Sv Tx).flatten := hD
  refine lv_aload_n hx hb dL_law_414 rfl (lv_at hl 3 rfl) ?_
  refine z_gVi (n := 0) (b := m0) (As := []) (rest := [.int r_1]) ⟨hx, hb, hml, hown, hts⟩ (c_X5_rewind l D cy m0 a0 p0 q0 v0 t0 ho th tl G Hh M h hG hM hHh ⟨hho, hh6⟩) gL_law_X5_rewind rfl (by decide +kernel) ⟨Nat.le_of_ble_eq_true rfl, Nat.le_of_ble_eq_true rfl⟩ hK hT hP hS (Fp.blocks hP hD hS hA (cs := [wMo m0 a0 p0 q0 v0 t0 ho th tl, wMa cy a0 144 G, wMa cy p0 864 Hh]) (nb := fun (u : (Nat → Int32) × Int × (Nat → Int32)) => [wMo m0 a0 p0 q0 v0 t0 u.2.1 (0 : Int) tl, wMa cy a0 144 u.1, wMa cy p0 864 u.2.2]) (nbs := fun (u : (Nat → Int32) × Int × (Nat → Int32)) => LBs cy ad o0 m0 a0 p0 q0 v0 t0 z_1 f_1 zt ft en B Kf nx_1 ct_1 Zh_1 Fh_1 Zs Fs sv tn tf O u.2.1 (0 : Int) tl u.1 u.2.2 Sl Sv Tx) [18, 19, 20] rfl rfl rfl (fun _ => rfl) (fun _ => rfl) (fun _ => rfl)) 81 5 rfl rfl rfl rfl hl.1 rfl (Nat.le_of_ble_eq_true rfl) dL_law_415 ⟨Nat.le_trans (by omega) hro.1, Nat.le_trans (by omega) hro.2⟩ (fun r_2 u_2 H locs hw_2 hP hD hS => ?_)
  obtain ⟨G_2, ho_2, Hh_2⟩ := u_2
  have hw_2 : r_2 = iI M.2.2.2.2.2.2.1 ∧ RG G_2 (bgn M) ∧ ho_2 = ((pushH h M).length : Int) ∧ RH Hh_2 (pushH h M) := hw_2
  have hP : va_P D vwCl (LBs cy ad o0 m0 a0 p0 q0 v0 t0 z_1 f_1 zt ft en B Kf nx_1 ct_1 Zh_1 Fh_1 Zs Fs sv tn tf O ho_2 (0 : Int) tl G_2 Hh_2 Sl Sv Tx).flatten H := hP
  have hD : va_D (fun q : Nat => s.heap.size ≤ q) (LBs cy ad o0 m0 a0 p0 q0 v0 t0 z_1 f_1 zt ft en B Kf nx_1 ct_1 Zh_1 Fh_1 Zs Fs sv tn tf O ho_2 (0 : Int) tl G_2 Hh_2 Sl Sv Tx).flatten := hD
  have hj : r_1 = r_2 ∧ LJ z_1 f_1 Kf nx_1 ct_1 Zh_1 Fh_1 Zs Fs sv tn tf ho_2 tl G_2 Hh_2 Sl Sv Tx := by
    obtain ⟨e1, hR1, hH1⟩ := hw_1
    obtain ⟨e2, hG2, eho, hRH⟩ := hw_2
    exact ⟨e1.trans e2.symm, ⟨(bgn M), (pushH h M), sl, tx, hR1, hG2, hM.bgn, hH1, hRH, eho, (push_le hh6), hXS, hSl, hXt, hMt, ht80, hk⟩⟩
  refine lv_icmp_eq (tgt := 1472) hx hb dL_law_418 (by decide) (fun _ => ?_) (fun q => absurd hj.1 q)
  exact (fun H1 locs1 ls1 a1 a2 a3 => W.widen (k := cells + 2) (n := slots + 12) (by omega) (by omega) (kk H1 locs1 ls1 a1 a2 a3)) _ _ _ ⟨z_1, f_1, zt, ft, en, B, Kf, nx_1, ct_1, Zh_1, Fh_1, Zs, Fs, sv, tn, tf, O, ho_2, (0 : Int), tl, G_2, Hh_2, Sl, Sv, Tx, hj.2, hP, hD⟩ hS hl
set_option maxHeartbeats 4000000 in
set_option maxRecDepth 100000 in
theorem k_setLetter {p : Program} {l : Launch} {e : Env} {s : State} {m : MethodId} {below : List Frame} {meth : Method} {c : Code} {H : Heap} {locs : List Loc} {cells slots : Nat} {Q : State → Prop} {ls : Array Slot} {D : va_G} {cy : Nat → ClassId} {b L : Nat} {xs : Nat → Int32} {i : Nat} {ad : Nat → Nat} {o0 m0 a0 p0 q0 v0 t0 : Nat} (C : LC p l s m c b L xs D cy) (hi : (i : Int) + 2 < L) (hI : LI D cy ad o0 m0 a0 p0 q0 v0 t0 (fun q : Nat => s.heap.size ≤ q) H) (hS : va_S (fun q : Nat => s.heap.size ≤ q) s.heap H locs) (hro : cells + 2 ≤ 601024 ∧ slots + 12 ≤ 7293034) (hl : lv_has ls 7 (lvL i b (ad 0) m0 o0)) (kk : ∀ (H1 : Heap) (locs1 : List Loc) (ls1 : Array Slot), LI D cy ad o0 m0 a0 p0 q0 v0 t0 (fun q : Nat => s.heap.size ≤ q) H1 → va_S (fun q : Nat => s.heap.size ≤ q) s.heap H1 locs1 → lv_has ls1 7 (lvL i b (ad 0) m0 o0) → W p l e room_1 s m #[.ref b] below meth c H1 locs1 (cells + 2) (slots + 12) Q (F0 m 1472 ls1 [])) : W p l e room_1 s m #[.ref b] below meth c H locs cells slots Q (F0 m 423 ls []) := by
  obtain ⟨z, f, zt, ft, en, B, Kf, nx, ct, Zh, Fh, Zs, Fs, sv, tn, tf, O, ho, th, tl, G, Hh, Sl, Sv, Tx, ⟨M, h, sl, tx, hR, hG, hM, hH, hHh, hho, hh6, hXS, hSl, hXt, hMt, ht80, hk⟩, hP, hD⟩ := hI
  obtain ⟨hx, hb, hml, hown, hts, hX, hbl, hK, hT, hC, hZ, hfl, hL⟩ := id C
  have hA : ∀ q : Nat, s.heap.size ≤ q → (fun q : Nat => s.heap.size ≤ q) q := fun _ h => h
  have hl : lv_has ls 7 [(4, .int (iI (i : Int))), (0, .ref b), (1, .ref (ad 0)), (2, .ref m0), (3, .ref o0)] := hl
  obtain ⟨x, ex⟩ : ∃ x : Int, (xs ((i : Int) + 1).toNat).toInt = x := ⟨_, rfl⟩
  have hx1 : -2147483648 ≤ x ∧ x < 2147483648 := by rw [← ex]; exact ⟨iI_lo _, iI_hi _⟩
  obtain ⟨y, ey⟩ : ∃ y : Int, (xs ((i : Int) + 2).toNat).toInt = y := ⟨_, rfl⟩
  have hy1 : -2147483648 ≤ y ∧ y < 2147483648 := by rw [← ey]; exact ⟨iI_lo _, iI_hi _⟩
  refine lv_aload_n hx hb dL_law_423 rfl (lv_at hl 2 rfl) ?_
  refine z_arg C hS (lv_at hl 1 rfl) (lv_at hl 0 rfl) (by omega) (by omega) ex dL_law_424 dL_law_425 dL_law_427 dL_law_428 dL_law_429 ?_
  refine z_arg C hS (lv_at hl 1 rfl) (lv_at hl 0 rfl) (by omega) (by omega) ey dL_law_430 dL_law_431 dL_law_433 dL_law_434 dL_law_435 ?_
  refine lv_aload_n hx hb dL_law_436 rfl (lv_at hl 4 rfl) ?_
  refine z_hSi (n := 4) (As := [.ref (ad 0), .int (iI x), .int (iI y), .ref o0]) (rest := []) ⟨hx, hb, hml, hown, hts⟩ (c_L_setLetter l hfl D cy ad z f M nx ct Zh Fh h x y o0 O hR hM hH hx1 hy1) gL_law_L_setLetter rfl (by decide +kernel) ⟨Nat.le_of_ble_eq_true rfl, Nat.le_of_ble_eq_true rfl⟩ hK hT hC hZ hS (Fp.blocks hP hD hS hA (cs := [wTop ad, wSt cy ad 1 z f, wHb ad ct, wKb cy ad nx, wSt cy ad 20 (Zh 0) (Fh 0), wSt cy ad 27 (Zh 1) (Fh 1), wSt cy ad 34 (Zh 2) (Fh 2), wSt cy ad 41 (Zh 3) (Fh 3), wSt cy ad 48 (Zh 4) (Fh 4), wSt cy ad 55 (Zh 5) (Fh 5), wOt cy o0 O]) (nb := fun (u : (Nat → Int) × (Nat → Nat → Int32) × Int × Int × (Nat → Nat → Int) × (Nat → Nat → Nat → Int32) × (Nat → Int64)) => [wTop ad, wSt cy ad 1 u.1 u.2.1, wHb ad u.2.2.2.1, wKb cy ad u.2.2.1, wSt cy ad 20 (u.2.2.2.2.1 0) (u.2.2.2.2.2.1 0), wSt cy ad 27 (u.2.2.2.2.1 1) (u.2.2.2.2.2.1 1), wSt cy ad 34 (u.2.2.2.2.1 2) (u.2.2.2.2.2.1 2), wSt cy ad 41 (u.2.2.2.2.1 3) (u.2.2.2.2.2.1 3), wSt cy ad 48 (u.2.2.2.2.1 4) (u.2.2.2.2.2.1 4), wSt cy ad 55 (u.2.2.2.2.1 5) (u.2.2.2.2.2.1 5), wOt cy o0 u.2.2.2.2.2.2]) (nbs := fun (u : (Nat → Int) × (Nat → Nat → Int32) × Int × Int × (Nat → Nat → Int) × (Nat → Nat → Nat → Int32) × (Nat → Int64)) => LBs cy ad o0 m0 a0 p0 q0 v0 t0 u.1 u.2.1 zt ft en B Kf u.2.2.1 u.2.2.2.1 u.2.2.2.2.1 u.2.2.2.2.2.1 Zs Fs sv tn tf u.2.2.2.2.2.2 ho th tl G Hh Sl Sv Tx) [0, 1, 4, 5, 6, 7, 8, 9, 10, 11, 17] rfl rfl rfl (fun _ => rfl) (fun _ => rfl) (fun _ => rfl)) rfl hl.1 rfl (Nat.le_of_ble_eq_true rfl) dL_law_437 ⟨Nat.le_trans (by omega) hro.1, Nat.le_trans (by omega) hro.2⟩ (fun r_1 u_1 H locs hw_1 hP hD hS => ?_)
  obtain ⟨z_1, f_1, nx_1, ct_1, Zh_1, Fh_1, O_1⟩ := u_1
  have hw_1 : (r_1 = iI 0 ∧ ∃ v : Int32, ((0 ≤ x ∧ x < (M.1.length : Int)) ∧ (0 ≤ y ∧ y ≤ 25) ∧ v = gl M.1 x.toNat ∧ RS z_1 f_1 (mSet M x.toNat (iI y)) ∧ RXH nx_1 ct_1 Zh_1 Fh_1 (pushH h M)) ∧ O_1 0 = lI v.toInt) ∨ (r_1 = iI 1 ∧ (¬ (0 ≤ x ∧ x < (M.1.length : Int))) ∧ z_1 = z ∧ f_1 = f ∧ nx_1 = nx ∧ ct_1 = ct ∧ Zh_1 = Zh ∧ Fh_1 = Fh) ∨ (r_1 = iI 2 ∧ ((0 ≤ x ∧ x < (M.1.length : Int)) ∧ ¬ (0 ≤ y ∧ y ≤ 25)) ∧ z_1 = z ∧ f_1 = f ∧ nx_1 = nx ∧ ct_1 = ct ∧ Zh_1 = Zh ∧ Fh_1 = Fh) := hw_1
  have hP : va_P D vwCl (LBs cy ad o0 m0 a0 p0 q0 v0 t0 z_1 f_1 zt ft en B Kf nx_1 ct_1 Zh_1 Fh_1 Zs Fs sv tn tf O_1 ho th tl G Hh Sl Sv Tx).flatten H := hP
  have hD : va_D (fun q : Nat => s.heap.size ≤ q) (LBs cy ad o0 m0 a0 p0 q0 v0 t0 z_1 f_1 zt ft en B Kf nx_1 ct_1 Zh_1 Fh_1 Zs Fs sv tn tf O_1 ho th tl G Hh Sl Sv Tx).flatten := hD
  refine lv_istore (lv' := [(5, .int r_1), (4, .int (iI (i : Int))), (0, .ref b), (1, .ref (ad 0)), (2, .ref m0), (3, .ref o0)]) hx hb dL_law_440 hl (by decide) rfl (fun ls hl => ?_)
  refine lv_aload_n hx hb dL_law_442 rfl (lv_at hl 4 rfl) ?_
  refine z_arg C hS (lv_at hl 2 rfl) (lv_at hl 1 rfl) (by omega) (by omega) ex dL_law_443 dL_law_444 dL_law_446 dL_law_447 dL_law_448 ?_
  refine z_arg C hS (lv_at hl 2 rfl) (lv_at hl 1 rfl) (by omega) (by omega) ey dL_law_449 dL_law_450 dL_law_452 dL_law_453 dL_law_454 ?_
  refine z_gVi (n := 2) (b := m0) (As := [.int (iI x), .int (iI y)]) (rest := []) ⟨hx, hb, hml, hown, hts⟩ (c_X5_setLetter l D cy m0 a0 p0 q0 v0 t0 ho th tl G Hh M h x y hG hM hHh ⟨hho, hh6⟩ hx1 hy1) gL_law_X5_setLetter rfl (by decide +kernel) ⟨Nat.le_of_ble_eq_true rfl, Nat.le_of_ble_eq_true rfl⟩ hK hT hP hS (Fp.blocks hP hD hS hA (cs := [wMo m0 a0 p0 q0 v0 t0 ho th tl, wMa cy a0 144 G, wMa cy p0 864 Hh]) (nb := fun (u : (Nat → Int32) × Int × (Nat → Int32) × Int) => [wMo m0 a0 p0 q0 v0 t0 u.2.1 u.2.2.2 tl, wMa cy a0 144 u.1, wMa cy p0 864 u.2.2.1]) (nbs := fun (u : (Nat → Int32) × Int × (Nat → Int32) × Int) => LBs cy ad o0 m0 a0 p0 q0 v0 t0 z_1 f_1 zt ft en B Kf nx_1 ct_1 Zh_1 Fh_1 Zs Fs sv tn tf O_1 u.2.1 u.2.2.2 tl u.1 u.2.2.1 Sl Sv Tx) [18, 19, 20] rfl rfl rfl (fun _ => rfl) (fun _ => rfl) (fun _ => rfl)) 81 5 rfl rfl rfl rfl hl.1 rfl (Nat.le_of_ble_eq_true rfl) dL_law_455 ⟨Nat.le_trans (by omega) hro.1, Nat.le_trans (by omega) hro.2⟩ (fun r_2 u_2 H locs hw_2 hP hD hS => ?_)
  obtain ⟨G_2, ho_2, Hh_2, th_2⟩ := u_2
  have hw_2 : (¬ (0 ≤ x ∧ x < (M.1.length : Int)) ∧ r_2 = iI 0 ∧ th_2 = 1 ∧ G_2 = G ∧ ho_2 = ho ∧ Hh_2 = Hh) ∨ ((0 ≤ x ∧ x < (M.1.length : Int)) ∧ ¬ (0 ≤ y ∧ y ≤ 25) ∧ r_2 = iI 0 ∧ th_2 = 2 ∧ G_2 = G ∧ ho_2 = ho ∧ Hh_2 = Hh) ∨ ((0 ≤ x ∧ x < (M.1.length : Int)) ∧ (0 ≤ y ∧ y ≤ 25) ∧ r_2 = gl M.1 x.toNat ∧ th_2 = 0 ∧ RG G_2 (mSet M x.toNat (iI y)) ∧ ho_2 = ((pushH h M).length : Int) ∧ RH Hh_2 (pushH h M)) := hw_2
  have hP : va_P D vwCl (LBs cy ad o0 m0 a0 p0 q0 v0 t0 z_1 f_1 zt ft en B Kf nx_1 ct_1 Zh_1 Fh_1 Zs Fs sv tn tf O_1 ho_2 th_2 tl G_2 Hh_2 Sl Sv Tx).flatten H := hP
  have hD : va_D (fun q : Nat => s.heap.size ≤ q) (LBs cy ad o0 m0 a0 p0 q0 v0 t0 z_1 f_1 zt ft en B Kf nx_1 ct_1 Zh_1 Fh_1 Zs Fs sv tn tf O_1 ho_2 th_2 tl G_2 Hh_2 Sl Sv Tx).flatten := hD
  have hj : r_1 = iI th_2 ∧ (r_1 = iI 0 → O_1 0 = lI r_2.toInt) ∧ LJ z_1 f_1 Kf nx_1 ct_1 Zh_1 Fh_1 Zs Fs sv tn tf ho_2 tl G_2 Hh_2 Sl Sv Tx := by
    rcases hw_1 with ⟨e1, v, ⟨c1, c1b, ev, hR1, hH1⟩, eo⟩ | ⟨e1, c1, rfl, rfl, rfl, rfl, rfl, rfl⟩ | ⟨e1, ⟨c1, c1b⟩, rfl, rfl, rfl, rfl, rfl, rfl⟩
    · --
      rcases hw_2 with ⟨c2, e2, et, rfl, rfl, rfl⟩ | ⟨c2, c2b, e2, et, rfl, rfl, rfl⟩ | ⟨c2, c2b, e2, et, hG2, eho, hRH⟩
      · --
        first | exact absurd c1 c2 | exact absurd c2 c1 | (exfalso; omega)
      · --
        first | exact absurd c1 c2 | exact absurd c2 c1 | (exfalso; omega)
      · --
        exact ⟨by rw [e1, et], fun _ => by rw [eo, ev, e2], ⟨(mSet M x.toNat (iI y)), (pushH h M), sl, tx, hR1, hG2, hM.set, hH1, hRH, eho, (push_le hh6), hXS, hSl, hXt, hMt, ht80, hk⟩⟩
    · --
      rcases hw_2 with ⟨c2, e2, et, rfl, rfl, rfl⟩ | ⟨c2, c2b, e2, et, rfl, rfl, rfl⟩ | ⟨c2, c2b, e2, et, hG2, eho, hRH⟩
      · --
        exact ⟨by rw [e1, et], fun q => absurd (e1.symm.trans q) (by decide), ⟨M, h, sl, tx, hR, hG, hM, hH, hHh, hho, hh6, hXS, hSl, hXt, hMt, ht80, hk⟩⟩
      · --
        first | exact absurd c1 c2 | exact absurd c2 c1 | (exfalso; omega)
      · --
        first | exact absurd c1 c2 | exact absurd c2 c1 | (exfalso; omega)
    · --
      rcases hw_2 with ⟨c2, e2, et, rfl, rfl, rfl⟩ | ⟨c2, c2b, e2, et, rfl, rfl, rfl⟩ | ⟨c2, c2b, e2, et, hG2, eho, hRH⟩
      · --
        first | exact absurd c1 c2 | exact absurd c2 c1 | (exfalso; omega)
      · --
        exact ⟨by rw [e1, et], fun q => absurd (e1.symm.trans q) (by decide), ⟨M, h, sl, tx, hR, hG, hM, hH, hHh, hho, hh6, hXS, hSl, hXt, hMt, ht80, hk⟩⟩
      · --
        first | exact absurd c1 c2 | exact absurd c2 c1 | (exfalso; omega)
  refine lv_istore (lv' := [(6, .int r_2), (5, .int r_1), (4, .int (iI (i : Int))), (0, .ref b), (1, .ref (ad 0)), (2, .ref m0), (3, .ref o0)]) hx hb dL_law_458 hl (by decide) rfl (fun ls hl => ?_)
  exact z_tail C (T := 460) ⟨dL_law_460, dL_law_461, dL_law_464, dL_law_466, dL_law_471, dL_law_473, dL_law_476, dL_law_477, dL_law_478, dL_law_479, dL_law_481, dL_law_482, dL_law_483, dL_law_488⟩ (by decide) hP hD hS ⟨Nat.le_trans (by omega) hro.1, Nat.le_trans (by omega) hro.2⟩ hl hj.1 hj.2.1 hj.2.2 (fun H1 locs1 ls1 a1 a2 a3 => W.widen (k := cells + 2) (n := slots + 12) (by omega) (by omega) (kk H1 locs1 ls1 a1 a2 a3))
set_option maxHeartbeats 4000000 in
set_option maxRecDepth 100000 in
theorem k_lineLength {p : Program} {l : Launch} {e : Env} {s : State} {m : MethodId} {below : List Frame} {meth : Method} {c : Code} {H : Heap} {locs : List Loc} {cells slots : Nat} {Q : State → Prop} {ls : Array Slot} {D : va_G} {cy : Nat → ClassId} {b L : Nat} {xs : Nat → Int32} {i : Nat} {ad : Nat → Nat} {o0 m0 a0 p0 q0 v0 t0 : Nat} (C : LC p l s m c b L xs D cy) (hi : (i : Int) + 2 < L) (hI : LI D cy ad o0 m0 a0 p0 q0 v0 t0 (fun q : Nat => s.heap.size ≤ q) H) (hS : va_S (fun q : Nat => s.heap.size ≤ q) s.heap H locs) (hro : cells + 2 ≤ 601024 ∧ slots + 12 ≤ 7293034) (hl : lv_has ls 7 (lvL i b (ad 0) m0 o0)) (kk : ∀ (H1 : Heap) (locs1 : List Loc) (ls1 : Array Slot), LI D cy ad o0 m0 a0 p0 q0 v0 t0 (fun q : Nat => s.heap.size ≤ q) H1 → va_S (fun q : Nat => s.heap.size ≤ q) s.heap H1 locs1 → lv_has ls1 7 (lvL i b (ad 0) m0 o0) → W p l e room_1 s m #[.ref b] below meth c H1 locs1 (cells + 2) (slots + 12) Q (F0 m 1472 ls1 [])) : W p l e room_1 s m #[.ref b] below meth c H locs cells slots Q (F0 m 491 ls []) := by
  obtain ⟨z, f, zt, ft, en, B, Kf, nx, ct, Zh, Fh, Zs, Fs, sv, tn, tf, O, ho, th, tl, G, Hh, Sl, Sv, Tx, ⟨M, h, sl, tx, hR, hG, hM, hH, hHh, hho, hh6, hXS, hSl, hXt, hMt, ht80, hk⟩, hP, hD⟩ := hI
  obtain ⟨hx, hb, hml, hown, hts, hX, hbl, hK, hT, hC, hZ, hfl, hL⟩ := id C
  have hA : ∀ q : Nat, s.heap.size ≤ q → (fun q : Nat => s.heap.size ≤ q) q := fun _ h => h
  have hl : lv_has ls 7 [(4, .int (iI (i : Int))), (0, .ref b), (1, .ref (ad 0)), (2, .ref m0), (3, .ref o0)] := hl
  refine lv_aload_n hx hb dL_law_491 rfl (lv_at hl 2 rfl) ?_
  refine z_gVi (n := 0) (b := ad 0) (As := []) (rest := []) ⟨hx, hb, hml, hown, hts⟩ (c_X4_lineLength l D cy ad z f M hR hM) gL_law_X4_lineLength rfl (by decide +kernel) ⟨Nat.le_of_ble_eq_true rfl, Nat.le_of_ble_eq_true rfl⟩ hK hT hP hS (Fp.same hP hD hS hA [0, 1, 2, 3, 4, 5, 6, 7] rfl rfl (fun _ => rfl)) 0 4 rfl rfl rfl rfl hl.1 rfl (Nat.le_of_ble_eq_true rfl) dL_law_492 ⟨Nat.le_trans (by omega) hro.1, Nat.le_trans (by omega) hro.2⟩ (fun r_1 u_1 H locs hw_1 hP hD hS => ?_)
  have hw_1 : r_1 = iI (M.1.length : Int) := hw_1
  have hP : va_P D vwCl (LBs cy ad o0 m0 a0 p0 q0 v0 t0 z f zt ft en B Kf nx ct Zh Fh Zs Fs sv tn tf O ho th tl G Hh Sl Sv Tx).flatten H := hP
  have hD : va_D (fun q : Nat => s.heap.size ≤ q) (LBs cy ad o0 m0 a0 p0 q0 v0 t0 z f zt ft en B Kf nx ct Zh Fh Zs Fs sv tn tf O ho th tl G Hh Sl Sv Tx).flatten := hD
  refine lv_aload_n hx hb dL_law_495 rfl (lv_at hl 3 rfl) ?_
  refine z_gVi (n := 0) (b := m0) (As := []) (rest := [.int r_1]) ⟨hx, hb, hml, hown, hts⟩ (c_X5_lineLength l D cy m0 a0 p0 q0 v0 t0 ho th tl G M hG hM) gL_law_X5_lineLength rfl (by decide +kernel) ⟨Nat.le_of_ble_eq_true rfl, Nat.le_of_ble_eq_true rfl⟩ hK hT hP hS (Fp.blocks hP hD hS hA (cs := [wMo m0 a0 p0 q0 v0 t0 ho th tl, wMa cy a0 144 G]) (nb := fun (u : Unit) => [wMo m0 a0 p0 q0 v0 t0 ho (0 : Int) tl, wMa cy a0 144 G]) (nbs := fun (u : Unit) => LBs cy ad o0 m0 a0 p0 q0 v0 t0 z f zt ft en B Kf nx ct Zh Fh Zs Fs sv tn tf O ho (0 : Int) tl G Hh Sl Sv Tx) [18, 19] rfl rfl rfl (fun _ => rfl) (fun _ => rfl) (fun _ => rfl)) 81 5 rfl rfl rfl rfl hl.1 rfl (Nat.le_of_ble_eq_true rfl) dL_law_496 ⟨Nat.le_trans (by omega) hro.1, Nat.le_trans (by omega) hro.2⟩ (fun r_2 u_2 H locs hw_2 hP hD hS => ?_)
  have hw_2 : r_2 = iI (M.1.length : Int) := hw_2
  have hP : va_P D vwCl (LBs cy ad o0 m0 a0 p0 q0 v0 t0 z f zt ft en B Kf nx ct Zh Fh Zs Fs sv tn tf O ho (0 : Int) tl G Hh Sl Sv Tx).flatten H := hP
  have hD : va_D (fun q : Nat => s.heap.size ≤ q) (LBs cy ad o0 m0 a0 p0 q0 v0 t0 z f zt ft en B Kf nx ct Zh Fh Zs Fs sv tn tf O ho (0 : Int) tl G Hh Sl Sv Tx).flatten := hD
  have hj : r_1 = r_2 ∧ LJ z f Kf nx ct Zh Fh Zs Fs sv tn tf ho tl G Hh Sl Sv Tx := by
    have e1 := hw_1
    have e2 := hw_2
    exact ⟨e1.trans e2.symm, ⟨M, h, sl, tx, hR, hG, hM, hH, hHh, hho, hh6, hXS, hSl, hXt, hMt, ht80, hk⟩⟩
  refine lv_icmp_eq (tgt := 1472) hx hb dL_law_499 (by decide) (fun _ => ?_) (fun q => absurd hj.1 q)
  exact (fun H1 locs1 ls1 a1 a2 a3 => W.widen (k := cells + 2) (n := slots + 12) (by omega) (by omega) (kk H1 locs1 ls1 a1 a2 a3)) _ _ _ ⟨z, f, zt, ft, en, B, Kf, nx, ct, Zh, Fh, Zs, Fs, sv, tn, tf, O, ho, (0 : Int), tl, G, Hh, Sl, Sv, Tx, hj.2, hP, hD⟩ hS hl
set_option maxHeartbeats 4000000 in
set_option maxRecDepth 100000 in
theorem k_wordLength {p : Program} {l : Launch} {e : Env} {s : State} {m : MethodId} {below : List Frame} {meth : Method} {c : Code} {H : Heap} {locs : List Loc} {cells slots : Nat} {Q : State → Prop} {ls : Array Slot} {D : va_G} {cy : Nat → ClassId} {b L : Nat} {xs : Nat → Int32} {i : Nat} {ad : Nat → Nat} {o0 m0 a0 p0 q0 v0 t0 : Nat} (C : LC p l s m c b L xs D cy) (hi : (i : Int) + 2 < L) (hI : LI D cy ad o0 m0 a0 p0 q0 v0 t0 (fun q : Nat => s.heap.size ≤ q) H) (hS : va_S (fun q : Nat => s.heap.size ≤ q) s.heap H locs) (hro : cells + 2 ≤ 601024 ∧ slots + 12 ≤ 7293034) (hl : lv_has ls 7 (lvL i b (ad 0) m0 o0)) (kk : ∀ (H1 : Heap) (locs1 : List Loc) (ls1 : Array Slot), LI D cy ad o0 m0 a0 p0 q0 v0 t0 (fun q : Nat => s.heap.size ≤ q) H1 → va_S (fun q : Nat => s.heap.size ≤ q) s.heap H1 locs1 → lv_has ls1 7 (lvL i b (ad 0) m0 o0) → W p l e room_1 s m #[.ref b] below meth c H1 locs1 (cells + 2) (slots + 12) Q (F0 m 1472 ls1 [])) : W p l e room_1 s m #[.ref b] below meth c H locs cells slots Q (F0 m 504 ls []) := by
  obtain ⟨z, f, zt, ft, en, B, Kf, nx, ct, Zh, Fh, Zs, Fs, sv, tn, tf, O, ho, th, tl, G, Hh, Sl, Sv, Tx, ⟨M, h, sl, tx, hR, hG, hM, hH, hHh, hho, hh6, hXS, hSl, hXt, hMt, ht80, hk⟩, hP, hD⟩ := hI
  obtain ⟨hx, hb, hml, hown, hts, hX, hbl, hK, hT, hC, hZ, hfl, hL⟩ := id C
  have hA : ∀ q : Nat, s.heap.size ≤ q → (fun q : Nat => s.heap.size ≤ q) q := fun _ h => h
  have hl : lv_has ls 7 [(4, .int (iI (i : Int))), (0, .ref b), (1, .ref (ad 0)), (2, .ref m0), (3, .ref o0)] := hl
  refine lv_aload_n hx hb dL_law_504 rfl (lv_at hl 2 rfl) ?_
  refine z_gVi (n := 0) (b := ad 0) (As := []) (rest := []) ⟨hx, hb, hml, hown, hts⟩ (c_X4_wordLength l D cy ad z f M hR hM) gL_law_X4_wordLength rfl (by decide +kernel) ⟨Nat.le_of_ble_eq_true rfl, Nat.le_of_ble_eq_true rfl⟩ hK hT hP hS (Fp.same hP hD hS hA [0, 1, 2, 3, 4, 5, 6, 7] rfl rfl (fun _ => rfl)) 0 4 rfl rfl rfl rfl hl.1 rfl (Nat.le_of_ble_eq_true rfl) dL_law_505 ⟨Nat.le_trans (by omega) hro.1, Nat.le_trans (by omega) hro.2⟩ (fun r_1 u_1 H locs hw_1 hP hD hS => ?_)
  have hw_1 : r_1 = iI (M.2.1.length : Int) := hw_1
  have hP : va_P D vwCl (LBs cy ad o0 m0 a0 p0 q0 v0 t0 z f zt ft en B Kf nx ct Zh Fh Zs Fs sv tn tf O ho th tl G Hh Sl Sv Tx).flatten H := hP
  have hD : va_D (fun q : Nat => s.heap.size ≤ q) (LBs cy ad o0 m0 a0 p0 q0 v0 t0 z f zt ft en B Kf nx ct Zh Fh Zs Fs sv tn tf O ho th tl G Hh Sl Sv Tx).flatten := hD
  refine lv_aload_n hx hb dL_law_508 rfl (lv_at hl 3 rfl) ?_
  refine z_gVi (n := 0) (b := m0) (As := []) (rest := [.int r_1]) ⟨hx, hb, hml, hown, hts⟩ (c_X5_wordLength l D cy m0 a0 p0 q0 v0 t0 ho th tl G M hG hM) gL_law_X5_wordLength rfl (by decide +kernel) ⟨Nat.le_of_ble_eq_true rfl, Nat.le_of_ble_eq_true rfl⟩ hK hT hP hS (Fp.blocks hP hD hS hA (cs := [wMo m0 a0 p0 q0 v0 t0 ho th tl, wMa cy a0 144 G]) (nb := fun (u : Unit) => [wMo m0 a0 p0 q0 v0 t0 ho (0 : Int) tl, wMa cy a0 144 G]) (nbs := fun (u : Unit) => LBs cy ad o0 m0 a0 p0 q0 v0 t0 z f zt ft en B Kf nx ct Zh Fh Zs Fs sv tn tf O ho (0 : Int) tl G Hh Sl Sv Tx) [18, 19] rfl rfl rfl (fun _ => rfl) (fun _ => rfl) (fun _ => rfl)) 81 5 rfl rfl rfl rfl hl.1 rfl (Nat.le_of_ble_eq_true rfl) dL_law_509 ⟨Nat.le_trans (by omega) hro.1, Nat.le_trans (by omega) hro.2⟩ (fun r_2 u_2 H locs hw_2 hP hD hS => ?_)
  have hw_2 : r_2 = iI (M.2.1.length : Int) := hw_2
  have hP : va_P D vwCl (LBs cy ad o0 m0 a0 p0 q0 v0 t0 z f zt ft en B Kf nx ct Zh Fh Zs Fs sv tn tf O ho (0 : Int) tl G Hh Sl Sv Tx).flatten H := hP
  have hD : va_D (fun q : Nat => s.heap.size ≤ q) (LBs cy ad o0 m0 a0 p0 q0 v0 t0 z f zt ft en B Kf nx ct Zh Fh Zs Fs sv tn tf O ho (0 : Int) tl G Hh Sl Sv Tx).flatten := hD
  have hj : r_1 = r_2 ∧ LJ z f Kf nx ct Zh Fh Zs Fs sv tn tf ho tl G Hh Sl Sv Tx := by
    have e1 := hw_1
    have e2 := hw_2
    exact ⟨e1.trans e2.symm, ⟨M, h, sl, tx, hR, hG, hM, hH, hHh, hho, hh6, hXS, hSl, hXt, hMt, ht80, hk⟩⟩
  refine lv_icmp_eq (tgt := 1472) hx hb dL_law_512 (by decide) (fun _ => ?_) (fun q => absurd hj.1 q)
  exact (fun H1 locs1 ls1 a1 a2 a3 => W.widen (k := cells + 2) (n := slots + 12) (by omega) (by omega) (kk H1 locs1 ls1 a1 a2 a3)) _ _ _ ⟨z, f, zt, ft, en, B, Kf, nx, ct, Zh, Fh, Zs, Fs, sv, tn, tf, O, ho, (0 : Int), tl, G, Hh, Sl, Sv, Tx, hj.2, hP, hD⟩ hS hl
