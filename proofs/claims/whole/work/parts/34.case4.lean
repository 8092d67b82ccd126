/-! cases of the law: border, period, occurrences, occurrencesByTrying, comparedWith -/
set_option maxHeartbeats 4000000 in
set_option maxRecDepth 100000 in
theorem k_border {p : Program} {l : Launch} {e : Env} {s : State} {m : MethodId} {below : List Frame} {meth : Method} {c : Code} {H : Heap} {locs : List Loc} {cells slots : Nat} {Q : State → Prop} {ls : Array Slot} {D : va_G} {cy : Nat → ClassId} {b L : Nat} {xs : Nat → Int32} {i : Nat} {ad : Nat → Nat} {o0 m0 a0 p0 q0 v0 t0 : Nat} (C : LC p l s m c b L xs D cy) (hi : (i : Int) + 2 < L) (hI : LI D cy ad o0 m0 a0 p0 q0 v0 t0 (fun q : Nat => s.heap.size ≤ q) H) (hS : va_S (fun q : Nat => s.heap.size ≤ q) s.heap H locs) (hro : cells + 2 ≤ 601024 ∧ slots + 12 ≤ 7293034) (hl : lv_has ls 7 (lvL i b (ad 0) m0 o0)) (kk : ∀ (H1 : Heap) (locs1 : List Loc) (ls1 : Array Slot), LI D cy ad o0 m0 a0 p0 q0 v0 t0 (fun q : Nat => s.heap.size ≤ q) H1 → va_S (fun q : Nat => s.heap.size ≤ q) s.heap H1 locs1 → lv_has ls1 7 (lvL i b (ad 0) m0 o0) → W p l e room_1 s m #[.ref b] below meth c H1 locs1 (cells + 2) (slots + 12) Q (F0 m 1472 ls1 [])) : W p l e room_1 s m #[.ref b] below meth c H locs cells slots Q (F0 m 999 ls []) := by
  obtain ⟨z, f, zt, ft, en, B, Kf, nx, ct, Zh, Fh, Zs, Fs, sv, tn, tf, O, ho, th, tl, G, Hh, Sl, Sv, Tx, ⟨M, h, sl, tx, hR, hG, hM, hH, hHh, hho, hh6, hXS, hSl, hXt, hMt, ht80, hk⟩, hP, hD⟩ := hI
  obtain ⟨hx, hb, hml, hown, hts, hX, hbl, hK, hT, hC, hZ, hfl, hL⟩ := id C
  have hA : ∀ q : Nat, s.heap.size ≤ q → (fun q : Nat => s.heap.size ≤ q) q := fun _ h => h
  have hl : lv_has ls 7 [(4, .int (iI (i : Int))), (0, .ref b), (1, .ref (ad 0)), (2, .ref m0), (3, .ref o0)] := hl
  refine lv_aload_n hx hb dL_law_999 rfl (lv_at hl 2 rfl) ?_
  refine z_gVi (n := 0) (b := ad 0) (As := []) (rest := []) ⟨hx, hb, hml, hown, hts⟩ (c_X4_border l D cy ad z f M en B Kf hR hM hk) gL_law_X4_border rfl (by decide +kernel) ⟨Nat.le_of_ble_eq_true rfl, Nat.le_of_ble_eq_true rfl⟩ hK hT hP hS (Fp.blocks hP hD hS hA (cs := [wTop ad, wSt cy ad 1 z f, wEn cy ad en B Kf]) (nb := fun (u : Int × (Nat → Int) × (Nat → Int)) => [wTop ad, wSt cy ad 1 z f, wEn cy ad u.1 u.2.1 u.2.2]) (nbs := fun (u : Int × (Nat → Int) × (Nat → Int)) => LBs cy ad o0 m0 a0 p0 q0 v0 t0 z f zt ft u.1 u.2.1 u.2.2 nx ct Zh Fh Zs Fs sv tn tf O ho th tl G Hh Sl Sv Tx) [0, 1, 3] rfl rfl rfl (fun _ => rfl) (fun _ => rfl) (fun _ => rfl)) 0 4 rfl rfl rfl rfl hl.1 rfl (Nat.le_of_ble_eq_true rfl) dL_law_1000 ⟨Nat.le_trans (by omega) hro.1, Nat.le_trans (by omega) hro.2⟩ (fun r_1 u_1 H locs hw_1 hP hD hS => ?_)
  obtain ⟨en_1, B_1, Kf_1⟩ := u_1
  have hw_1 : r_1 = iI ((M.2.1.length : Int) - (perF M.2.1.length (gl M.2.1) : Int)) ∧ ∀ j : Nat, 0 ≤ Kf_1 j ∧ Kf_1 j ≤ 17 := hw_1
  have hP : va_P D vwCl (LBs cy ad o0 m0 a0 p0 q0 v0 t0 z f zt ft en_1 B_1 Kf_1 nx ct Zh Fh Zs Fs sv tn tf O ho th tl G Hh Sl Sv Tx).flatten H := hP
  have hD : va_D (fun q : Nat => s.heap.size ≤ q) (LBs cy ad o0 m0 a0 p0 q0 v0 t0 z f zt ft en_1 B_1 Kf_1 nx ct Zh Fh Zs Fs sv tn tf O ho th tl G Hh Sl Sv Tx).flatten := hD
  refine lv_aload_n hx hb dL_law_1003 rfl (lv_at hl 3 rfl) ?_
  refine z_gVi (n := 0) (b := m0) (As := []) (rest := [.int r_1]) ⟨hx, hb, hml, hown, hts⟩ (c_X5_border l D cy m0 a0 p0 q0 v0 t0 ho th tl G M hG hM) gL_law_X5_border rfl (by decide +kernel) ⟨Nat.le_of_ble_eq_true rfl, Nat.le_of_ble_eq_true rfl⟩ hK hT hP hS (Fp.blocks hP hD hS hA (cs := [wMo m0 a0 p0 q0 v0 t0 ho th tl, wMa cy a0 144 G]) (nb := fun (u : Unit) => [wMo m0 a0 p0 q0 v0 t0 ho (0 : Int) tl, wMa cy a0 144 G]) (nbs := fun (u : Unit) => LBs cy ad o0 m0 a0 p0 q0 v0 t0 z f zt ft en_1 B_1 Kf_1 nx ct Zh Fh Zs Fs sv tn tf O ho (0 : Int) tl G Hh Sl Sv Tx) [18, 19] rfl rfl rfl (fun _ => rfl) (fun _ => rfl) (fun _ => rfl)) 81 5 rfl rfl rfl rfl hl.1 rfl (Nat.le_of_ble_eq_true rfl) dL_law_1004 ⟨Nat.le_trans (by omega) hro.1, Nat.le_trans (by omega) hro.2⟩ (fun r_2 u_2 H locs hw_2 hP hD hS => ?_)
  have hw_2 : r_2 = iI ((M.2.1.length : Int) - (perF M.2.1.length (gl M.2.1) : Int)) := hw_2
  have hP : va_P D vwCl (LBs cy ad o0 m0 a0 p0 q0 v0 t0 z f zt ft en_1 B_1 Kf_1 nx ct Zh Fh Zs Fs sv tn tf O ho (0 : Int) tl G Hh Sl Sv Tx).flatten H := hP
  have hD : va_D (fun q : Nat => s.heap.size ≤ q) (LBs cy ad o0 m0 a0 p0 q0 v0 t0 z f zt ft en_1 B_1 Kf_1 nx ct Zh Fh Zs Fs sv tn tf O ho (0 : Int) tl G Hh Sl Sv Tx).flatten := hD
  have hj : r_1 = r_2 ∧ LJ z f Kf_1 nx ct Zh Fh Zs Fs sv tn tf ho tl G Hh Sl Sv Tx := by
    obtain ⟨e1, hk1⟩ := hw_1
    have e2 := hw_2
    exact ⟨e1.trans e2.symm, ⟨M, h, sl, tx, hR, hG, hM, hH, hHh, hho, hh6, hXS, hSl, hXt, hMt, ht80, hk1⟩⟩
  refine lv_icmp_eq (tgt := 1472) hx hb dL_law_1007 (by decide) (fun _ => ?_) (fun q => absurd hj.1 q)
  exact (fun H1 locs1 ls1 a1 a2 a3 => W.widen (k := cells + 2) (n := slots + 12) (by omega) (by omega) (kk H1 locs1 ls1 a1 a2 a3)) _ _ _ ⟨z, f, zt, ft, en_1, B_1, Kf_1, nx, ct, Zh, Fh, Zs, Fs, sv, tn, tf, O, ho, (0 : Int), tl, G, Hh, Sl, Sv, Tx, hj.2, hP, hD⟩ hS hl
set_option maxHeartbeats 4000000 in
set_option maxRecDepth 100000 in
theorem k_period {p : Program} {l : Launch} {e : Env} {s : State} {m : MethodId} {below : List Frame} {meth : Method} {c : Code} {H : Heap} {locs : List Loc} {cells slots : Nat} {Q : State → Prop} {ls : Array Slot} {D : va_G} {cy : Nat → ClassId} {b L : Nat} {xs : Nat → Int32} {i : Nat} {ad : Nat → Nat} {o0 m0 a0 p0 q0 v0 t0 : Nat} (C : LC p l s m c b L xs D cy) (hi : (i : Int) + 2 < L) (hI : LI D cy ad o0 m0 a0 p0 q0 v0 t0 (fun q : Nat => s.heap.size ≤ q) H) (hS : va_S (fun q : Nat => s.heap.size ≤ q) s.heap H locs) (hro : cells + 2 ≤ 601024 ∧ slots + 12 ≤ 7293034) (hl : lv_has ls 7 (lvL i b (ad 0) m0 o0)) (kk : ∀ (H1 : Heap) (locs1 : List Loc) (ls1 : Array Slot), LI D cy ad o0 m0 a0 p0 q0 v0 t0 (fun q : Nat => s.heap.size ≤ q) H1 → va_S (fun q : Nat => s.heap.size ≤ q) s.heap H1 locs1 → lv_has ls1 7 (lvL i b (ad 0) m0 o0) → W p l e room_1 s m #[.ref b] below meth c H1 locs1 (cells + 2) (slots + 12) Q (F0 m 1472 ls1 [])) : W p l e room_1 s m #[.ref b] below meth c H locs cells slots Q (F0 m 1012 ls []) := by
  obtain ⟨z, f, zt, ft, en, B, Kf, nx, ct, Zh, Fh, Zs, Fs, sv, tn, tf, O, ho, th, tl, G, Hh, Sl, Sv, Tx, ⟨M, h, sl, tx, hR, hG, hM, hH, hHh, hho, hh6, hXS, hSl, hXt, hMt, ht80, hk⟩, hP, hD⟩ := hI
  obtain ⟨hx, hb, hml, hown, hts, hX, hbl, hK, hT, hC, hZ, hfl, hL⟩ := id C
  have hA : ∀ q : Nat, s.heap.size ≤ q → (fun q : Nat => s.heap.size ≤ q) q := fun _ h => h
  have hl : lv_has ls 7 [(4, .int (iI (i : Int))), (0, .ref b), (1, .ref (ad 0)), (2, .ref m0), (3, .ref o0)] := hl
  refine lv_aload_n hx hb dL_law_1012 rfl (lv_at hl 2 rfl) ?_
  refine z_gVi (n := 0) (b := ad 0) (As := []) (rest := []) ⟨hx, hb, hml, hown, hts⟩ (c_X4_period l D cy ad z f M en B Kf hR hM hk) gL_law_X4_period rfl (by decide +kernel) ⟨Nat.le_of_ble_eq_true rfl, Nat.le_of_ble_eq_true rfl⟩ hK hT hP hS (Fp.blocks hP hD hS hA (cs := [wTop ad, wSt cy ad 1 z f, wEn cy ad en B Kf]) (nb := fun (u : Int × (Nat → Int) × (Nat → Int)) => [wTop ad, wSt cy ad 1 z f, wEn cy ad u.1 u.2.1 u.2.2]) (nbs := fun (u : Int × (Nat → Int) × (Nat → Int)) => LBs cy ad o0 m0 a0 p0 q0 v0 t0 z f zt ft u.1 u.2.1 u.2.2 nx ct Zh Fh Zs Fs sv tn tf O ho th tl G Hh Sl Sv Tx) [0, 1, 3] rfl rfl rfl (fun _ => rfl) (fun _ => rfl) (fun _ => rfl)) 0 4 rfl rfl rfl rfl hl.1 rfl (Nat.le_of_ble_eq_true rfl) dL_law_1013 ⟨Nat.le_trans (by omega) hro.1, Nat.le_trans (by omega) hro.2⟩ (fun r_1 u_1 H locs hw_1 hP hD hS => ?_)
  obtain ⟨en_1, B_1, Kf_1⟩ := u_1
  have hw_1 : r_1 = iI ((perF M.2.1.length (gl M.2.1) : Int)) ∧ ∀ j : Nat, 0 ≤ Kf_1 j ∧ Kf_1 j ≤ 17 := hw_1
  have hP : va_P D vwCl (LBs cy ad o0 m0 a0 p0 q0 v0 t0 z f zt ft en_1 B_1 Kf_1 nx ct Zh Fh Zs Fs sv tn tf O ho th tl G Hh Sl Sv Tx).flatten H := hP
  have hD : va_D (fun q : Nat => s.heap.size ≤ q) (LBs cy ad o0 m0 a0 p0 q0 v0 t0 z f zt ft en_1 B_1 Kf_1 nx ct Zh Fh Zs Fs sv tn tf O ho th tl G Hh Sl Sv Tx).flatten := hD
  refine lv_aload_n hx hb dL_law_1016 rfl (lv_at hl 3 rfl) ?_
  refine z_gVi (n := 0) (b := m0) (As := []) (rest := [.int r_1]) ⟨hx, hb, hml, hown, hts⟩ (c_X5_period l D cy m0 a0 p0 q0 v0 t0 ho th tl G M hG hM) gL_law_X5_period rfl (by decide +kernel) ⟨Nat.le_of_ble_eq_true rfl, Nat.le_of_ble_eq_true rfl⟩ hK hT hP hS (Fp.blocks hP hD hS hA (cs := [wMo m0 a0 p0 q0 v0 t0 ho th tl, wMa cy a0 144 G]) (nb := fun (u : Unit) => [wMo m0 a0 p0 q0 v0 t0 ho (0 : Int) tl, wMa cy a0 144 G]) (nbs := fun (u : Unit) => LBs cy ad o0 m0 a0 p0 q0 v0 t0 z f zt ft en_1 B_1 Kf_1 nx ct Zh Fh Zs Fs sv tn tf O ho (0 : Int) tl G Hh Sl Sv Tx) [18, 19] rfl rfl rfl (fun _ => rfl) (fun _ => rfl) (fun _ => rfl)) 81 5 rfl rfl rfl rfl hl.1 rfl (Nat.le_of_ble_eq_true rfl) dL_law_1017 ⟨Nat.le_trans (by omega) hro.1, Nat.le_trans (by omega) hro.2⟩ (fun r_2 u_2 H locs hw_2 hP hD hS => ?_)
  have hw_2 : r_2 = iI (perF M.2.1.length (gl M.2.1) : Int) := hw_2
  have hP : va_P D vwCl (LBs cy ad o0 m0 a0 p0 q0 v0 t0 z f zt ft en_1 B_1 Kf_1 nx ct Zh Fh Zs Fs sv tn tf O ho (0 : Int) tl G Hh Sl Sv Tx).flatten H := hP
  have hD : va_D (fun q : Nat => s.heap.size ≤ q) (LBs cy ad o0 m0 a0 p0 q0 v0 t0 z f zt ft en_1 B_1 Kf_1 nx ct Zh Fh Zs Fs sv tn tf O ho (0 : Int) tl G Hh Sl Sv Tx).flatten := hD
  have hj : r_1 = r_2 ∧ LJ z f Kf_1 nx ct Zh Fh Zs Fs sv tn tf ho tl G Hh Sl Sv Tx := by
    obtain ⟨e1, hk1⟩ := hw_1
    have e2 := hw_2
    exact ⟨e1.trans e2.symm, ⟨M, h, sl, tx, hR, hG, hM, hH, hHh, hho, hh6, hXS, hSl, hXt, hMt, ht80, hk1⟩⟩
  refine lv_icmp_eq (tgt := 1472) hx hb dL_law_1020 (by decide) (fun _ => ?_) (fun q => absurd hj.1 q)
  exact (fun H1 locs1 ls1 a1 a2 a3 => W.widen (k := cells + 2) (n := slots + 12) (by omega) (by omega) (kk H1 locs1 ls1 a1 a2 a3)) _ _ _ ⟨z, f, zt, ft, en_1, B_1, Kf_1, nx, ct, Zh, Fh, Zs, Fs, sv, tn, tf, O, ho, (0 : Int), tl, G, Hh, Sl, Sv, Tx, hj.2, hP, hD⟩ hS hl
set_option maxHeartbeats 4000000 in
set_option maxRecDepth 100000 in
theorem k_occurrences {p : Program} {l : Launch} {e : Env} {s : State} {m : MethodId} {below : List Frame} {meth : Method} {c : Code} {H : Heap} {locs : List Loc} {cells slots : Nat} {Q : State → Prop} {ls : Array Slot} {D : va_G} {cy : Nat → ClassId} {b L : Nat} {xs : Nat → Int32} {i : Nat} {ad : Nat → Nat} {o0 m0 a0 p0 q0 v0 t0 : Nat} (C : LC p l s m c b L xs D cy) (hi : (i : Int) + 2 < L) (hI : LI D cy ad o0 m0 a0 p0 q0 v0 t0 (fun q : Nat => s.heap.size ≤ q) H) (hS : va_S (fun q : Nat => s.heap.size ≤ q) s.heap H locs) (hro : cells + 2 ≤ 601024 ∧ slots + 12 ≤ 7293034) (hl : lv_has ls 7 (lvL i b (ad 0) m0 o0)) (kk : ∀ (H1 : Heap) (locs1 : List Loc) (ls1 : Array Slot), LI D cy ad o0 m0 a0 p0 q0 v0 t0 (fun q : Nat => s.heap.size ≤ q) H1 → va_S (fun q : Nat => s.heap.size ≤ q) s.heap H1 locs1 → lv_has ls1 7 (lvL i b (ad 0) m0 o0) → W p l e room_1 s m #[.ref b] below meth c H1 locs1 (cells + 2) (slots + 12) Q (F0 m 1472 ls1 [])) : W p l e room_1 s m #[.ref b] below meth c H locs cells slots Q (F0 m 1025 ls []) := by
  obtain ⟨z, f, zt, ft, en, B, Kf, nx, ct, Zh, Fh, Zs, Fs, sv, tn, tf, O, ho, th, tl, G, Hh, Sl, Sv, Tx, ⟨M, h, sl, tx, hR, hG, hM, hH, hHh, hho, hh6, hXS, hSl, hXt, hMt, ht80, hk⟩, hP, hD⟩ := hI
  obtain ⟨hx, hb, hml, hown, hts, hX, hbl, hK, hT, hC, hZ, hfl, hL⟩ := id C
  have hA : ∀ q : Nat, s.heap.size ≤ q → (fun q : Nat => s.heap.size ≤ q) q := fun _ h => h
  have hl : lv_has ls 7 [(4, .int (iI (i : Int))), (0, .ref b), (1, .ref (ad 0)), (2, .ref m0), (3, .ref o0)] := hl
  refine lv_aload_n hx hb dL_law_1025 rfl (lv_at hl 2 rfl) ?_
  refine z_gVi (n := 0) (b := ad 0) (As := []) (rest := []) ⟨hx, hb, hml, hown, hts⟩ (c_X4_occurrences l D cy ad z f M zt ft en B Kf hR hM hk) gL_law_X4_occurrences rfl (by decide +kernel) ⟨Nat.le_of_ble_eq_true rfl, Nat.le_of_ble_eq_true rfl⟩ hK hT hP hS (Fp.blocks hP hD hS hA (cs := [wTop ad, wSt cy ad 1 z f, wSt cy ad 8 zt ft, wEn cy ad en B Kf]) (nb := fun (u : (Nat → Int) × (Nat → Nat → Int32) × Int × (Nat → Int) × (Nat → Int)) => [wTop ad, wSt cy ad 1 z f, wSt cy ad 8 u.1 u.2.1, wEn cy ad u.2.2.1 u.2.2.2.1 u.2.2.2.2]) (nbs := fun (u : (Nat → Int) × (Nat → Nat → Int32) × Int × (Nat → Int) × (Nat → Int)) => LBs cy ad o0 m0 a0 p0 q0 v0 t0 z f u.1 u.2.1 u.2.2.1 u.2.2.2.1 u.2.2.2.2 nx ct Zh Fh Zs Fs sv tn tf O ho th tl G Hh Sl Sv Tx) [0, 1, 2, 3] rfl rfl rfl (fun _ => rfl) (fun _ => rfl) (fun _ => rfl)) 0 4 rfl rfl rfl rfl hl.1 rfl (Nat.le_of_ble_eq_true rfl) dL_law_1026 ⟨Nat.le_trans (by omega) hro.1, Nat.le_trans (by omega) hro.2⟩ (fun r_1 u_1 H locs hw_1 hP hD hS => ?_)
  obtain ⟨zt_1, ft_1, en_1, B_1, Kf_1⟩ := u_1
  have hw_1 : r_1 = iI (occF M) ∧ ∀ j : Nat, 0 ≤ Kf_1 j ∧ Kf_1 j ≤ 17 := hw_1
  have hP : va_P D vwCl (LBs cy ad o0 m0 a0 p0 q0 v0 t0 z f zt_1 ft_1 en_1 B_1 Kf_1 nx ct Zh Fh Zs Fs sv tn tf O ho th tl G Hh Sl Sv Tx).flatten H := hP
  have hD : va_D (fun q : Nat => s.heap.size ≤ q) (LBs cy ad o0 m0 a0 p0 q0 v0 t0 z f zt_1 ft_1 en_1 B_1 Kf_1 nx ct Zh Fh Zs Fs sv tn tf O ho th tl G Hh Sl Sv Tx).flatten := hD
  refine lv_aload_n hx hb dL_law_1029 rfl (lv_at hl 3 rfl) ?_
  refine z_gVi (n := 0) (b := m0) (As := []) (rest := [.int r_1]) ⟨hx, hb, hml, hown, hts⟩ (c_X5_occurrences l D cy m0 a0 p0 q0 v0 t0 ho th tl G M hG hM) gL_law_X5_occurrences rfl (by decide +kernel) ⟨Nat.le_of_ble_eq_true rfl, Nat.le_of_ble_eq_true rfl⟩ hK hT hP hS (Fp.blocks hP hD hS hA (cs := [wMo m0 a0 p0 q0 v0 t0 ho th tl, wMa cy a0 144 G]) (nb := fun (u : Unit) => [wMo m0 a0 p0 q0 v0 t0 ho (0 : Int) tl, wMa cy a0 144 G]) (nbs := fun (u : Unit) => LBs cy ad o0 m0 a0 p0 q0 v0 t0 z f zt_1 ft_1 en_1 B_1 Kf_1 nx ct Zh Fh Zs Fs sv tn tf O ho (0 : Int) tl G Hh Sl Sv Tx) [18, 19] rfl rfl rfl (fun _ => rfl) (fun _ => rfl) (fun _ => rfl)) 81 5 rfl rfl rfl rfl hl.1 rfl (Nat.le_of_ble_eq_true rfl) dL_law_1030 ⟨Nat.le_trans (by omega) hro.1, Nat.le_trans (by omega) hro.2⟩ (fun r_2 u_2 H locs hw_2 hP hD hS => ?_)
  have hw_2 : r_2 = iI (occF M) := hw_2
  have hP : va_P D vwCl (LBs cy ad o0 m0 a0 p0 q0 v0 t0 z f zt_1 ft_1 en_1 B_1 Kf_1 nx ct Zh Fh Zs Fs sv tn tf O ho (0 : Int) tl G Hh Sl Sv Tx).flatten H := hP
  have hD : va_D (fun q : Nat => s.heap.size ≤ q) (LBs cy ad o0 m0 a0 p0 q0 v0 t0 z f zt_1 ft_1 en_1 B_1 Kf_1 nx ct Zh Fh Zs Fs sv tn tf O ho (0 : Int) tl G Hh Sl Sv Tx).flatten := hD
  have hj : r_1 = r_2 ∧ LJ z f Kf_1 nx ct Zh Fh Zs Fs sv tn tf ho tl G Hh Sl Sv Tx := by
    obtain ⟨e1, hk1⟩ := hw_1
    have e2 := hw_2
    exact ⟨e1.trans e2.symm, ⟨M, h, sl, tx, hR, hG, hM, hH, hHh, hho, hh6, hXS, hSl, hXt, hMt, ht80, hk1⟩⟩
  refine lv_icmp_eq (tgt := 1472) hx hb dL_law_1033 (by decide) (fun _ => ?_) (fun q => absurd hj.1 q)
  exact (fun H1 locs1 ls1 a1 a2 a3 => W.widen (k := cells + 2) (n := slots + 12) (by omega) (by omega) (kk H1 locs1 ls1 a1 a2 a3)) _ _ _ ⟨z, f, zt_1, ft_1, en_1, B_1, Kf_1, nx, ct, Zh, Fh, Zs, Fs, sv, tn, tf, O, ho, (0 : Int), tl, G, Hh, Sl, Sv, Tx, hj.2, hP, hD⟩ hS hl
set_option maxHeartbeats 4000000 in
set_option maxRecDepth 100000 in
theorem k_occurrencesByTrying {p : Program} {l : Launch} {e : Env} {s : State} {m : MethodId} {below : List Frame} {meth : Method} {c : Code} {H : Heap} {locs : List Loc} {cells slots : Nat} {Q : State → Prop} {ls : Array Slot} {D : va_G} {cy : Nat → ClassId} {b L : Nat} {xs : Nat → Int32} {i : Nat} {ad : Nat → Nat} {o0 m0 a0 p0 q0 v0 t0 : Nat} (C : LC p l s m c b L xs D cy) (hi : (i : Int) + 2 < L) (hI : LI D cy ad o0 m0 a0 p0 q0 v0 t0 (fun q : Nat => s.heap.size ≤ q) H) (hS : va_S (fun q : Nat => s.heap.size ≤ q) s.heap H locs) (hro : cells + 2 ≤ 601024 ∧ slots + 12 ≤ 7293034) (hl : lv_has ls 7 (lvL i b (ad 0) m0 o0)) (kk : ∀ (H1 : Heap) (locs1 : List Loc) (ls1 : Array Slot), LI D cy ad o0 m0 a0 p0 q0 v0 t0 (fun q : Nat => s.heap.size ≤ q) H1 → va_S (fun q : Nat => s.heap.size ≤ q) s.heap H1 locs1 → lv_has ls1 7 (lvL i b (ad 0) m0 o0) → W p l e room_1 s m #[.ref b] below meth c H1 locs1 (cells + 2) (slots + 12) Q (F0 m 1472 ls1 [])) : W p l e room_1 s m #[.ref b] below meth c H locs cells slots Q (F0 m 1038 ls []) := by
  obtain ⟨z, f, zt, ft, en, B, Kf, nx, ct, Zh, Fh, Zs, Fs, sv, tn, tf, O, ho, th, tl, G, Hh, Sl, Sv, Tx, ⟨M, h, sl, tx, hR, hG, hM, hH, hHh, hho, hh6, hXS, hSl, hXt, hMt, ht80, hk⟩, hP, hD⟩ := hI
  obtain ⟨hx, hb, hml, hown, hts, hX, hbl, hK, hT, hC, hZ, hfl, hL⟩ := id C
  have hA : ∀ q : Nat, s.heap.size ≤ q → (fun q : Nat => s.heap.size ≤ q) q := fun _ h => h
  have hl : lv_has ls 7 [(4, .int (iI (i : Int))), (0, .ref b), (1, .ref (ad 0)), (2, .ref m0), (3, .ref o0)] := hl
  refine lv_aload_n hx hb dL_law_1038 rfl (lv_at hl 2 rfl) ?_
  refine z_gVi (n := 0) (b := ad 0) (As := []) (rest := []) ⟨hx, hb, hml, hown, hts⟩ (c_X4_occurrencesByTrying l D cy ad z f M hR hM) gL_law_X4_occurrencesByTrying rfl (by decide +kernel) ⟨Nat.le_of_ble_eq_true rfl, Nat.le_of_ble_eq_true rfl⟩ hK hT hP hS (Fp.same hP hD hS hA [0, 1, 2, 3, 4, 5, 6, 7] rfl rfl (fun _ => rfl)) 0 4 rfl rfl rfl rfl hl.1 rfl (Nat.le_of_ble_eq_true rfl) dL_law_1039 ⟨Nat.le_trans (by omega) hro.1, Nat.le_trans (by omega) hro.2⟩ (fun r_1 u_1 H locs hw_1 hP hD hS => ?_)
  have hw_1 : r_1 = iI (occF M) := hw_1
  have hP : va_P D vwCl (LBs cy ad o0 m0 a0 p0 q0 v0 t0 z f zt ft en B Kf nx ct Zh Fh Zs Fs sv tn tf O ho th tl G Hh Sl Sv Tx).flatten H := hP
  have hD : va_D (fun q : Nat => s.heap.size ≤ q) (LBs cy ad o0 m0 a0 p0 q0 v0 t0 z f zt ft en B Kf nx ct Zh Fh Zs Fs sv tn tf O ho th tl G Hh Sl Sv Tx).flatten := hD
  refine lv_aload_n hx hb dL_law_1042 rfl (lv_at hl 3 rfl) ?_
  refine z_gVi (n := 0) (b := m0) (As := []) (rest := [.int r_1]) ⟨hx, hb, hml, hown, hts⟩ (c_X5_occurrencesByTrying l D cy m0 a0 p0 q0 v0 t0 ho th tl G M hG hM) gL_law_X5_occurrencesByTrying rfl (by decide +kernel) ⟨Nat.le_of_ble_eq_true rfl, Nat.le_of_ble_eq_true rfl⟩ hK hT hP hS (Fp.blocks hP hD hS hA (cs := [wMo m0 a0 p0 q0 v0 t0 ho th tl, wMa cy a0 144 G]) (nb := fun (u : Unit) => [wMo m0 a0 p0 q0 v0 t0 ho (0 : Int) tl, wMa cy a0 144 G]) (nbs := fun (u : Unit) => LBs cy ad o0 m0 a0 p0 q0 v0 t0 z f zt ft en B Kf nx ct Zh Fh Zs Fs sv tn tf O ho (0 : Int) tl G Hh Sl Sv Tx) [18, 19] rfl rfl rfl (fun _ => rfl) (fun _ => rfl) (fun _ => rfl)) 81 5 rfl rfl rfl rfl hl.1 rfl (Nat.le_of_ble_eq_true rfl) dL_law_1043 ⟨Nat.le_trans (by omega) hro.1, Nat.le_trans (by omega) hro.2⟩ (fun r_2 u_2 H locs hw_2 hP hD hS => ?_)
  have hw_2 : r_2 = iI (occF M) := hw_2
  have hP : va_P D vwCl (LBs cy ad o0 m0 a0 p0 q0 v0 t0 z f zt ft en B Kf nx ct Zh Fh Zs Fs sv tn tf O ho (0 : Int) tl G Hh Sl Sv Tx).flatten H := hP
  have hD : va_D (fun q : Nat => s.heap.size ≤ q) (LBs cy ad o0 m0 a0 p0 q0 v0 t0 z f zt ft en B Kf nx ct Zh Fh Zs Fs sv tn tf O ho (0 : Int) tl G Hh Sl Sv Tx).flatten := hD
  have hj : r_1 = r_2 ∧ LJ z f Kf nx ct Zh Fh Zs Fs sv tn tf ho tl G Hh Sl Sv Tx := by
    have e1 := hw_1
    have e2 := hw_2
    exact ⟨e1.trans e2.symm, ⟨M, h, sl, tx, hR, hG, hM, hH, hHh, hho, hh6, hXS, hSl, hXt, hMt, ht80, hk⟩⟩
  refine lv_icmp_eq (tgt := 1472) hx hb dL_law_1046 (by decide) (fun _ => ?_) (fun q => absurd hj.1 q)
  exact (fun H1 locs1 ls1 a1 a2 a3 => W.widen (k := cells + 2) (n := slots + 12) (by omega) (by omega) (kk H1 locs1 ls1 a1 a2 a3)) _ _ _ ⟨z, f, zt, ft, en, B, Kf, nx, ct, Zh, Fh, Zs, Fs, sv, tn, tf, O, ho, (0 : Int), tl, G, Hh, Sl, Sv, Tx, hj.2, hP, hD⟩ hS hl
set_option maxHeartbeats 4000000 in
set_option maxRecDepth 100000 in
theorem k_comparedWith {p : Program} {l : Launch} {e : Env} {s : State} {m : MethodId} {below : List Frame} {meth : Method} {c : Code} {H : Heap} {locs : List Loc} {cells slots : Nat} {Q : State → Prop} {ls : Array Slot} {D : va_G} {cy : Nat → ClassId} {b L : Nat} {xs : Nat → Int32} {i : Nat} {ad : Nat → Nat} {o0 m0 a0 p0 q0 v0 t0 : Nat} (C : LC p l s m c b L xs D cy) (hi : (i : Int) + 2 < L) (hI : LI D cy ad o0 m0 a0 p0 q0 v0 t0 (fun q : Nat => s.heap.size ≤ q) H) (hS : va_S (fun q : Nat => s.heap.size ≤ q) s.heap H locs) (hro : cells + 2 ≤ 601024 ∧ slots + 12 ≤ 7293034) (hl : lv_has ls 7 (lvL i b (ad 0) m0 o0)) (kk : ∀ (H1 : Heap) (locs1 : List Loc) (ls1 : Array Slot), LI D cy ad o0 m0 a0 p0 q0 v0 t0 (fun q : Nat => s.heap.size ≤ q) H1 → va_S (fun q : Nat => s.heap.size ≤ q) s.heap H1 locs1 → lv_has ls1 7 (lvL i b (ad 0) m0 o0) → W p l e room_1 s m #[.ref b] below meth c H1 locs1 (cells + 2) (slots + 12) Q (F0 m 1472 ls1 [])) : W p l e room_1 s m #[.ref b] below meth c H locs cells slots Q (F0 m 1051 ls []) := by
  obtain ⟨z, f, zt, ft, en, B, Kf, nx, ct, Zh, Fh, Zs, Fs, sv, tn, tf, O, ho, th, tl, G, Hh, Sl, Sv, Tx, ⟨M, h, sl, tx, hR, hG, hM, hH, hHh, hho, hh6, hXS, hSl, hXt, hMt, ht80, hk⟩, hP, hD⟩ := hI
  obtain ⟨hx, hb, hml, hown, hts, hX, hbl, hK, hT, hC, hZ, hfl, hL⟩ := id C
  have hA : ∀ q : Nat, s.heap.size ≤ q → (fun q : Nat => s.heap.size ≤ q) q := fun _ h => h
  have hl : lv_has ls 7 [(4, .int (iI (i : Int))), (0, .ref b), (1, .ref (ad 0)), (2, .ref m0), (3, .ref o0)] := hl
  obtain ⟨x, ex⟩ : ∃ x : Int, bt (xs ((i : Int) + 1).toNat).toInt = x := ⟨_, rfl⟩
  obtain ⟨y, ey⟩ : ∃ y : Int, bt (xs ((i : Int) + 2).toNat).toInt = y := ⟨_, rfl⟩
  have hxy : 0 ≤ x ∧ x ≤ 1 ∧ 0 ≤ y ∧ y ≤ 1 := by rw [← ex, ← ey]; exact ⟨(bt_ok _).1, (bt_ok _).2, (bt_ok _).1, (bt_ok _).2⟩
  refine lv_aload_n hx hb dL_law_1051 rfl (lv_at hl 2 rfl) ?_
  refine z_arg C hS (lv_at hl 1 rfl) (lv_at hl 0 rfl) (by omega) (by omega) rfl dL_law_1052 dL_law_1053 dL_law_1055 dL_law_1056 dL_law_1057 ?_
  refine z_bit C (iI_lo _) (iI_hi _) ex dL_law_1058 dL_law_1061 dL_law_1062 dL_law_1065 ?_
  refine z_arg C hS (lv_at hl 1 rfl) (lv_at hl 0 rfl) (by omega) (by omega) rfl dL_law_1066 dL_law_1067 dL_law_1069 dL_law_1070 dL_law_1071 ?_
  refine z_bit C (iI_lo _) (iI_hi _) ey dL_law_1072 dL_law_1075 dL_law_1076 dL_law_1079 ?_
  refine z_gVi (n := 2) (b := ad 0) (As := [.int (iI x), .int (iI y)]) (rest := []) ⟨hx, hb, hml, hown, hts⟩ (c_X4_comparedWith l D cy ad z f M zt ft en B Kf x y hR hM hk hxy) gL_law_X4_comparedWith rfl (by decide +kernel) ⟨Nat.le_of_ble_eq_true rfl, Nat.le_of_ble_eq_true rfl⟩ hK hT hP hS (Fp.blocks hP hD hS hA (cs := [wTop ad, wSt cy ad 1 z f, wSt cy ad 8 zt ft, wEn cy ad en B Kf]) (nb := fun (u : (Nat → Int) × (Nat → Nat → Int32) × Int × (Nat → Int) × (Nat → Int)) => [wTop ad, wSt cy ad 1 z f, wSt cy ad 8 u.1 u.2.1, wEn cy ad u.2.2.1 u.2.2.2.1 u.2.2.2.2]) (nbs := fun (u : (Nat → Int) × (Nat → Nat → Int32) × Int × (Nat → Int) × (Nat → Int)) => LBs cy ad o0 m0 a0 p0 q0 v0 t0 z f u.1 u.2.1 u.2.2.1 u.2.2.2.1 u.2.2.2.2 nx ct Zh Fh Zs Fs sv tn tf O ho th tl G Hh Sl Sv Tx) [0, 1, 2, 3] rfl rfl rfl (fun _ => rfl) (fun _ => rfl) (fun _ => rfl)) 0 4 rfl rfl rfl rfl hl.1 rfl (Nat.le_of_ble_eq_true rfl) dL_law_1080 ⟨Nat.le_trans (by omega) hro.1, Nat.le_trans (by omega) hro.2⟩ (fun r_1 u_1 H locs hw_1 hP hD hS => ?_)
  obtain ⟨zt_1, ft_1, en_1, B_1, Kf_1⟩ := u_1
  have hw_1 : r_1 = iI (mRun (mRules M x y)).1.2.2.1 ∧ ∀ j : Nat, 0 ≤ Kf_1 j ∧ Kf_1 j ≤ 17 := hw_1
  have hP : va_P D vwCl (LBs cy ad o0 m0 a0 p0 q0 v0 t0 z f zt_1 ft_1 en_1 B_1 Kf_1 nx ct Zh Fh Zs Fs sv tn tf O ho th tl G Hh Sl Sv Tx).flatten H := hP
  have hD : va_D (fun q : Nat => s.heap.size ≤ q) (LBs cy ad o0 m0 a0 p0 q0 v0 t0 z f zt_1 ft_1 en_1 B_1 Kf_1 nx ct Zh Fh Zs Fs sv tn tf O ho th tl G Hh Sl Sv Tx).flatten := hD
  refine lv_aload_n hx hb dL_law_1083 rfl (lv_at hl 3 rfl) ?_
  refine z_arg C hS (lv_at hl 1 rfl) (lv_at hl 0 rfl) (by omega) (by omega) rfl dL_law_1084 dL_law_1085 dL_law_1087 dL_law_1088 dL_law_1089 ?_
  refine z_bit C (iI_lo _) (iI_hi _) ex dL_law_1090 dL_law_1093 dL_law_1094 dL_law_1097 ?_
  refine z_arg C hS (lv_at hl 1 rfl) (lv_at hl 0 rfl) (by omega) (by omega) rfl dL_law_1098 dL_law_1099 dL_law_1101 dL_law_1102 dL_law_1103 ?_
  refine z_bit C (iI_lo _) (iI_hi _) ey dL_law_1104 dL_law_1107 dL_law_1108 dL_law_1111 ?_
  refine z_gVi (n := 2) (b := m0) (As := [.int (iI x), .int (iI y)]) (rest := [.int r_1]) ⟨hx, hb, hml, hown, hts⟩ (c_X5_comparedWith l D cy m0 a0 p0 q0 v0 t0 ho th tl G M x y hG hM hxy) gL_law_X5_comparedWith rfl (by decide +kernel) ⟨Nat.le_of_ble_eq_true rfl, Nat.le_of_ble_eq_true rfl⟩ hK hT hP hS (Fp.blocks hP hD hS hA (cs := [wMo m0 a0 p0 q0 v0 t0 ho th tl, wMa cy a0 144 G]) (nb := fun (u : Unit) => [wMo m0 a0 p0 q0 v0 t0 ho (0 : Int) tl, wMa cy a0 144 G]) (nbs := fun (u : Unit) => LBs cy ad o0 m0 a0 p0 q0 v0 t0 z f zt_1 ft_1 en_1 B_1 Kf_1 nx ct Zh Fh Zs Fs sv tn tf O ho (0 : Int) tl G Hh Sl Sv Tx) [18, 19] rfl rfl rfl (fun _ => rfl) (fun _ => rfl) (fun _ => rfl)) 81 5 rfl rfl rfl rfl hl.1 rfl (Nat.le_of_ble_eq_true rfl) dL_law_1112 ⟨Nat.le_trans (by omega) hro.1, Nat.le_trans (by omega) hro.2⟩ (fun r_2 u_2 H locs hw_2 hP hD hS => ?_)
  have hw_2 : r_2 = iI (runS M.1.length M.2.1.length (gl M.2.1) (gl M.1) (skS x y M.2.1.length (gl M.2.1) (gl M.1)) 60 ((0 : Int), (0 : Int), (0 : Int), ([] : List Int32))).1.2.2.1 := hw_2
  have hP : va_P D vwCl (LBs cy ad o0 m0 a0 p0 q0 v0 t0 z f zt_1 ft_1 en_1 B_1 Kf_1 nx ct Zh Fh Zs Fs sv tn tf O ho (0 : Int) tl G Hh Sl Sv Tx).flatten H := hP
  have hD : va_D (fun q : Nat => s.heap.size ≤ q) (LBs cy ad o0 m0 a0 p0 q0 v0 t0 z f zt_1 ft_1 en_1 B_1 Kf_1 nx ct Zh Fh Zs Fs sv tn tf O ho (0 : Int) tl G Hh Sl Sv Tx).flatten := hD
  have hj : r_1 = r_2 ∧ LJ z f Kf_1 nx ct Zh Fh Zs Fs sv tn tf ho tl G Hh Sl Sv Tx := by
    obtain ⟨e1, hk1⟩ := hw_1
    have e2 := hw_2
    exact ⟨e1.trans e2.symm, ⟨M, h, sl, tx, hR, hG, hM, hH, hHh, hho, hh6, hXS, hSl, hXt, hMt, ht80, hk1⟩⟩
  refine lv_icmp_eq (tgt := 1472) hx hb dL_law_1115 (by decide) (fun _ => ?_) (fun q => absurd hj.1 q)
  exact (fun H1 locs1 ls1 a1 a2 a3 => W.widen (k := cells + 2) (n := slots + 12) (by omega) (by omega) (kk H1 locs1 ls1 a1 a2 a3)) _ _ _ ⟨z, f, zt_1, ft_1, en_1, B_1, Kf_1, nx, ct, Zh, Fh, Zs, Fs, sv, tn, tf, O, ho, (0 : Int), tl, G, Hh, Sl, Sv, Tx, hj.2, hP, hD⟩ hS hl
