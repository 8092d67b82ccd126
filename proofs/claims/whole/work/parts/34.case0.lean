/-! cases of the law: takeLine, takeWord, setRules, look -/
theorem cnt_uniq {c : Int64} {n k : Nat} (hn : cntOk c n) (hk : cntOk c k) : n = k := by
  obtain ⟨n8, na, nz⟩ := hn
  obtain ⟨k8, ka, kz⟩ := hk
  rcases Nat.lt_trichotomy n k with q | q | q
  · have a := ka n q
    have z := nz n (Nat.le_refl n) (by omega)
    omega
  · exact q
  · have a := na k q
    have z := kz k (Nat.le_refl k) (by omega)
    omega
theorem RXS_ok {sv : Nat → Int32} {Zs : Nat → Nat → Int} {Fs : Nat → Nat → Nat → Int32} {sl : Nat → Option MS} (h : RXS sv Zs Fs sl) {i : Nat} (hi : i < 2) {M : MS} (hM : sl i = some M) : MOk M := by
  rcases h i hi with ⟨_, q⟩ | ⟨_, M2, q, _, ok⟩
  · exact absurd (hM.symm.trans q) (by simp)
  · rw [Option.some.inj (hM.symm.trans q)]; exact ok

set_option maxHeartbeats 4000000 in
set_option maxRecDepth 100000 in
theorem k_takeLine {p : Program} {l : Launch} {e : Env} {s : State} {m : MethodId} {below : List Frame} {meth : Method} {c : Code} {H : Heap} {locs : List Loc} {cells slots : Nat} {Q : State → Prop} {ls : Array Slot} {D : va_G} {cy : Nat → ClassId} {b L : Nat} {xs : Nat → Int32} {i : Nat} {ad : Nat → Nat} {o0 m0 a0 p0 q0 v0 t0 : Nat} (C : LC p l s m c b L xs D cy) (hi : (i : Int) + 2 < L) (hI : LI D cy ad o0 m0 a0 p0 q0 v0 t0 (fun q : Nat => s.heap.size ≤ q) H) (hS : va_S (fun q : Nat => s.heap.size ≤ q) s.heap H locs) (hro : cells + 2 ≤ 601024 ∧ slots + 12 ≤ 7293034) (hl : lv_has ls 7 (lvL i b (ad 0) m0 o0)) (kk : ∀ (H1 : Heap) (locs1 : List Loc) (ls1 : Array Slot), LI D cy ad o0 m0 a0 p0 q0 v0 t0 (fun q : Nat => s.heap.size ≤ q) H1 → va_S (fun q : Nat => s.heap.size ≤ q) s.heap H1 locs1 → lv_has ls1 7 (lvL i b (ad 0) m0 o0) → W p l e room_1 s m #[.ref b] below meth c H1 locs1 (cells + 2) (slots + 12) Q (F0 m 1472 ls1 [])) : W p l e room_1 s m #[.ref b] below meth c H locs cells slots Q (F0 m 196 ls []) := by
  obtain ⟨z, f, zt, ft, en, B, Kf, nx, ct, Zh, Fh, Zs, Fs, sv, tn, tf, O, ho, th, tl, G, Hh, Sl, Sv, Tx, ⟨M, h, sl, tx, hR, hG, hM, hH, hHh, hho, hh6, hXS, hSl, hXt, hMt, ht80, hk⟩, hP, hD⟩ := hI
  obtain ⟨hx, hb, hml, hown, hts, hX, hbl, hK, hT, hC, hZ, hfl, hL⟩ := id C
  have hA : ∀ q : Nat, s.heap.size ≤ q → (fun q : Nat => s.heap.size ≤ q) q := fun _ h => h
  have hl : lv_has ls 7 [(4, .int (iI (i : Int))), (0, .ref b), (1, .ref (ad 0)), (2, .ref m0), (3, .ref o0)] := hl
  refine lv_aload_n hx hb dL_law_196 rfl (lv_at hl 2 rfl) ?_
  refine lv_aload_n hx hb dL_law_197 rfl (lv_at hl 4 rfl) ?_
  refine z_hSi (n := 2) (As := [.ref (ad 0), .ref o0]) (rest := []) ⟨hx, hb, hml, hown, hts⟩ (c_L_takeLine l hfl D cy ad z f M nx ct Zh Fh h tn tf tx o0 O hR hM hH ⟨hXt, ht80⟩) gL_law_L_takeLine rfl (by decide +kernel) ⟨Nat.le_of_ble_eq_true rfl, Nat.le_of_ble_eq_true rfl⟩ hK hT hC hZ hS (Fp.blocks hP hD hS hA (cs := [wTop ad, wSt cy ad 1 z f, wHb ad ct, wKb cy ad nx, wSt cy ad 20 (Zh 0) (Fh 0), wSt cy ad 27 (Zh 1) (Fh 1), wSt cy ad 34 (Zh 2) (Fh 2), wSt cy ad 41 (Zh 3) (Fh 3), wSt cy ad 48 (Zh 4) (Fh 4), wSt cy ad 55 (Zh 5) (Fh 5), wTx cy ad tn tf, wOt cy o0 O]) (nb := fun (u : (Nat → Int) × (Nat → Nat → Int32) × Int × Int × (Nat → Nat → Int) × (Nat → Nat → Nat → Int32) × Int × (Nat → Int64)) => [wTop ad, wSt cy ad 1 u.1 u.2.1, wHb ad u.2.2.2.1, wKb cy ad u.2.2.1, wSt cy ad 20 (u.2.2.2.2.1 0) (u.2.2.2.2.2.1 0), wSt cy ad 27 (u.2.2.2.2.1 1) (u.2.2.2.2.2.1 1), wSt cy ad 34 (u.2.2.2.2.1 2) (u.2.2.2.2.2.1 2), wSt cy ad 41 (u.2.2.2.2.1 3) (u.2.2.2.2.2.1 3), wSt cy ad 48 (u.2.2.2.2.1 4) (u.2.2.2.2.2.1 4), wSt cy ad 55 (u.2.2.2.2.1 5) (u.2.2.2.2.2.1 5), wTx cy ad u.2.2.2.2.2.2.1 tf, wOt cy o0 u.2.2.2.2.2.2.2]) (nbs := fun (u : (Nat → Int) × (Nat → Nat → Int32) × Int × Int × (Nat → Nat → Int) × (Nat → Nat → Nat → Int32) × Int × (Nat → Int64)) => LBs cy ad o0 m0 a0 p0 q0 v0 t0 u.1 u.2.1 zt ft en B Kf u.2.2.1 u.2.2.2.1 u.2.2.2.2.1 u.2.2.2.2.2.1 Zs Fs sv u.2.2.2.2.2.2.1 tf u.2.2.2.2.2.2.2 ho th tl G Hh Sl Sv Tx) [0, 1, 4, 5, 6, 7, 8, 9, 10, 11, 16, 17] rfl rfl rfl (fun _ => rfl) (fun _ => rfl) (fun _ => rfl)) rfl hl.1 rfl (Nat.le_of_ble_eq_true rfl) dL_law_198 ⟨Nat.le_trans (by omega) hro.1, Nat.le_trans (by omega) hro.2⟩ (fun r_1 u_1 H locs hw_1 hP hD hS => ?_)
  obtain ⟨z_1, f_1, nx_1, ct_1, Zh_1, Fh_1, tn_1, O_1⟩ := u_1
  have hw_1 : (r_1 = iI 0 ∧ ∃ v : Int32, ((errF tx 0 = -1 ∧ (tx.length : Int) ≤ 60) ∧ v = iI (tx.length : Int) ∧ RS z_1 f_1 (mTakeL M tx) ∧ RXH nx_1 ct_1 Zh_1 Fh_1 (pushH h M)) ∧ O_1 0 = lI v.toInt ∧ tn_1 = 0) ∨ (r_1 = iI 1 ∧ (¬ (errF tx 0 = -1 ∧ (tx.length : Int) ≤ 60)) ∧ z_1 = z ∧ f_1 = f ∧ nx_1 = nx ∧ ct_1 = ct ∧ Zh_1 = Zh ∧ Fh_1 = Fh ∧ tn_1 = tn) := hw_1
  have hP : va_P D vwCl (LBs cy ad o0 m0 a0 p0 q0 v0 t0 z_1 f_1 zt ft en B Kf nx_1 ct_1 Zh_1 Fh_1 Zs Fs sv tn_1 tf O_1 ho th tl G Hh Sl Sv Tx).flatten H := hP
  have hD : va_D (fun q : Nat => s.heap.size ≤ q) (LBs cy ad o0 m0 a0 p0 q0 v0 t0 z_1 f_1 zt ft en B Kf nx_1 ct_1 Zh_1 Fh_1 Zs Fs sv tn_1 tf O_1 ho th tl G Hh Sl Sv Tx).flatten := hD
  refine lv_istore (lv' := [(5, .int r_1), (4, .int (iI (i : Int))), (0, .ref b), (1, .ref (ad 0)), (2, .ref m0), (3, .ref o0)]) hx hb dL_law_201 hl (by decide) rfl (fun ls hl => ?_)
  refine lv_aload_n hx hb dL_law_203 rfl (lv_at hl 4 rfl) ?_
  refine z_gVi (n := 0) (b := m0) (As := []) (rest := []) ⟨hx, hb, hml, hown, hts⟩ (c_X5_takeLine l D cy m0 a0 p0 q0 v0 t0 ho th tl G Hh Tx M h tx hG hM hHh ⟨hho, hh6⟩ hMt ht80) gL_law_X5_takeLine rfl (by decide +kernel) ⟨Nat.le_of_ble_eq_true rfl, Nat.le_of_ble_eq_true rfl⟩ hK hT hP hS (Fp.blocks hP hD hS hA (cs := [wMo m0 a0 p0 q0 v0 t0 ho th tl, wMa cy a0 144 G, wMa cy p0 864 Hh, wMa cy t0 80 Tx]) (nb := fun (u : (Nat → Int32) × Int × (Nat → Int32) × Int × Int) => [wMo m0 a0 p0 q0 v0 t0 u.2.1 u.2.2.2.1 u.2.2.2.2, wMa cy a0 144 u.1, wMa cy p0 864 u.2.2.1, wMa cy t0 80 Tx]) (nbs := fun (u : (Nat → Int32) × Int × (Nat → Int32) × Int × Int) => LBs cy ad o0 m0 a0 p0 q0 v0 t0 z_1 f_1 zt ft en B Kf nx_1 ct_1 Zh_1 Fh_1 Zs Fs sv tn_1 tf O_1 u.2.1 u.2.2.2.1 u.2.2.2.2 u.1 u.2.2.1 Sl Sv Tx) [18, 19, 20, 23] rfl rfl rfl (fun _ => rfl) (fun _ => rfl) (fun _ => rfl)) 81 5 rfl rfl rfl rfl hl.1 rfl (Nat.le_of_ble_eq_true rfl) dL_law_204 ⟨Nat.le_trans (by omega) hro.1, Nat.le_trans (by omega) hro.2⟩ (fun r_2 u_2 H locs hw_2 hP hD hS => ?_)
  obtain ⟨G_2, ho_2, Hh_2, th_2, tl_2⟩ := u_2
  have hw_2 : (¬ (errF tx 0 = -1 ∧ (tx.length : Int) ≤ 60) ∧ r_2 = iI 0 ∧ th_2 = 1 ∧ tl_2 = tl ∧ G_2 = G ∧ ho_2 = ho ∧ Hh_2 = Hh) ∨ ((errF tx 0 = -1 ∧ (tx.length : Int) ≤ 60) ∧ r_2 = iI (tx.length : Int) ∧ th_2 = 0 ∧ tl_2 = 0 ∧ RG G_2 (mTakeL M tx) ∧ ho_2 = ((pushH h M).length : Int) ∧ RH Hh_2 (pushH h M)) := hw_2
  have hP : va_P D vwCl (LBs cy ad o0 m0 a0 p0 q0 v0 t0 z_1 f_1 zt ft en B Kf nx_1 ct_1 Zh_1 Fh_1 Zs Fs sv tn_1 tf O_1 ho_2 th_2 tl_2 G_2 Hh_2 Sl Sv Tx).flatten H := hP
  have hD : va_D (fun q : Nat => s.heap.size ≤ q) (LBs cy ad o0 m0 a0 p0 q0 v0 t0 z_1 f_1 zt ft en B Kf nx_1 ct_1 Zh_1 Fh_1 Zs Fs sv tn_1 tf O_1 ho_2 th_2 tl_2 G_2 Hh_2 Sl Sv Tx).flatten := hD
  have hj : r_1 = iI th_2 ∧ (r_1 = iI 0 → O_1 0 = lI r_2.toInt) ∧ LJ z_1 f_1 Kf nx_1 ct_1 Zh_1 Fh_1 Zs Fs sv tn_1 tf ho_2 tl_2 G_2 Hh_2 Sl Sv Tx := by
    rcases hw_1 with ⟨e1, v, ⟨c1, ev, hR1, hH1⟩, eo, etn⟩ | ⟨e1, c1, rfl, rfl, rfl, rfl, rfl, rfl, rfl⟩
    · --
      rcases hw_2 with ⟨c2, e2, et, rfl, rfl, rfl, rfl⟩ | ⟨c2, e2, et, etl, hG2, eho, hRH⟩
      · --
        first | exact absurd c1 c2 | exact absurd c2 c1 | (exfalso; omega)
      · --
        exact ⟨by rw [e1, et], fun _ => by rw [eo, ev, e2], ⟨(mTakeL M tx), (pushH h M), sl, [], hR1, hG2, (hM.takeL c1.2), hH1, hRH, eho, (push_le hh6), hXS, hSl, (by rw [etn]; exact Rep_no), (by rw [etl]; exact Rep_no), (by simp), hk⟩⟩
    · --
      rcases hw_2 with ⟨c2, e2, et, rfl, rfl, rfl, rfl⟩ | ⟨c2, e2, et, etl, hG2, eho, hRH⟩
      · --
        exact ⟨by rw [e1, et], fun q => absurd (e1.symm.trans q) (by decide), ⟨M, h, sl, tx, hR, hG, hM, hH, hHh, hho, hh6, hXS, hSl, hXt, hMt, ht80, hk⟩⟩
      · --
        first | exact absurd c1 c2 | exact absurd c2 c1 | (exfalso; omega)
  refine lv_istore (lv' := [(6, .int r_2), (5, .int r_1), (4, .int (iI (i : Int))), (0, .ref b), (1, .ref (ad 0)), (2, .ref m0), (3, .ref o0)]) hx hb dL_law_207 hl (by decide) rfl (fun ls hl => ?_)
  exact z_tail C (T := 209) ⟨dL_law_209, dL_law_210, dL_law_213, dL_law_215, dL_law_220, dL_law_222, dL_law_225, dL_law_226, dL_law_227, dL_law_228, dL_law_230, dL_law_231, dL_law_232, dL_law_237⟩ (by decide) hP hD hS ⟨Nat.le_trans (by omega) hro.1, Nat.le_trans (by omega) hro.2⟩ hl hj.1 hj.2.1 hj.2.2 (fun H1 locs1 ls1 a1 a2 a3 => W.widen (k := cells + 2) (n := slots + 12) (by omega) (by omega) (kk H1 locs1 ls1 a1 a2 a3))
set_option maxHeartbeats 4000000 in
set_option maxRecDepth 100000 in
theorem k_takeWord {p : Program} {l : Launch} {e : Env} {s : State} {m : MethodId} {below : List Frame} {meth : Method} {c : Code} {H : Heap} {locs : List Loc} {cells slots : Nat} {Q : State → Prop} {ls : Array Slot} {D : va_G} {cy : Nat → ClassId} {b L : Nat} {xs : Nat → Int32} {i : Nat} {ad : Nat → Nat} {o0 m0 a0 p0 q0 v0 t0 : Nat} (C : LC p l s m c b L xs D cy) (hi : (i : Int) + 2 < L) (hI : LI D cy ad o0 m0 a0 p0 q0 v0 t0 (fun q : Nat => s.heap.size ≤ q) H) (hS : va_S (fun q : Nat => s.heap.size ≤ q) s.heap H locs) (hro : cells + 2 ≤ 601024 ∧ slots + 12 ≤ 7293034) (hl : lv_has ls 7 (lvL i b (ad 0) m0 o0)) (kk : ∀ (H1 : Heap) (locs1 : List Loc) (ls1 : Array Slot), LI D cy ad o0 m0 a0 p0 q0 v0 t0 (fun q : Nat => s.heap.size ≤ q) H1 → va_S (fun q : Nat => s.heap.size ≤ q) s.heap H1 locs1 → lv_has ls1 7 (lvL i b (ad 0) m0 o0) → W p l e room_1 s m #[.ref b] below meth c H1 locs1 (cells + 2) (slots + 12) Q (F0 m 1472 ls1 [])) : W p l e room_1 s m #[.ref b] below meth c H locs cells slots Q (F0 m 240 ls []) := by
  obtain ⟨z, f, zt, ft, en, B, Kf, nx, ct, Zh, Fh, Zs, Fs, sv, tn, tf, O, ho, th, tl, G, Hh, Sl, Sv, Tx, ⟨M, h, sl, tx, hR, hG, hM, hH, hHh, hho, hh6, hXS, hSl, hXt, hMt, ht80, hk⟩, hP, hD⟩ := hI
  obtain ⟨hx, hb, hml, hown, hts, hX, hbl, hK, hT, hC, hZ, hfl, hL⟩ := id C
  have hA : ∀ q : Nat, s.heap.size ≤ q → (fun q : Nat => s.heap.size ≤ q) q := fun _ h => h
  have hl : lv_has ls 7 [(4, .int (iI (i : Int))), (0, .ref b), (1, .ref (ad 0)), (2, .ref m0), (3, .ref o0)] := hl
  refine lv_aload_n hx hb dL_law_240 rfl (lv_at hl 2 rfl) ?_
  refine lv_aload_n hx hb dL_law_241 rfl (lv_at hl 4 rfl) ?_
  refine z_hSi (n := 2) (As := [.ref (ad 0), .ref o0]) (rest := []) ⟨hx, hb, hml, hown, hts⟩ (c_L_takeWord l hfl D cy ad z f M nx ct Zh Fh h tn tf tx o0 O hR hM hH ⟨hXt, ht80⟩) gL_law_L_takeWord rfl (by decide +kernel) ⟨Nat.le_of_ble_eq_true rfl, Nat.le_of_ble_eq_true rfl⟩ hK hT hC hZ hS (Fp.blocks hP hD hS hA (cs := [wTop ad, wSt cy ad 1 z f, wHb ad ct, wKb cy ad nx, wSt cy ad 20 (Zh 0) (Fh 0), wSt cy ad 27 (Zh 1) (Fh 1), wSt cy ad 34 (Zh 2) (Fh 2), wSt cy ad 41 (Zh 3) (Fh 3), wSt cy ad 48 (Zh 4) (Fh 4), wSt cy ad 55 (Zh 5) (Fh 5), wTx cy ad tn tf, wOt cy o0 O]) (nb := fun (u : (Nat → Int) × (Nat → Nat → Int32) × Int × Int × (Nat → Nat → Int) × (Nat → Nat → Nat → Int32) × Int × (Nat → Int64)) => [wTop ad, wSt cy ad 1 u.1 u.2.1, wHb ad u.2.2.2.1, wKb cy ad u.2.2.1, wSt cy ad 20 (u.2.2.2.2.1 0) (u.2.2.2.2.2.1 0), wSt cy ad 27 (u.2.2.2.2.1 1) (u.2.2.2.2.2.1 1), wSt cy ad 34 (u.2.2.2.2.1 2) (u.2.2.2.2.2.1 2), wSt cy ad 41 (u.2.2.2.2.1 3) (u.2.2.2.2.2.1 3), wSt cy ad 48 (u.2.2.2.2.1 4) (u.2.2.2.2.2.1 4), wSt cy ad 55 (u.2.2.2.2.1 5) (u.2.2.2.2.2.1 5), wTx cy ad u.2.2.2.2.2.2.1 tf, wOt cy o0 u.2.2.2.2.2.2.2]) (nbs := fun (u : (Nat → Int) × (Nat → Nat → Int32) × Int × Int × (Nat → Nat → Int) × (Nat → Nat → Nat → Int32) × Int × (Nat → Int64)) => LBs cy ad o0 m0 a0 p0 q0 v0 t0 u.1 u.2.1 zt ft en B Kf u.2.2.1 u.2.2.2.1 u.2.2.2.2.1 u.2.2.2.2.2.1 Zs Fs sv u.2.2.2.2.2.2.1 tf u.2.2.2.2.2.2.2 ho th tl G Hh Sl Sv Tx) [0, 1, 4, 5, 6, 7, 8, 9, 10, 11, 16, 17] rfl rfl rfl (fun _ => rfl) (fun _ => rfl) (fun _ => rfl)) rfl hl.1 rfl (Nat.le_of_ble_eq_true rfl) dL_law_242 ⟨Nat.le_trans (by omega) hro.1, Nat.le_trans (by omega) hro.2⟩ (fun r_1 u_1 H locs hw_1 hP hD hS => ?_)
  obtain ⟨z_1, f_1, nx_1, ct_1, Zh_1, Fh_1, tn_1, O_1⟩ := u_1
  have hw_1 : (r_1 = iI 0 ∧ ∃ v : Int32, ((errF tx 0 = -1 ∧ (tx.length : Int) ≤ 16) ∧ v = iI (tx.length : Int) ∧ RS z_1 f_1 (mTakeW M tx) ∧ RXH nx_1 ct_1 Zh_1 Fh_1 (pushH h M)) ∧ O_1 0 = lI v.toInt ∧ tn_1 = 0) ∨ (r_1 = iI 1 ∧ (¬ (errF tx 0 = -1 ∧ (tx.length : Int) ≤ 16)) ∧ z_1 = z ∧ f_1 = f ∧ nx_1 = nx ∧ ct_1 = ct ∧ Zh_1 = Zh ∧ Fh_1 = Fh ∧ tn_1 = tn) := hw_1
  have hP : va_P D vwCl (LBs cy ad o0 m0 a0 p0 q0 v0 t0 z_1 f_1 zt ft en B Kf nx_1 ct_1 Zh_1 Fh_1 Zs Fs sv tn_1 tf O_1 ho th tl G Hh Sl Sv Tx).flatten H := hP
  have hD : va_D (fun q : Nat => s.heap.size ≤ q) (LBs cy ad o0 m0 a0 p0 q0 v0 t0 z_1 f_1 zt ft en B Kf nx_1 ct_1 Zh_1 Fh_1 Zs Fs sv tn_1 tf O_1 ho th tl G Hh Sl Sv Tx).flatten := hD
  refine lv_istore (lv' := [(5, .int r_1), (4, .int (iI (i : Int))), (0, .ref b), (1, .ref (ad 0)), (2, .ref m0), (3, .ref o0)]) hx hb dL_law_245 hl (by decide) rfl (fun ls hl => ?_)
  refine lv_aload_n hx hb dL_law_247 rfl (lv_at hl 4 rfl) ?_
  refine z_gVi (n := 0) (b := m0) (As := []) (rest := []) ⟨hx, hb, hml, hown, hts⟩ (c_X5_takeWord l D cy m0 a0 p0 q0 v0 t0 ho th tl G Hh Tx M h tx hG hM hHh ⟨hho, hh6⟩ hMt ht80) gL_law_X5_takeWord rfl (by decide +kernel) ⟨Nat.le_of_ble_eq_true rfl, Nat.le_of_ble_eq_true rfl⟩ hK hT hP hS (Fp.blocks hP hD hS hA (cs := [wMo m0 a0 p0 q0 v0 t0 ho th tl, wMa cy a0 144 G, wMa cy p0 864 Hh, wMa cy t0 80 Tx]) (nb := fun (u : (Nat → Int32) × Int × (Nat → Int32) × Int × Int) => [wMo m0 a0 p0 q0 v0 t0 u.2.1 u.2.2.2.1 u.2.2.2.2, wMa cy a0 144 u.1, wMa cy p0 864 u.2.2.1, wMa cy t0 80 Tx]) (nbs := fun (u : (Nat → Int32) × Int × (Nat → Int32) × Int × Int) => LBs cy ad o0 m0 a0 p0 q0 v0 t0 z_1 f_1 zt ft en B Kf nx_1 ct_1 Zh_1 Fh_1 Zs Fs sv tn_1 tf O_1 u.2.1 u.2.2.2.1 u.2.2.2.2 u.1 u.2.2.1 Sl Sv Tx) [18, 19, 20, 23] rfl rfl rfl (fun _ => rfl) (fun _ => rfl) (fun _ => rfl)) 81 5 rfl rfl rfl rfl hl.1 rfl (Nat.le_of_ble_eq_true rfl) dL_law_248 ⟨Nat.le_trans (by omega) hro.1, Nat.le_trans (by omega) hro.2⟩ (fun r_2 u_2 H locs hw_2 hP hD hS => ?_)
  obtain ⟨G_2, ho_2, Hh_2, th_2, tl_2⟩ := u_2
  have hw_2 : (¬ (errF tx 0 = -1 ∧ (tx.length : Int) ≤ 16) ∧ r_2 = iI 0 ∧ th_2 = 1 ∧ tl_2 = tl ∧ G_2 = G ∧ ho_2 = ho ∧ Hh_2 = Hh) ∨ ((errF tx 0 = -1 ∧ (tx.length : Int) ≤ 16) ∧ r_2 = iI (tx.length : Int) ∧ th_2 = 0 ∧ tl_2 = 0 ∧ RG G_2 (mTakeW M tx) ∧ ho_2 = ((pushH h M).length : Int) ∧ RH Hh_2 (pushH h M)) := hw_2
  have hP : va_P D vwCl (LBs cy ad o0 m0 a0 p0 q0 v0 t0 z_1 f_1 zt ft en B Kf nx_1 ct_1 Zh_1 Fh_1 Zs Fs sv tn_1 tf O_1 ho_2 th_2 tl_2 G_2 Hh_2 Sl Sv Tx).flatten H := hP
  have hD : va_D (fun q : Nat => s.heap.size ≤ q) (LBs cy ad o0 m0 a0 p0 q0 v0 t0 z_1 f_1 zt ft en B Kf nx_1 ct_1 Zh_1 Fh_1 Zs Fs sv tn_1 tf O_1 ho_2 th_2 tl_2 G_2 Hh_2 Sl Sv Tx).flatten := hD
  have hj : r_1 = iI th_2 ∧ (r_1 = iI 0 → O_1 0 = lI r_2.toInt) ∧ LJ z_1 f_1 Kf nx_1 ct_1 Zh_1 Fh_1 Zs Fs sv tn_1 tf ho_2 tl_2 G_2 Hh_2 Sl Sv Tx := by
    rcases hw_1 with ⟨e1, v, ⟨c1, ev, hR1, hH1⟩, eo, etn⟩ | ⟨e1, c1, rfl, rfl, rfl, rfl, rfl, rfl, rfl⟩
    · --
      rcases hw_2 with ⟨c2, e2, et, rfl, rfl, rfl, rfl⟩ | ⟨c2, e2, et, etl, hG2, eho, hRH⟩
      · --
        first | exact absurd c1 c2 | exact absurd c2 c1 | (exfalso; omega)
      · --
        exact ⟨by rw [e1, et], fun _ => by rw [eo, ev, e2], ⟨(mTakeW M tx), (pushH h M), sl, [], hR1, hG2, (hM.takeW c1.2), hH1, hRH, eho, (push_le hh6), hXS, hSl, (by rw [etn]; exact Rep_no), (by rw [etl]; exact Rep_no), (by simp), hk⟩⟩
    · --
      rcases hw_2 with ⟨c2, e2, et, rfl, rfl, rfl, rfl⟩ | ⟨c2, e2, et, etl, hG2, eho, hRH⟩
      · --
        exact ⟨by rw [e1, et], fun q => absurd (e1.symm.trans q) (by decide), ⟨M, h, sl, tx, hR, hG, hM, hH, hHh, hho, hh6, hXS, hSl, hXt, hMt, ht80, hk⟩⟩
      · --
        first | exact absurd c1 c2 | exact absurd c2 c1 | (exfalso; omega)
  refine lv_istore (lv' := [(6, .int r_2), (5, .int r_1), (4, .int (iI (i : Int))), (0, .ref b), (1, .ref (ad 0)), (2, .ref m0), (3, .ref o0)]) hx hb dL_law_251 hl (by decide) rfl (fun ls hl => ?_)
  exact z_tail C (T := 253) ⟨dL_law_253, dL_law_254, dL_law_257, dL_law_259, dL_law_264, dL_law_266, dL_law_269, dL_law_270, dL_law_271, dL_law_272, dL_law_274, dL_law_275, dL_law_276, dL_law_281⟩ (by decide) hP hD hS ⟨Nat.le_trans (by omega) hro.1, Nat.le_trans (by omega) hro.2⟩ hl hj.1 hj.2.1 hj.2.2 (fun H1 locs1 ls1 a1 a2 a3 => W.widen (k := cells + 2) (n := slots + 12) (by omega) (by omega) (kk H1 locs1 ls1 a1 a2 a3))
set_option maxHeartbeats 4000000 in
set_option maxRecDepth 100000 in
theorem k_setRules {p : Program} {l : Launch} {e : Env} {s : State} {m : MethodId} {below : List Frame} {meth : Method} {c : Code} {H : Heap} {locs : List Loc} {cells slots : Nat} {Q : State → Prop} {ls : Array Slot} {D : va_G} {cy : Nat → ClassId} {b L : Nat} {xs : Nat → Int32} {i : Nat} {ad : Nat → Nat} {o0 m0 a0 p0 q0 v0 t0 : Nat} (C : LC p l s m c b L xs D cy) (hi : (i : Int) + 2 < L) (hI : LI D cy ad o0 m0 a0 p0 q0 v0 t0 (fun q : Nat => s.heap.size ≤ q) H) (hS : va_S (fun q : Nat => s.heap.size ≤ q) s.heap H locs) (hro : cells + 2 ≤ 601024 ∧ slots + 12 ≤ 7293034) (hl : lv_has ls 7 (lvL i b (ad 0) m0 o0)) (kk : ∀ (H1 : Heap) (locs1 : List Loc) (ls1 : Array Slot), LI D cy ad o0 m0 a0 p0 q0 v0 t0 (fun q : Nat => s.heap.size ≤ q) H1 → va_S (fun q : Nat => s.heap.size ≤ q) s.heap H1 locs1 → lv_has ls1 7 (lvL i b (ad 0) m0 o0) → W p l e room_1 s m #[.ref b] below meth c H1 locs1 (cells + 2) (slots + 12) Q (F0 m 1472 ls1 [])) : W p l e room_1 s m #[.ref b] below meth c H locs cells slots Q (F0 m 284 ls []) := by
  obtain ⟨z, f, zt, ft, en, B, Kf, nx, ct, Zh, Fh, Zs, Fs, sv, tn, tf, O, ho, th, tl, G, Hh, Sl, Sv, Tx, ⟨M, h, sl, tx, hR, hG, hM, hH, hHh, hho, hh6, hXS, hSl, hXt, hMt, ht80, hk⟩, hP, hD⟩ := hI
  obtain ⟨hx, hb, hml, hown, hts, hX, hbl, hK, hT, hC, hZ, hfl, hL⟩ := id C
  have hA : ∀ q : Nat, s.heap.size ≤ q → (fun q : Nat => s.heap.size ≤ q) q := fun _ h => h
  have hl : lv_has ls 7 [(4, .int (iI (i : Int))), (0, .ref b), (1, .ref (ad 0)), (2, .ref m0), (3, .ref o0)] := hl
  obtain ⟨x, ex⟩ : ∃ x : Int, bt (xs ((i : Int) + 1).toNat).toInt = x := ⟨_, rfl⟩
  obtain ⟨y, ey⟩ : ∃ y : Int, bt (xs ((i : Int) + 2).toNat).toInt = y := ⟨_, rfl⟩
  have hxy : 0 ≤ x ∧ x ≤ 1 ∧ 0 ≤ y ∧ y ≤ 1 := by rw [← ex, ← ey]; exact ⟨(bt_ok _).1, (bt_ok _).2, (bt_ok _).1, (bt_ok _).2⟩
  refine lv_aload_n hx hb dL_law_284 rfl (lv_at hl 2 rfl) ?_
  refine z_arg C hS (lv_at hl 1 rfl) (lv_at hl 0 rfl) (by omega) (by omega) rfl dL_law_285 dL_law_286 dL_law_288 dL_law_289 dL_law_290 ?_
  refine z_bit C (iI_lo _) (iI_hi _) ex dL_law_291 dL_law_294 dL_law_295 dL_law_298 ?_
  refine z_arg C hS (lv_at hl 1 rfl) (lv_at hl 0 rfl) (by omega) (by omega) rfl dL_law_299 dL_law_300 dL_law_302 dL_law_303 dL_law_304 ?_
  refine z_bit C (iI_lo _) (iI_hi _) ey dL_law_305 dL_law_308 dL_law_309 dL_law_312 ?_
  refine z_gVi (n := 2) (b := ad 0) (As := [.int (iI x), .int (iI y)]) (rest := []) ⟨hx, hb, hml, hown, hts⟩ (c_X4_setRules l D cy ad z f M nx ct Zh Fh h x y hR hM hH hxy) gL_law_X4_setRules rfl (by decide +kernel) ⟨Nat.le_of_ble_eq_true rfl, Nat.le_of_ble_eq_true rfl⟩ hK hT hP hS (Fp.blocks hP hD hS hA (cs := [wTop ad, wSt cy ad 1 z f, wHb ad ct, wKb cy ad nx, wSt cy ad 20 (Zh 0) (Fh 0), wSt cy ad 27 (Zh 1) (Fh 1), wSt cy ad 34 (Zh 2) (Fh 2), wSt cy ad 41 (Zh 3) (Fh 3), wSt cy ad 48 (Zh 4) (Fh 4), wSt cy ad 55 (Zh 5) (Fh 5)]) (nb := fun (u : (Nat → Int) × (Nat → Nat → Int32) × Int × Int × (Nat → Nat → Int) × (Nat → Nat → Nat → Int32)) => [wTop ad, wSt cy ad 1 u.1 u.2.1, wHb ad u.2.2.2.1, wKb cy ad u.2.2.1, wSt cy ad 20 (u.2.2.2.2.1 0) (u.2.2.2.2.2 0), wSt cy ad 27 (u.2.2.2.2.1 1) (u.2.2.2.2.2 1), wSt cy ad 34 (u.2.2.2.2.1 2) (u.2.2.2.2.2 2), wSt cy ad 41 (u.2.2.2.2.1 3) (u.2.2.2.2.2 3), wSt cy ad 48 (u.2.2.2.2.1 4) (u.2.2.2.2.2 4), wSt cy ad 55 (u.2.2.2.2.1 5) (u.2.2.2.2.2 5)]) (nbs := fun (u : (Nat → Int) × (Nat → Nat → Int32) × Int × Int × (Nat → Nat → Int) × (Nat → Nat → Nat → Int32)) => LBs cy ad o0 m0 a0 p0 q0 v0 t0 u.1 u.2.1 zt ft en B Kf u.2.2.1 u.2.2.2.1 u.2.2.2.2.1 u.2.2.2.2.2 Zs Fs sv tn tf O ho th tl G Hh Sl Sv Tx) [0, 1, 4, 5, 6, 7, 8, 9, 10, 11] rfl rfl rfl (fun _ => rfl) (fun _ => rfl) (fun _ => rfl)) 0 4 rfl rfl rfl rfl hl.1 rfl (Nat.le_of_ble_eq_true rfl) dL_law_313 ⟨Nat.le_trans (by omega) hro.1, Nat.le_trans (by omega) hro.2⟩ (fun r_1 u_1 H locs hw_1 hP hD hS => ?_)
  obtain ⟨z_1, f_1, nx_1, ct_1, Zh_1, Fh_1⟩ := u_1
  have hw_1 : r_1 = iI (M.2.2.2.1 + M.2.2.2.2.1) ∧ RS z_1 f_1 (mRules M x y) ∧ RXH nx_1 ct_1 Zh_1 Fh_1 (pushH h M) := hw_1
  have hP : va_P D vwCl (LBs cy ad o0 m0 a0 p0 q0 v0 t0 z_1 f_1 zt ft en B Kf nx_1 ct_1 Zh_1 Fh_1 Zs Fs sv tn tf O ho th tl G Hh Sl Sv Tx).flatten H := hP
  have hD : va_D (fun q : Nat => s.heap.size ≤ q) (LBs cy ad o0 m0 a0 p0 q0 v0 t0 z_1 f_1 zt ft en B Kf nx_1 ct_1 Zh_1 Fh_1 Zs Fs sv tn tf O ho th tl G Hh Sl Sv Tx).flatten := hD
  refine lv_aload_n hx hb dL_law_316 rfl (lv_at hl 3 rfl) ?_
  refine z_arg C hS (lv_at hl 1 rfl) (lv_at hl 0 rfl) (by omega) (by omega) rfl dL_law_317 dL_law_318 dL_law_320 dL_law_321 dL_law_322 ?_
  refine z_bit C (iI_lo _) (iI_hi _) ex dL_law_323 dL_law_326 dL_law_327 dL_law_330 ?_
  refine z_arg C hS (lv_at hl 1 rfl) (lv_at hl 0 rfl) (by omega) (by omega) rfl dL_law_331 dL_law_332 dL_law_334 dL_law_335 dL_law_336 ?_
  refine z_bit C (iI_lo _) (iI_hi _) ey dL_law_337 dL_law_340 dL_law_341 dL_law_344 ?_
  refine z_gVi (n := 2) (b := m0) (As := [.int (iI x), .int (iI y)]) (rest := [.int r_1]) ⟨hx, hb, hml, hown, hts⟩ (c_X5_setRules l D cy m0 a0 p0 q0 v0 t0 ho th tl G Hh M h x y hG hM hHh ⟨hho, hh6⟩ hxy) gL_law_X5_setRules rfl (by decide +kernel) ⟨Nat.le_of_ble_eq_true rfl, Nat.le_of_ble_eq_true rfl⟩ hK hT hP hS (Fp.blocks hP hD hS hA (cs := [wMo m0 a0 p0 q0 v0 t0 ho th tl, wMa cy a0 144 G, wMa cy p0 864 Hh]) (nb := fun (u : (Nat → Int32) × Int × (Nat → Int32)) => [wMo m0 a0 p0 q0 v0 t0 u.2.1 (0 : Int) tl, wMa cy a0 144 u.1, wMa cy p0 864 u.2.2]) (nbs := fun (u : (Nat → Int32) × Int × (Nat → Int32)) => LBs cy ad o0 m0 a0 p0 q0 v0 t0 z_1 f_1 zt ft en B Kf nx_1 ct_1 Zh_1 Fh_1 Zs Fs sv tn tf O u.2.1 (0 : Int) tl u.1 u.2.2 Sl Sv Tx) [18, 19, 20] rfl rfl rfl (fun _ => rfl) (fun _ => rfl) (fun _ => rfl)) 81 5 rfl rfl rfl rfl hl.1 rfl (Nat.le_of_ble_eq_true rfl) dL_law_345 ⟨Nat.le_trans (by omega) hro.1, Nat.le_trans (by omega) hro.2⟩ (fun r_2 u_2 H locs hw_2 hP hD hS => ?_)
  obtain ⟨G_2, ho_2, Hh_2⟩ := u_2
  have hw_2 : r_2 = iI (M.2.2.2.1 + M.2.2.2.2.1) ∧ RG G_2 (mRules M x y) ∧ ho_2 = ((pushH h M).length : Int) ∧ RH Hh_2 (pushH h M) := hw_2
  have hP : va_P D vwCl (LBs cy ad o0 m0 a0 p0 q0 v0 t0 z_1 f_1 zt ft en B Kf nx_1 ct_1 Zh_1 Fh_1 Zs Fs sv tn tf O ho_2 (0 : Int) tl G_2 Hh_2 Sl Sv Tx).flatten H := hP
  have hD : va_D (fun q : Nat => s.heap.size ≤ q) (LBs cy ad o0 m0 a0 p0 q0 v0 t0 z_1 f_1 zt ft en B Kf nx_1 ct_1 Zh_1 Fh_1 Zs Fs sv tn tf O ho_2 (0 : Int) tl G_2 Hh_2 Sl Sv Tx).flatten := hD
  have hj : r_1 = r_2 ∧ LJ z_1 f_1 Kf nx_1 ct_1 Zh_1 Fh_1 Zs Fs sv tn tf ho_2 tl G_2 Hh_2 Sl Sv Tx := by
    obtain ⟨e1, hR1, hH1⟩ := hw_1
    obtain ⟨e2, hG2, eho, hRH⟩ := hw_2
    exact ⟨e1.trans e2.symm, ⟨(mRules M x y), (pushH h M), sl, tx, hR1, hG2, (hM.rules hxy), hH1, hRH, eho, (push_le hh6), hXS, hSl, hXt, hMt, ht80, hk⟩⟩
  refine lv_icmp_eq (tgt := 1472) hx hb dL_law_348 (by decide) (fun _ => ?_) (fun q => absurd hj.1 q)
  exact (fun H1 locs1 ls1 a1 a2 a3 => W.widen (k := cells + 2) (n := slots + 12) (by omega) (by omega) (kk H1 locs1 ls1 a1 a2 a3)) _ _ _ ⟨z_1, f_1, zt, ft, en, B, Kf, nx_1, ct_1, Zh_1, Fh_1, Zs, Fs, sv, tn, tf, O, ho_2, (0 : Int), tl, G_2, Hh_2, Sl, Sv, Tx, hj.2, hP, hD⟩ hS hl
set_option maxHeartbeats 4000000 in
set_option maxRecDepth 100000 in
theorem k_look {p : Program} {l : Launch} {e : Env} {s : State} {m : MethodId} {below : List Frame} {meth : Method} {c : Code} {H : Heap} {locs : List Loc} {cells slots : Nat} {Q : State → Prop} {ls : Array Slot} {D : va_G} {cy : Nat → ClassId} {b L : Nat} {xs : Nat → Int32} {i : Nat} {ad : Nat → Nat} {o0 m0 a0 p0 q0 v0 t0 : Nat} (C : LC p l s m c b L xs D cy) (hi : (i : Int) + 2 < L) (hI : LI D cy ad o0 m0 a0 p0 q0 v0 t0 (fun q : Nat => s.heap.size ≤ q) H) (hS : va_S (fun q : Nat => s.heap.size ≤ q) s.heap H locs) (hro : cells + 2 ≤ 601024 ∧ slots + 12 ≤ 7293034) (hl : lv_has ls 7 (lvL i b (ad 0) m0 o0)) (kk : ∀ (H1 : Heap) (locs1 : List Loc) (ls1 : Array Slot), LI D cy ad o0 m0 a0 p0 q0 v0 t0 (fun q : Nat => s.heap.size ≤ q) H1 → va_S (fun q : Nat => s.heap.size ≤ q) s.heap H1 locs1 → lv_has ls1 7 (lvL i b (ad 0) m0 o0) → W p l e room_1 s m #[.ref b] below meth c H1 locs1 (cells + 2) (slots + 12) Q (F0 m 1472 ls1 [])) : W p l e room_1 s m #[.ref b] below meth c H locs cells slots Q (F0 m 353 ls []) := by
  obtain ⟨z, f, zt, ft, en, B, Kf, nx, ct, Zh, Fh, Zs, Fs, sv, tn, tf, O, ho, th, tl, G, Hh, Sl, Sv, Tx, ⟨M, h, sl, tx, hR, hG, hM, hH, hHh, hho, hh6, hXS, hSl, hXt, hMt, ht80, hk⟩, hP, hD⟩ := hI
  obtain ⟨hx, hb, hml, hown, hts, hX, hbl, hK, hT, hC, hZ, hfl, hL⟩ := id C
  have hA : ∀ q : Nat, s.heap.size ≤ q → (fun q : Nat => s.heap.size ≤ q) q := fun _ h => h
  have hl : lv_has ls 7 [(4, .int (iI (i : Int))), (0, .ref b), (1, .ref (ad 0)), (2, .ref m0), (3, .ref o0)] := hl
  refine lv_aload_n hx hb dL_law_353 rfl (lv_at hl 2 rfl) ?_
  refine lv_aload_n hx hb dL_law_354 rfl (lv_at hl 4 rfl) ?_
  refine z_hSi (n := 2) (As := [.ref (ad 0), .ref o0]) (rest := []) ⟨hx, hb, hml, hown, hts⟩ (c_L_look l hfl D cy ad z f M nx ct Zh Fh h en B Kf o0 O hR hM hH hk) gL_law_L_look rfl (by decide +kernel) ⟨Nat.le_of_ble_eq_true rfl, Nat.le_of_ble_eq_true rfl⟩ hK hT hC hZ hS (Fp.blocks hP hD hS hA (cs := [wTop ad, wSt cy ad 1 z f, wHb ad ct, wKb cy ad nx, wSt cy ad 20 (Zh 0) (Fh 0), wSt cy ad 27 (Zh 1) (Fh 1), wSt cy ad 34 (Zh 2) (Fh 2), wSt cy ad 41 (Zh 3) (Fh 3), wSt cy ad 48 (Zh 4) (Fh 4), wSt cy ad 55 (Zh 5) (Fh 5), wEn cy ad en B Kf, wOt cy o0 O]) (nb := fun (u : (Nat → Int) × (Nat → Nat → Int32) × Int × Int × (Nat → Nat → Int) × (Nat → Nat → Nat → Int32) × Int × (Nat → Int) × (Nat → Int) × (Nat → Int64)) => [wTop ad, wSt cy ad 1 u.1 u.2.1, wHb ad u.2.2.2.1, wKb cy ad u.2.2.1, wSt cy ad 20 (u.2.2.2.2.1 0) (u.2.2.2.2.2.1 0), wSt cy ad 27 (u.2.2.2.2.1 1) (u.2.2.2.2.2.1 1), wSt cy ad 34 (u.2.2.2.2.1 2) (u.2.2.2.2.2.1 2), wSt cy ad 41 (u.2.2.2.2.1 3) (u.2.2.2.2.2.1 3), wSt cy ad 48 (u.2.2.2.2.1 4) (u.2.2.2.2.2.1 4), wSt cy ad 55 (u.2.2.2.2.1 5) (u.2.2.2.2.2.1 5), wEn cy ad u.2.2.2.2.2.2.1 u.2.2.2.2.2.2.2.1 u.2.2.2.2.2.2.2.2.1, wOt cy o0 u.2.2.2.2.2.2.2.2.2]) (nbs := fun (u : (Nat → Int) × (Nat → Nat → Int32) × Int × Int × (Nat → Nat → Int) × (Nat → Nat → Nat → Int32) × Int × (Nat → Int) × (Nat → Int) × (Nat → Int64)) => LBs cy ad o0 m0 a0 p0 q0 v0 t0 u.1 u.2.1 zt ft u.2.2.2.2.2.2.1 u.2.2.2.2.2.2.2.1 u.2.2.2.2.2.2.2.2.1 u.2.2.1 u.2.2.2.1 u.2.2.2.2.1 u.2.2.2.2.2.1 Zs Fs sv tn tf u.2.2.2.2.2.2.2.2.2 ho th tl G Hh Sl Sv Tx) [0, 1, 4, 5, 6, 7, 8, 9, 10, 11, 3, 17] rfl rfl rfl (fun _ => rfl) (fun _ => rfl) (fun _ => rfl)) rfl hl.1 rfl (Nat.le_of_ble_eq_true rfl) dL_law_355 ⟨Nat.le_trans (by omega) hro.1, Nat.le_trans (by omega) hro.2⟩ (fun r_1 u_1 H locs hw_1 hP hD hS => ?_)
  obtain ⟨z_1, f_1, nx_1, ct_1, Zh_1, Fh_1, en_1, B_1, Kf_1, O_1⟩ := u_1
  have hw_1 : (r_1 = iI 0 ∧ ∃ v : Int32, (¬ mOver M ∧ v = iI (mSk M M.2.2.2.2.2.1 (mD M M.2.2.2.2.2.1)) ∧ RS z_1 f_1 (mLook M) ∧ RXH nx_1 ct_1 Zh_1 Fh_1 (pushH h M) ∧ ∀ j : Nat, 0 ≤ Kf_1 j ∧ Kf_1 j ≤ 17) ∧ O_1 0 = lI v.toInt) ∨ (r_1 = iI 1 ∧ (mOver M) ∧ z_1 = z ∧ f_1 = f ∧ nx_1 = nx ∧ ct_1 = ct ∧ Zh_1 = Zh ∧ Fh_1 = Fh ∧ en_1 = en ∧ B_1 = B ∧ Kf_1 = Kf) := hw_1
  have hP : va_P D vwCl (LBs cy ad o0 m0 a0 p0 q0 v0 t0 z_1 f_1 zt ft en_1 B_1 Kf_1 nx_1 ct_1 Zh_1 Fh_1 Zs Fs sv tn tf O_1 ho th tl G Hh Sl Sv Tx).flatten H := hP
  have hD : va_D (fun q : Nat => s.heap.size ≤ q) (LBs cy ad o0 m0 a0 p0 q0 v0 t0 z_1 f_1 zt ft en_1 B_1 Kf_1 nx_1 ct_1 Zh_1 Fh_1 Zs Fs sv tn tf O_1 ho th tl G Hh Sl Sv Tx).flatten := hD
  refine lv_istore (lv' := [(5, .int r_1), (4, .int (iI (i : Int))), (0, .ref b), (1, .ref (ad 0)), (2, .ref m0), (3, .ref o0)]) hx hb dL_law_358 hl (by decide) rfl (fun ls hl => ?_)
  refine lv_aload_n hx hb dL_law_360 rfl (lv_at hl 4 rfl) ?_
  refine z_gVi (n := 0) (b := m0) (As := []) (rest := []) ⟨hx, hb, hml, hown, hts⟩ (c_X5_look l D cy m0 a0 p0 q0 v0 t0 ho th tl G Hh M h hG hM hHh ⟨hho, hh6⟩) gL_law_X5_look rfl (by decide +kernel) ⟨Nat.le_of_ble_eq_true rfl, Nat.le_of_ble_eq_true rfl⟩ hK hT hP hS (Fp.blocks hP hD hS hA (cs := [wMo m0 a0 p0 q0 v0 t0 ho th tl, wMa cy a0 144 G, wMa cy p0 864 Hh]) (nb := fun (u : (Nat → Int32) × Int × (Nat → Int32) × Int) => [wMo m0 a0 p0 q0 v0 t0 u.2.1 u.2.2.2 tl, wMa cy a0 144 u.1, wMa cy p0 864 u.2.2.1]) (nbs := fun (u : (Nat → Int32) × Int × (Nat → Int32) × Int) => LBs cy ad o0 m0 a0 p0 q0 v0 t0 z_1 f_1 zt ft en_1 B_1 Kf_1 nx_1 ct_1 Zh_1 Fh_1 Zs Fs sv tn tf O_1 u.2.1 u.2.2.2 tl u.1 u.2.2.1 Sl Sv Tx) [18, 19, 20] rfl rfl rfl (fun _ => rfl) (fun _ => rfl) (fun _ => rfl)) 81 5 rfl rfl rfl rfl hl.1 rfl (Nat.le_of_ble_eq_true rfl) dL_law_361 ⟨Nat.le_trans (by omega) hro.1, Nat.le_trans (by omega) hro.2⟩ (fun r_2 u_2 H locs hw_2 hP hD hS => ?_)
  obtain ⟨G_2, ho_2, Hh_2, th_2⟩ := u_2
  have hw_2 : (mOver M ∧ r_2 = iI 0 ∧ th_2 = 1 ∧ G_2 = G ∧ ho_2 = ho ∧ Hh_2 = Hh) ∨ (¬ mOver M ∧ r_2 = iI (mSk M M.2.2.2.2.2.1 (mD M M.2.2.2.2.2.1)) ∧ th_2 = 0 ∧ RG G_2 (mLook M) ∧ ho_2 = ((pushH h M).length : Int) ∧ RH Hh_2 (pushH h M)) := hw_2
  have hP : va_P D vwCl (LBs cy ad o0 m0 a0 p0 q0 v0 t0 z_1 f_1 zt ft en_1 B_1 Kf_1 nx_1 ct_1 Zh_1 Fh_1 Zs Fs sv tn tf O_1 ho_2 th_2 tl G_2 Hh_2 Sl Sv Tx).flatten H := hP
  have hD : va_D (fun q : Nat => s.heap.size ≤ q) (LBs cy ad o0 m0 a0 p0 q0 v0 t0 z_1 f_1 zt ft en_1 B_1 Kf_1 nx_1 ct_1 Zh_1 Fh_1 Zs Fs sv tn tf O_1 ho_2 th_2 tl G_2 Hh_2 Sl Sv Tx).flatten := hD
  have hj : r_1 = iI th_2 ∧ (r_1 = iI 0 → O_1 0 = lI r_2.toInt) ∧ LJ z_1 f_1 Kf_1 nx_1 ct_1 Zh_1 Fh_1 Zs Fs sv tn tf ho_2 tl G_2 Hh_2 Sl Sv Tx := by
    rcases hw_1 with ⟨e1, v, ⟨c1, ev, hR1, hH1, hk1⟩, eo⟩ | ⟨e1, c1, rfl, rfl, rfl, rfl, rfl, rfl, rfl, rfl, rfl⟩
    · --
      rcases hw_2 with ⟨c2, e2, et, rfl, rfl, rfl⟩ | ⟨c2, e2, et, hG2, eho, hRH⟩
      · --
        first | exact absurd c1 c2 | exact absurd c2 c1 | (exfalso; omega)
      · --
        exact ⟨by rw [e1, et], fun _ => by rw [eo, ev, e2], ⟨(mLook M), (pushH h M), sl, tx, hR1, hG2, (hM.look c1), hH1, hRH, eho, (push_le hh6), hXS, hSl, hXt, hMt, ht80, hk1⟩⟩
    · --
      rcases hw_2 with ⟨c2, e2, et, rfl, rfl, rfl⟩ | ⟨c2, e2, et, hG2, eho, hRH⟩
      · --
        exact ⟨by rw [e1, et], fun q => absurd (e1.symm.trans q) (by decide), ⟨M, h, sl, tx, hR, hG, hM, hH, hHh, hho, hh6, hXS, hSl, hXt, hMt, ht80, hk⟩⟩
      · --
        first | exact absurd c1 c2 | exact absurd c2 c1 | (exfalso; omega)
  refine lv_istore (lv' := [(6, .int r_2), (5, .int r_1), (4, .int (iI (i : Int))), (0, .ref b), (1, .ref (ad 0)), (2, .ref m0), (3, .ref o0)]) hx hb dL_law_364 hl (by decide) rfl (fun ls hl => ?_)
  exact z_tail C (T := 366) ⟨dL_law_366, dL_law_367, dL_law_370, dL_law_372, dL_law_377, dL_law_379, dL_law_382, dL_law_383, dL_law_384, dL_law_385, dL_law_387, dL_law_388, dL_law_389, dL_law_394⟩ (by decide) hP hD hS ⟨Nat.le_trans (by omega) hro.1, Nat.le_trans (by omega) hro.2⟩ hl hj.1 hj.2.1 hj.2.2 (fun H1 locs1 ls1 a1 a2 a3 => W.widen (k := cells + 2) (n := slots + 12) (by omega) (by omega) (kk H1 locs1 ls1 a1 a2 a3))
