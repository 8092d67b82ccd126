/-! cases of the law: differenceAt, appendText, clearText, textLength -/
set_option maxHeartbeats 4000000 in
set_option maxRecDepth 100000 in
theorem k_differenceAt {p : Program} {l : Launch} {e : Env} {s : State} {m : MethodId} {below : List Frame} {meth : Method} {c : Code} {H : Heap} {locs : List Loc} {cells slots : Nat} {Q : State → Prop} {ls : Array Slot} {D : va_G} {cy : Nat → ClassId} {b L : Nat} {xs : Nat → Int32} {i : Nat} {ad : Nat → Nat} {o0 m0 a0 p0 q0 v0 t0 : Nat} (C : LC p l s m c b L xs D cy) (hi : (i : Int) + 2 < L) (hI : LI D cy ad o0 m0 a0 p0 q0 v0 t0 (fun q : Nat => s.heap.size ≤ q) H) (hS : va_S (fun q : Nat => s.heap.size ≤ q) s.heap H locs) (hro : cells + 2 ≤ 601024 ∧ slots + 12 ≤ 7293034) (hl : lv_has ls 7 (lvL i b (ad 0) m0 o0)) (kk : ∀ (H1 : Heap) (locs1 : List Loc) (ls1 : Array Slot), LI D cy ad o0 m0 a0 p0 q0 v0 t0 (fun q : Nat => s.heap.size ≤ q) H1 → va_S (fun q : Nat => s.heap.size ≤ q) s.heap H1 locs1 → lv_has ls1 7 (lvL i b (ad 0) m0 o0) → W p l e room_1 s m #[.ref b] below meth c H1 locs1 (cells + 2) (slots + 12) Q (F0 m 1472 ls1 [])) : W p l e room_1 s m #[.ref b] below meth c H locs cells slots Q (F0 m 1120 ls []) := by
  obtain ⟨z, f, zt, ft, en, B, Kf, nx, ct, Zh, Fh, Zs, Fs, sv, tn, tf, O, ho, th, tl, G, Hh, Sl, Sv, Tx, ⟨M, h, sl, tx, hR, hG, hM, hH, hHh, hho, hh6, hXS, hSl, hXt, hMt, ht80, hk⟩, hP, hD⟩ := hI
  obtain ⟨hx, hb, hml, hown, hts, hX, hbl, hK, hT, hC, hZ, hfl, hL⟩ := id C
  have hA : ∀ q : Nat, s.heap.size ≤ q → (fun q : Nat => s.heap.size ≤ q) q := fun _ h => h
  have hl : lv_has ls 7 [(4, .int (iI (i : Int))), (0, .ref b), (1, .ref (ad 0)), (2, .ref m0), (3, .ref o0)] := hl
  obtain ⟨x, ex⟩ : ∃ x : Int, (xs ((i : Int) + 1).toNat).toInt = x := ⟨_, rfl⟩
  have hx1 : -2147483648 ≤ x ∧ x < 2147483648 := by rw [← ex]; exact ⟨iI_lo _, iI_hi _⟩
  refine lv_aload_n hx hb dL_law_1120 rfl (lv_at hl 2 rfl) ?_
  refine z_arg C hS (lv_at hl 1 rfl) (lv_at hl 0 rfl) (by omega) (by omega) ex dL_law_1121 dL_law_1122 dL_law_1124 dL_law_1125 dL_law_1126 ?_
  refine lv_aload_n hx hb dL_law_1127 rfl (lv_at hl 4 rfl) ?_
  refine z_hSi (n := 3) (As := [.ref (ad 0), .int (iI x), .ref o0]) (rest := []) ⟨hx, hb, hml, hown, hts⟩ (c_L_differenceAt l hfl D cy ad z f M x o0 O hR hM hx1) gL_law_L_differenceAt rfl (by decide +kernel) ⟨Nat.le_of_ble_eq_true rfl, Nat.le_of_ble_eq_true rfl⟩ hK hT hC hZ hS (Fp.blocks hP hD hS hA (cs := [wTop ad, wSt cy ad 1 z f, wOt cy o0 O]) (nb := fun (u : (Nat → Int64)) => [wTop ad, wSt cy ad 1 z f, wOt cy o0 u]) (nbs := fun (u : (Nat → Int64)) => LBs cy ad o0 m0 a0 p0 q0 v0 t0 z f zt ft en B Kf nx ct Zh Fh Zs Fs sv tn tf u ho th tl G Hh Sl Sv Tx) [0, 1, 17] rfl rfl rfl (fun _ => rfl) (fun _ => rfl) (fun _ => rfl)) rfl hl.1 rfl (Nat.le_of_ble_eq_true rfl) dL_law_1128 ⟨Nat.le_trans (by omega) hro.1, Nat.le_trans (by omega) hro.2⟩ (fun r_1 u_1 H locs hw_1 hP hD hS => ?_)
  obtain ⟨O_1, rfl⟩ : ∃ w, w = u_1 := ⟨_, rfl⟩
  have hw_1 : (r_1 = iI 0 ∧ ∃ v : Int32, ((0 ≤ x ∧ x + (M.2.1.length : Int) ≤ (M.1.length : Int)) ∧ ¬ (M.2.1.length : Int) = 0 ∧ v = iI (mD M x)) ∧ O_1 0 = lI v.toInt) ∨ (r_1 = iI 1 ∧ ((x < 0 ∨ (M.1.length : Int) < x + (M.2.1.length : Int)))) ∨ (r_1 = iI 2 ∧ (¬ (x < 0 ∨ (M.1.length : Int) < x + (M.2.1.length : Int)) ∧ (M.2.1.length : Int) = 0)) := hw_1
  have hP : va_P D vwCl (LBs cy ad o0 m0 a0 p0 q0 v0 t0 z f zt ft en B Kf nx ct Zh Fh Zs Fs sv tn tf O_1 ho th tl G Hh Sl Sv Tx).flatten H := hP
  have hD : va_D (fun q : Nat => s.heap.size ≤ q) (LBs cy ad o0 m0 a0 p0 q0 v0 t0 z f zt ft en B Kf nx ct Zh Fh Zs Fs sv tn tf O_1 ho th tl G Hh Sl Sv Tx).flatten := hD
  refine lv_istore (lv' := [(5, .int r_1), (4, .int (iI (i : Int))), (0, .ref b), (1, .ref (ad 0)), (2, .ref m0), (3, .ref o0)]) hx hb dL_law_1131 hl (by decide) rfl (fun ls hl => ?_)
  refine lv_aload_n hx hb dL_law_1133 rfl (lv_at hl 4 rfl) ?_
  refine z_arg C hS (lv_at hl 2 rfl) (lv_at hl 1 rfl) (by omega) (by omega) ex dL_law_1134 dL_law_1135 dL_law_1137 dL_law_1138 dL_law_1139 ?_
  refine z_gVi (n := 1) (b := m0) (As := [.int (iI x)]) (rest := []) ⟨hx, hb, hml, hown, hts⟩ (c_X5_differenceAt l D cy m0 a0 p0 q0 v0 t0 ho th tl G M x hG hM hx1) gL_law_X5_differenceAt rfl (by decide +kernel) ⟨Nat.le_of_ble_eq_true rfl, Nat.le_of_ble_eq_true rfl⟩ hK hT hP hS (Fp.blocks hP hD hS hA (cs := [wMo m0 a0 p0 q0 v0 t0 ho th tl, wMa cy a0 144 G]) (nb := fun (u : Int) => [wMo m0 a0 p0 q0 v0 t0 ho u tl, wMa cy a0 144 G]) (nbs := fun (u : Int) => LBs cy ad o0 m0 a0 p0 q0 v0 t0 z f zt ft en B Kf nx ct Zh Fh Zs Fs sv tn tf O_1 ho u tl G Hh Sl Sv Tx) [18, 19] rfl rfl rfl (fun _ => rfl) (fun _ => rfl) (fun _ => rfl)) 81 5 rfl rfl rfl rfl hl.1 rfl (Nat.le_of_ble_eq_true rfl) dL_law_1140 ⟨Nat.le_trans (by omega) hro.1, Nat.le_trans (by omega) hro.2⟩ (fun r_2 u_2 H locs hw_2 hP hD hS => ?_)
  obtain ⟨th_2, rfl⟩ : ∃ w, w = u_2 := ⟨_, rfl⟩
  have hw_2 : ((x < 0 ∨ (M.1.length : Int) < x + (M.2.1.length : Int)) ∧ r_2 = iI 0 ∧ th_2 = 1) ∨ (¬ (x < 0 ∨ (M.1.length : Int) < x + (M.2.1.length : Int)) ∧ (M.2.1.length : Int) = 0 ∧ r_2 = iI 0 ∧ th_2 = 2) ∨ (¬ (x < 0 ∨ (M.1.length : Int) < x + (M.2.1.length : Int)) ∧ ¬ (M.2.1.length : Int) = 0 ∧ r_2 = iI (mD M x) ∧ th_2 = 0) := hw_2
  have hP : va_P D vwCl (LBs cy ad o0 m0 a0 p0 q0 v0 t0 z f zt ft en B Kf nx ct Zh Fh Zs Fs sv tn tf O_1 ho th_2 tl G Hh Sl Sv Tx).flatten H := hP
  have hD : va_D (fun q : Nat => s.heap.size ≤ q) (LBs cy ad o0 m0 a0 p0 q0 v0 t0 z f zt ft en B Kf nx ct Zh Fh Zs Fs sv tn tf O_1 ho th_2 tl G Hh Sl Sv Tx).flatten := hD
  have hj : r_1 = iI th_2 ∧ (r_1 = iI 0 → O_1 0 = lI r_2.toInt) ∧ LJ z f Kf nx ct Zh Fh Zs Fs sv tn tf ho tl G Hh Sl Sv Tx := by
    rcases hw_1 with ⟨e1, v, ⟨c1, c1b, ev⟩, eo⟩ | ⟨e1, c1⟩ | ⟨e1, ⟨c1, c1b⟩⟩
    · --
      rcases hw_2 with ⟨c2, e2, et⟩ | ⟨c2, c2b, e2, et⟩ | ⟨c2, c2b, e2, et⟩
      · --
        first | exact absurd c1 c2 | exact absurd c2 c1 | (exfalso; omega)
      · --
        first | exact absurd c1 c2 | exact absurd c2 c1 | (exfalso; omega)
      · --
        exact ⟨by rw [e1, et], fun _ => by rw [eo, ev, e2], ⟨M, h, sl, tx, hR, hG, hM, hH, hHh, hho, hh6, hXS, hSl, hXt, hMt, ht80, hk⟩⟩
    · --
      rcases hw_2 with ⟨c2, e2, et⟩ | ⟨c2, c2b, e2, et⟩ | ⟨c2, c2b, e2, et⟩
      · --
        exact ⟨by rw [e1, et], fun q => absurd (e1.symm.trans q) (by decide), ⟨M, h, sl, tx, hR, hG, hM, hH, hHh, hho, hh6, hXS, hSl, hXt, hMt, ht80, hk⟩⟩
      · --
        first | exact absurd c1 c2 | exact absurd c2 c1 | (exfalso; omega)
      · --
        first | exact absurd c1 c2 | exact absurd c2 c1 | (exfalso; omega)
    · --
      rcases hw_2 with ⟨c2, e2, et⟩ | ⟨c2, c2b, e2, et⟩ | ⟨c2, c2b, e2, et⟩
      · --
        first | exact absurd c1 c2 | exact absurd c2 c1 | (exfalso; omega)
      · --
        exact ⟨by rw [e1, et], fun q => absurd (e1.symm.trans q) (by decide), ⟨M, h, sl, tx, hR, hG, hM, hH, hHh, hho, hh6, hXS, hSl, hXt, hMt, ht80, hk⟩⟩
      · --
        first | exact absurd c1 c2 | exact absurd c2 c1 | (exfalso; omega)
  refine lv_istore (lv' := [(6, .int r_2), (5, .int r_1), (4, .int (iI (i : Int))), (0, .ref b), (1, .ref (ad 0)), (2, .ref m0), (3, .ref o0)]) hx hb dL_law_1143 hl (by decide) rfl (fun ls hl => ?_)
  exact z_tail C (T := 1145) ⟨dL_law_1145, dL_law_1146, dL_law_1149, dL_law_1151, dL_law_1156, dL_law_1158, dL_law_1161, dL_law_1162, dL_law_1163, dL_law_1164, dL_law_1166, dL_law_1167, dL_law_1168, dL_law_1173⟩ (by decide) hP hD hS ⟨Nat.le_trans (by omega) hro.1, Nat.le_trans (by omega) hro.2⟩ hl hj.1 hj.2.1 hj.2.2 (fun H1 locs1 ls1 a1 a2 a3 => W.widen (k := cells + 2) (n := slots + 12) (by omega) (by omega) (kk H1 locs1 ls1 a1 a2 a3))
set_option maxHeartbeats 4000000 in
set_option maxRecDepth 100000 in
theorem k_appendText {p : Program} {l : Launch} {e : Env} {s : State} {m : MethodId} {below : List Frame} {meth : Method} {c : Code} {H : Heap} {locs : List Loc} {cells slots : Nat} {Q : State → Prop} {ls : Array Slot} {D : va_G} {cy : Nat → ClassId} {b L : Nat} {xs : Nat → Int32} {i : Nat} {ad : Nat → Nat} {o0 m0 a0 p0 q0 v0 t0 : Nat} (C : LC p l s m c b L xs D cy) (hi : (i : Int) + 2 < L) (hI : LI D cy ad o0 m0 a0 p0 q0 v0 t0 (fun q : Nat => s.heap.size ≤ q) H) (hS : va_S (fun q : Nat => s.heap.size ≤ q) s.heap H locs) (hro : cells + 2 ≤ 601024 ∧ slots + 12 ≤ 7293034) (hl : lv_has ls 7 (lvL i b (ad 0) m0 o0)) (kk : ∀ (H1 : Heap) (locs1 : List Loc) (ls1 : Array Slot), LI D cy ad o0 m0 a0 p0 q0 v0 t0 (fun q : Nat => s.heap.size ≤ q) H1 → va_S (fun q : Nat => s.heap.size ≤ q) s.heap H1 locs1 → lv_has ls1 7 (lvL i b (ad 0) m0 o0) → W p l e room_1 s m #[.ref b] below meth c H1 locs1 (cells + 2) (slots + 12) Q (F0 m 1472 ls1 [])) : W p l e room_1 s m #[.ref b] below meth c H locs cells slots Q (F0 m 1176 ls []) := by
  obtain ⟨z, f, zt, ft, en, B, Kf, nx, ct, Zh, Fh, Zs, Fs, sv, tn, tf, O, ho, th, tl, G, Hh, Sl, Sv, Tx, ⟨M, h, sl, tx, hR, hG, hM, hH, hHh, hho, hh6, hXS, hSl, hXt, hMt, ht80, hk⟩, hP, hD⟩ := hI
  obtain ⟨hx, hb, hml, hown, hts, hX, hbl, hK, hT, hC, hZ, hfl, hL⟩ := id C
  have hA : ∀ q : Nat, s.heap.size ≤ q → (fun q : Nat => s.heap.size ≤ q) q := fun _ h => h
  have hl : lv_has ls 7 [(4, .int (iI (i : Int))), (0, .ref b), (1, .ref (ad 0)), (2, .ref m0), (3, .ref o0)] := hl
  obtain ⟨x0, ex⟩ : ∃ x : Int, (xs ((i : Int) + 1).toNat).toInt = x := ⟨_, rfl⟩
  obtain ⟨y0, ey⟩ : ∃ y : Int, (xs ((i : Int) + 2).toNat).toInt = y := ⟨_, rfl⟩
  obtain ⟨cv, ec⟩ : ∃ cv : Int64, catL x0 y0 = cv := ⟨_, rfl⟩
  refine lv_aload_n hx hb dL_law_1176 rfl (lv_at hl 2 rfl) ?_
  refine z_cat C hS (lv_at hl 1 rfl) (lv_at hl 0 rfl) (by omega) ex ey dL_law_1177 dL_law_1178 dL_law_1180 dL_law_1181 dL_law_1182 dL_law_1183 dL_law_1184 dL_law_1186 dL_law_1187 dL_law_1188 dL_law_1190 dL_law_1191 dL_law_1192 dL_law_1193 dL_law_1194 dL_law_1197 dL_law_1198 ?_
  refine z_topl ec ?_
  refine lv_aload_n hx hb dL_law_1199 rfl (lv_at hl 4 rfl) ?_
  refine z_hSi (n := 3) (As := [.ref (ad 0), .long cv, .ref o0]) (rest := []) ⟨hx, hb, hml, hown, hts⟩ (c_L_appendText l hfl D cy ad tn tf tx cv o0 O ⟨hXt, ht80⟩) gL_law_L_appendText rfl (by decide +kernel) ⟨Nat.le_of_ble_eq_true rfl, Nat.le_of_ble_eq_true rfl⟩ hK hT hC hZ hS (Fp.blocks hP hD hS hA (cs := [wTop ad, wTx cy ad tn tf, wOt cy o0 O]) (nb := fun (u : Int × (Nat → Int32) × (Nat → Int64)) => [wTop ad, wTx cy ad u.1 u.2.1, wOt cy o0 u.2.2]) (nbs := fun (u : Int × (Nat → Int32) × (Nat → Int64)) => LBs cy ad o0 m0 a0 p0 q0 v0 t0 z f zt ft en B Kf nx ct Zh Fh Zs Fs sv u.1 u.2.1 u.2.2 ho th tl G Hh Sl Sv Tx) [0, 16, 17] rfl rfl rfl (fun _ => rfl) (fun _ => rfl) (fun _ => rfl)) rfl hl.1 rfl (Nat.le_of_ble_eq_true rfl) dL_law_1200 ⟨Nat.le_trans (by omega) hro.1, Nat.le_trans (by omega) hro.2⟩ (fun r_1 u_1 H locs hw_1 hP hD hS => ?_)
  obtain ⟨tn_1, tf_1, O_1⟩ := u_1
  have hw_1 : (r_1 = iI 0 ∧ ∃ v : Int32, (∃ n : Nat, 1 ≤ n ∧ cntOk cv n ∧ (tx.length : Int) + n ≤ 80 ∧ v = iI ((tx.length : Int) + n) ∧ Rep tn_1 tf_1 (tx ++ chF cv n)) ∧ O_1 0 = lI v.toInt) ∨ (r_1 = iI 1 ∧ (¬ ∃ n : Nat, 1 ≤ n ∧ cntOk cv n) ∧ tn_1 = tn ∧ tf_1 = tf) ∨ (r_1 = iI 2 ∧ (∃ n : Nat, 1 ≤ n ∧ cntOk cv n ∧ 80 < (tx.length : Int) + n) ∧ tn_1 = tn ∧ tf_1 = tf) := hw_1
  have hP : va_P D vwCl (LBs cy ad o0 m0 a0 p0 q0 v0 t0 z f zt ft en B Kf nx ct Zh Fh Zs Fs sv tn_1 tf_1 O_1 ho th tl G Hh Sl Sv Tx).flatten H := hP
  have hD : va_D (fun q : Nat => s.heap.size ≤ q) (LBs cy ad o0 m0 a0 p0 q0 v0 t0 z f zt ft en B Kf nx ct Zh Fh Zs Fs sv tn_1 tf_1 O_1 ho th tl G Hh Sl Sv Tx).flatten := hD
  refine lv_istore (lv' := [(5, .int r_1), (4, .int (iI (i : Int))), (0, .ref b), (1, .ref (ad 0)), (2, .ref m0), (3, .ref o0)]) hx hb dL_law_1203 hl (by decide) rfl (fun ls hl => ?_)
  refine lv_aload_n hx hb dL_law_1205 rfl (lv_at hl 4 rfl) ?_
  refine z_cat C hS (lv_at hl 2 rfl) (lv_at hl 1 rfl) (by omega) ex ey dL_law_1206 dL_law_1207 dL_law_1209 dL_law_1210 dL_law_1211 dL_law_1212 dL_law_1213 dL_law_1215 dL_law_1216 dL_law_1217 dL_law_1219 dL_law_1220 dL_law_1221 dL_law_1222 dL_law_1223 dL_law_1226 dL_law_1227 ?_
  refine z_topl ec ?_
  refine z_gVi (n := 1) (b := m0) (As := [.long cv]) (rest := []) ⟨hx, hb, hml, hown, hts⟩ (c_X5_appendText l D cy m0 a0 p0 q0 v0 t0 ho th tl Tx tx cv ⟨hMt, ht80⟩) gL_law_X5_appendText rfl (by decide +kernel) ⟨Nat.le_of_ble_eq_true rfl, Nat.le_of_ble_eq_true rfl⟩ hK hT hP hS (Fp.blocks hP hD hS hA (cs := [wMo m0 a0 p0 q0 v0 t0 ho th tl, wMa cy t0 80 Tx]) (nb := fun (u : (Nat → Int32) × Int × Int) => [wMo m0 a0 p0 q0 v0 t0 ho u.2.1 u.2.2, wMa cy t0 80 u.1]) (nbs := fun (u : (Nat → Int32) × Int × Int) => LBs cy ad o0 m0 a0 p0 q0 v0 t0 z f zt ft en B Kf nx ct Zh Fh Zs Fs sv tn_1 tf_1 O_1 ho u.2.1 u.2.2 G Hh Sl Sv u.1) [18, 23] rfl rfl rfl (fun _ => rfl) (fun _ => rfl) (fun _ => rfl)) 81 5 rfl rfl rfl rfl hl.1 rfl (Nat.le_of_ble_eq_true rfl) dL_law_1228 ⟨Nat.le_trans (by omega) hro.1, Nat.le_trans (by omega) hro.2⟩ (fun r_2 u_2 H locs hw_2 hP hD hS => ?_)
  obtain ⟨Tx_2, th_2, tl_2⟩ := u_2
  have hw_2 : (¬ (∃ n : Nat, 1 ≤ n ∧ cntOk cv n) ∧ r_2 = iI 0 ∧ th_2 = 1 ∧ tl_2 = tl ∧ Tx_2 = Tx) ∨ ((∃ n : Nat, 1 ≤ n ∧ cntOk cv n ∧ 80 < (tx.length : Int) + n) ∧ r_2 = iI 0 ∧ th_2 = 2 ∧ tl_2 = tl ∧ Tx_2 = Tx) ∨ ((∃ n : Nat, 1 ≤ n ∧ cntOk cv n ∧ (tx.length : Int) + n ≤ 80 ∧ r_2 = iI ((tx.length : Int) + n) ∧ Rep tl_2 Tx_2 (tx ++ chF cv n)) ∧ th_2 = 0) := hw_2
  have hP : va_P D vwCl (LBs cy ad o0 m0 a0 p0 q0 v0 t0 z f zt ft en B Kf nx ct Zh Fh Zs Fs sv tn_1 tf_1 O_1 ho th_2 tl_2 G Hh Sl Sv Tx_2).flatten H := hP
  have hD : va_D (fun q : Nat => s.heap.size ≤ q) (LBs cy ad o0 m0 a0 p0 q0 v0 t0 z f zt ft en B Kf nx ct Zh Fh Zs Fs sv tn_1 tf_1 O_1 ho th_2 tl_2 G Hh Sl Sv Tx_2).flatten := hD
  have hj : r_1 = iI th_2 ∧ (r_1 = iI 0 → O_1 0 = lI r_2.toInt) ∧ LJ z f Kf nx ct Zh Fh Zs Fs sv tn_1 tf_1 ho tl_2 G Hh Sl Sv Tx_2 := by
    rcases hw_1 with ⟨e1, v, ⟨n, n1, n2, n3, ev, hXt1⟩, eo⟩ | ⟨e1, c1, rfl, rfl⟩ | ⟨e1, ⟨n, n1, n2, n3⟩, rfl, rfl⟩
    · --
      rcases hw_2 with ⟨c2, e2, et, rfl, rfl⟩ | ⟨⟨n9, k1, k2, k3⟩, e2, et, rfl, rfl⟩ | ⟨⟨n9, k1, k2, k3, e2, hMt2⟩, et⟩
      · --
        exact absurd ⟨n, n1, n2⟩ c2
      · --
        have := cnt_uniq n2 k2; omega
      · --
        obtain rfl := cnt_uniq n2 k2
        exact ⟨by rw [e1, et], fun _ => by rw [eo, ev, e2], ⟨M, h, sl, (tx ++ chF cv n), hR, hG, hM, hH, hHh, hho, hh6, hXS, hSl, hXt1, hMt2, (by rw [List.length_append, chF_len]; omega), hk⟩⟩
    · --
      rcases hw_2 with ⟨c2, e2, et, rfl, rfl⟩ | ⟨⟨n9, k1, k2, k3⟩, e2, et, rfl, rfl⟩ | ⟨⟨n9, k1, k2, k3, e2, hMt2⟩, et⟩
      · --
        exact ⟨by rw [e1, et], fun q => absurd (e1.symm.trans q) (by decide), ⟨M, h, sl, tx, hR, hG, hM, hH, hHh, hho, hh6, hXS, hSl, hXt, hMt, ht80, hk⟩⟩
      · --
        exact absurd ⟨n9, k1, k2⟩ c1
      · --
        exact absurd ⟨n9, k1, k2⟩ c1
    · --
      rcases hw_2 with ⟨c2, e2, et, rfl, rfl⟩ | ⟨⟨n9, k1, k2, k3⟩, e2, et, rfl, rfl⟩ | ⟨⟨n9, k1, k2, k3, e2, hMt2⟩, et⟩
      · --
        exact absurd ⟨n, n1, n2⟩ c2
      · --
        exact ⟨by rw [e1, et], fun q => absurd (e1.symm.trans q) (by decide), ⟨M, h, sl, tx, hR, hG, hM, hH, hHh, hho, hh6, hXS, hSl, hXt, hMt, ht80, hk⟩⟩
      · --
        have := cnt_uniq n2 k2; omega
  refine lv_istore (lv' := [(6, .int r_2), (5, .int r_1), (4, .int (iI (i : Int))), (0, .ref b), (1, .ref (ad 0)), (2, .ref m0), (3, .ref o0)]) hx hb dL_law_1231 hl (by decide) rfl (fun ls hl => ?_)
  exact z_tail C (T := 1233) ⟨dL_law_1233, dL_law_1234, dL_law_1237, dL_law_1239, dL_law_1244, dL_law_1246, dL_law_1249, dL_law_1250, dL_law_1251, dL_law_1252, dL_law_1254, dL_law_1255, dL_law_1256, dL_law_1261⟩ (by decide) hP hD hS ⟨Nat.le_trans (by omega) hro.1, Nat.le_trans (by omega) hro.2⟩ hl hj.1 hj.2.1 hj.2.2 (fun H1 locs1 ls1 a1 a2 a3 => W.widen (k := cells + 2) (n := slots + 12) (by omega) (by omega) (kk H1 locs1 ls1 a1 a2 a3))
set_option maxHeartbeats 4000000 in
set_option maxRecDepth 100000 in
theorem k_clearText {p : Program} {l : Launch} {e : Env} {s : State} {m : MethodId} {below : List Frame} {meth : Method} {c : Code} {H : Heap} {locs : List Loc} {cells slots : Nat} {Q : State → Prop} {ls : Array Slot} {D : va_G} {cy : Nat → ClassId} {b L : Nat} {xs : Nat → Int32} {i : Nat} {ad : Nat → Nat} {o0 m0 a0 p0 q0 v0 t0 : Nat} (C : LC p l s m c b L xs D cy) (hi : (i : Int) + 2 < L) (hI : LI D cy ad o0 m0 a0 p0 q0 v0 t0 (fun q : Nat => s.heap.size ≤ q) H) (hS : va_S (fun q : Nat => s.heap.size ≤ q) s.heap H locs) (hro : cells + 2 ≤ 601024 ∧ slots + 12 ≤ 7293034) (hl : lv_has ls 7 (lvL i b (ad 0) m0 o0)) (kk : ∀ (H1 : Heap) (locs1 : List Loc) (ls1 : Array Slot), LI D cy ad o0 m0 a0 p0 q0 v0 t0 (fun q : Nat => s.heap.size ≤ q) H1 → va_S (fun q : Nat => s.heap.size ≤ q) s.heap H1 locs1 → lv_has ls1 7 (lvL i b (ad 0) m0 o0) → W p l e room_1 s m #[.ref b] below meth c H1 locs1 (cells + 2) (slots + 12) Q (F0 m 1472 ls1 [])) : W p l e room_1 s m #[.ref b] below meth c H locs cells slots Q (F0 m 1264 ls []) := by
  obtain ⟨z, f, zt, ft, en, B, Kf, nx, ct, Zh, Fh, Zs, Fs, sv, tn, tf, O, ho, th, tl, G, Hh, Sl, Sv, Tx, ⟨M, h, sl, tx, hR, hG, hM, hH, hHh, hho, hh6, hXS, hSl, hXt, hMt, ht80, hk⟩, hP, hD⟩ := hI
  obtain ⟨hx, hb, hml, hown, hts, hX, hbl, hK, hT, hC, hZ, hfl, hL⟩ := id C
  have hA : ∀ q : Nat, s.heap.size ≤ q → (fun q : Nat => s.heap.size ≤ q) q := fun _ h => h
  have hl : lv_has ls 7 [(4, .int (iI (i : Int))), (0, .ref b), (1, .ref (ad 0)), (2, .ref m0), (3, .ref o0)] := hl
  refine lv_aload_n hx hb dL_law_1264 rfl (lv_at hl 2 rfl) ?_
  refine z_gVi (n := 0) (b := ad 0) (As := []) (rest := []) ⟨hx, hb, hml, hown, hts⟩ (c_X4_clearText l D cy ad tn tf tx ⟨hXt, ht80⟩) gL_law_X4_clearText rfl (by decide +kernel) ⟨Nat.le_of_ble_eq_true rfl, Nat.le_of_ble_eq_true rfl⟩ hK hT hP hS (Fp.blocks hP hD hS hA (cs := [wTop ad, wTx cy ad tn tf]) (nb := fun (u : Unit) => [wTop ad, wTx cy ad (0 : Int) tf]) (nbs := fun (u : Unit) => LBs cy ad o0 m0 a0 p0 q0 v0 t0 z f zt ft en B Kf nx ct Zh Fh Zs Fs sv (0 : Int) tf O ho th tl G Hh Sl Sv Tx) [0, 16] rfl rfl rfl (fun _ => rfl) (fun _ => rfl) (fun _ => rfl)) 0 4 rfl rfl rfl rfl hl.1 rfl (Nat.le_of_ble_eq_true rfl) dL_law_1265 ⟨Nat.le_trans (by omega) hro.1, Nat.le_trans (by omega) hro.2⟩ (fun r_1 u_1 H locs hw_1 hP hD hS => ?_)
  have hw_1 : r_1 = iI (tx.length : Int) := hw_1
  have hP : va_P D vwCl (LBs cy ad o0 m0 a0 p0 q0 v0 t0 z f zt ft en B Kf nx ct Zh Fh Zs Fs sv (0 : Int) tf O ho th tl G Hh Sl Sv Tx).flatten H := hP
  have hD : va_D (fun q : Nat => s.heap.size ≤ q) (LBs cy ad o0 m0 a0 p0 q0 v0 t0 z f zt ft en B Kf nx ct Zh Fh Zs Fs sv (0 : Int) tf O ho th tl G Hh Sl Sv Tx).flatten := hD
  refine lv_aload_n hx hb dL_law_1268 rfl (lv_at hl 3 rfl) ?_
  refine z_gVi (n := 0) (b := m0) (As := []) (rest := [.int r_1]) ⟨hx, hb, hml, hown, hts⟩ (c_X5_clearText l D cy m0 a0 p0 q0 v0 t0 ho th tl) gL_law_X5_clearText rfl (by decide +kernel) ⟨Nat.le_of_ble_eq_true rfl, Nat.le_of_ble_eq_true rfl⟩ hK hT hP hS (Fp.blocks hP hD hS hA (cs := [wMo m0 a0 p0 q0 v0 t0 ho th tl]) (nb := fun (u : Unit) => [wMo m0 a0 p0 q0 v0 t0 ho (0 : Int) (0 : Int)]) (nbs := fun (u : Unit) => LBs cy ad o0 m0 a0 p0 q0 v0 t0 z f zt ft en B Kf nx ct Zh Fh Zs Fs sv (0 : Int) tf O ho (0 : Int) (0 : Int) G Hh Sl Sv Tx) [18] rfl rfl rfl (fun _ => rfl) (fun _ => rfl) (fun _ => rfl)) 81 5 rfl rfl rfl rfl hl.1 rfl (Nat.le_of_ble_eq_true rfl) dL_law_1269 ⟨Nat.le_trans (by omega) hro.1, Nat.le_trans (by omega) hro.2⟩ (fun r_2 u_2 H locs hw_2 hP hD hS => ?_)
  have hw_2 : r_2 = iI tl := hw_2
  have hP : va_P D vwCl (LBs cy ad o0 m0 a0 p0 q0 v0 t0 z f zt ft en B Kf nx ct Zh Fh Zs Fs sv (0 : Int) tf O ho (0 : Int) (0 : Int) G Hh Sl Sv Tx).flatten H := hP
  have hD : va_D (fun q : Nat => s.heap.size ≤ q) (LBs cy ad o0 m0 a0 p0 q0 v0 t0 z f zt ft en B Kf nx ct Zh Fh Zs Fs sv (0 : Int) tf O ho (0 : Int) (0 : Int) G Hh Sl Sv Tx).flatten := hD
  have hj : r_1 = r_2 ∧ LJ z f Kf nx ct Zh Fh Zs Fs sv (0 : Int) tf ho (0 : Int) G Hh Sl Sv Tx := by
    have e1 := hw_1
    have e2 := hw_2
    exact ⟨by rw [e1, e2, hMt.1], ⟨M, h, sl, [], hR, hG, hM, hH, hHh, hho, hh6, hXS, hSl, Rep_no, Rep_no, (by simp), hk⟩⟩
  refine lv_icmp_eq (tgt := 1472) hx hb dL_law_1272 (by decide) (fun _ => ?_) (fun q => absurd hj.1 q)
  exact (fun H1 locs1 ls1 a1 a2 a3 => W.widen (k := cells + 2) (n := slots + 12) (by omega) (by omega) (kk H1 locs1 ls1 a1 a2 a3)) _ _ _ ⟨z, f, zt, ft, en, B, Kf, nx, ct, Zh, Fh, Zs, Fs, sv, (0 : Int), tf, O, ho, (0 : Int), (0 : Int), G, Hh, Sl, Sv, Tx, hj.2, hP, hD⟩ hS hl
set_option maxHeartbeats 4000000 in
set_option maxRecDepth 100000 in
theorem k_textLength {p : Program} {l : Launch} {e : Env} {s : State} {m : MethodId} {below : List Frame} {meth : Method} {c : Code} {H : Heap} {locs : List Loc} {cells slots : Nat} {Q : State → Prop} {ls : Array Slot} {D : va_G} {cy : Nat → ClassId} {b L : Nat} {xs : Nat → Int32} {i : Nat} {ad : Nat → Nat} {o0 m0 a0 p0 q0 v0 t0 : Nat} (C : LC p l s m c b L xs D cy) (hi : (i : Int) + 2 < L) (hI : LI D cy ad o0 m0 a0 p0 q0 v0 t0 (fun q : Nat => s.heap.size ≤ q) H) (hS : va_S (fun q : Nat => s.heap.size ≤ q) s.heap H locs) (hro : cells + 2 ≤ 601024 ∧ slots + 12 ≤ 7293034) (hl : lv_has ls 7 (lvL i b (ad 0) m0 o0)) (kk : ∀ (H1 : Heap) (locs1 : List Loc) (ls1 : Array Slot), LI D cy ad o0 m0 a0 p0 q0 v0 t0 (fun q : Nat => s.heap.size ≤ q) H1 → va_S (fun q : Nat => s.heap.size ≤ q) s.heap H1 locs1 → lv_has ls1 7 (lvL i b (ad 0) m0 o0) → W p l e room_1 s m #[.ref b] below meth c H1 locs1 (cells + 2) (slots + 12) Q (F0 m 1472 ls1 [])) : W p l e room_1 s m #[.ref b] below meth c H locs cells slots Q (F0 m 1277 ls []) := by
  obtain ⟨z, f, zt, ft, en, B, Kf, nx, ct, Zh, Fh, Zs, Fs, sv, tn, tf, O, ho, th, tl, G, Hh, Sl, Sv, Tx, ⟨M, h, sl, tx, hR, hG, hM, hH, hHh, hho, hh6, hXS, hSl, hXt, hMt, ht80, hk⟩, hP, hD⟩ := hI
  obtain ⟨hx, hb, hml, hown, hts, hX, hbl, hK, hT, hC, hZ, hfl, hL⟩ := id C
  have hA : ∀ q : Nat, s.heap.size ≤ q → (fun q : Nat => s.heap.size ≤ q) q := fun _ h => h
  have hl : lv_has ls 7 [(4, .int (iI (i : Int))), (0, .ref b), (1, .ref (ad 0)), (2, .ref m0), (3, .ref o0)] := hl
  refine lv_aload_n hx hb dL_law_1277 rfl (lv_at hl 2 rfl) ?_
  refine z_gVi (n := 0) (b := ad 0) (As := []) (rest := []) ⟨hx, hb, hml, hown, hts⟩ (c_X4_textLength l D cy ad tn tf tx ⟨hXt, ht80⟩) gL_law_X4_textLength rfl (by decide +kernel) ⟨Nat.le_of_ble_eq_true rfl, Nat.le_of_ble_eq_true rfl⟩ hK hT hP hS (Fp.same hP hD hS hA [0, 78, 79] rfl rfl (fun _ => rfl)) 0 4 rfl rfl rfl rfl hl.1 rfl (Nat.le_of_ble_eq_true rfl) dL_law_1278 ⟨Nat.le_trans (by omega) hro.1, Nat.le_trans (by omega) hro.2⟩ (fun r_1 u_1 H locs hw_1 hP hD hS => ?_)
  have hw_1 : r_1 = iI (tx.length : Int) := hw_1
  have hP : va_P D vwCl (LBs cy ad o0 m0 a0 p0 q0 v0 t0 z f zt ft en B Kf nx ct Zh Fh Zs Fs sv tn tf O ho th tl G Hh Sl Sv Tx).flatten H := hP
  have hD : va_D (fun q : Nat => s.heap.size ≤ q) (LBs cy ad o0 m0 a0 p0 q0 v0 t0 z f zt ft en B Kf nx ct Zh Fh Zs Fs sv tn tf O ho th tl G Hh Sl Sv Tx).flatten := hD
  refine lv_aload_n hx hb dL_law_1281 rfl (lv_at hl 3 rfl) ?_
  refine z_gVi (n := 0) (b := m0) (As := []) (rest := [.int r_1]) ⟨hx, hb, hml, hown, hts⟩ (c_X5_textLength l D cy m0 a0 p0 q0 v0 t0 ho th tl) gL_law_X5_textLength rfl (by decide +kernel) ⟨Nat.le_of_ble_eq_true rfl, Nat.le_of_ble_eq_true rfl⟩ hK hT hP hS (Fp.blocks hP hD hS hA (cs := [wMo m0 a0 p0 q0 v0 t0 ho th tl]) (nb := fun (u : Unit) => [wMo m0 a0 p0 q0 v0 t0 ho (0 : Int) tl]) (nbs := fun (u : Unit) => LBs cy ad o0 m0 a0 p0 q0 v0 t0 z f zt ft en B Kf nx ct Zh Fh Zs Fs sv tn tf O ho (0 : Int) tl G Hh Sl Sv Tx) [18] rfl rfl rfl (fun _ => rfl) (fun _ => rfl) (fun _ => rfl)) 81 5 rfl rfl rfl rfl hl.1 rfl (Nat.le_of_ble_eq_true rfl) dL_law_1282 ⟨Nat.le_trans (by omega) hro.1, Nat.le_trans (by omega) hro.2⟩ (fun r_2 u_2 H locs hw_2 hP hD hS => ?_)
  have hw_2 : r_2 = iI tl := hw_2
  have hP : va_P D vwCl (LBs cy ad o0 m0 a0 p0 q0 v0 t0 z f zt ft en B Kf nx ct Zh Fh Zs Fs sv tn tf O ho (0 : Int) tl G Hh Sl Sv Tx).flatten H := hP
  have hD : va_D (fun q : Nat => s.heap.size ≤ q) (LBs cy ad o0 m0 a0 p0 q0 v0 t0 z f zt ft en B Kf nx ct Zh Fh Zs Fs sv tn tf O ho (0 : Int) tl G Hh Sl Sv Tx).flatten := hD
  have hj : r_1 = r_2 ∧ LJ z f Kf nx ct Zh Fh Zs Fs sv tn tf ho tl G Hh Sl Sv Tx := by
    have e1 := hw_1
    have e2 := hw_2
    exact ⟨by rw [e1, e2, hMt.1], ⟨M, h, sl, tx, hR, hG, hM, hH, hHh, hho, hh6, hXS, hSl, hXt, hMt, ht80, hk⟩⟩
  refine lv_icmp_eq (tgt := 1472) hx hb dL_law_1285 (by decide) (fun _ => ?_) (fun q => absurd hj.1 q)
  exact (fun H1 locs1 ls1 a1 a2 a3 => W.widen (k := cells + 2) (n := slots + 12) (by omega) (by omega) (kk H1 locs1 ls1 a1 a2 a3)) _ _ _ ⟨z, f, zt, ft, en, B, Kf, nx, ct, Zh, Fh, Zs, Fs, sv, tn, tf, O, ho, (0 : Int), tl, G, Hh, Sl, Sv, Tx, hj.2, hP, hD⟩ hS hl
