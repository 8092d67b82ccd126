/-! a searcher's whole world, and what the calls do to the value that it holds -/
abbrev XU : Type := (Nat → Int) × (Nat → Nat → Int32) × (Nat → Int) × (Nat → Nat → Int32) × Int × (Nat → Int) × (Nat → Int) × Int × Int × (Nat → Nat → Int) × (Nat → Nat → Nat → Int32) × (Nat → Nat → Int) × (Nat → Nat → Nat → Int32) × (Nat → Int32) × Int × (Nat → Int32)
def bX (cy : Nat → ClassId) (ad : Nat → Nat) (u : XU) : List va_W := [wTop ad, wSt cy ad 1 u.1 u.2.1, wSt cy ad 8 u.2.2.1 u.2.2.2.1, wEn cy ad u.2.2.2.2.1 u.2.2.2.2.2.1 u.2.2.2.2.2.2.1, wHb ad u.2.2.2.2.2.2.2.2.1, wKb cy ad u.2.2.2.2.2.2.2.1, wSt cy ad 20 (u.2.2.2.2.2.2.2.2.2.1 0) (u.2.2.2.2.2.2.2.2.2.2.1 0), wSt cy ad 27 (u.2.2.2.2.2.2.2.2.2.1 1) (u.2.2.2.2.2.2.2.2.2.2.1 1), wSt cy ad 34 (u.2.2.2.2.2.2.2.2.2.1 2) (u.2.2.2.2.2.2.2.2.2.2.1 2), wSt cy ad 41 (u.2.2.2.2.2.2.2.2.2.1 3) (u.2.2.2.2.2.2.2.2.2.2.1 3), wSt cy ad 48 (u.2.2.2.2.2.2.2.2.2.1 4) (u.2.2.2.2.2.2.2.2.2.2.1 4), wSt cy ad 55 (u.2.2.2.2.2.2.2.2.2.1 5) (u.2.2.2.2.2.2.2.2.2.2.1 5), wSa cy ad, wSt cy ad 63 (u.2.2.2.2.2.2.2.2.2.2.2.1 0) (u.2.2.2.2.2.2.2.2.2.2.2.2.1 0), wSt cy ad 70 (u.2.2.2.2.2.2.2.2.2.2.2.1 1) (u.2.2.2.2.2.2.2.2.2.2.2.2.1 1), wSv cy ad u.2.2.2.2.2.2.2.2.2.2.2.2.2.1, wTx cy ad u.2.2.2.2.2.2.2.2.2.2.2.2.2.2.1 u.2.2.2.2.2.2.2.2.2.2.2.2.2.2.2]
/-- the world holds the value S: state, recorded states, slots, text -/
def Jx (u : XU) (S : SS) : Prop := RS u.1 u.2.1 S.1 ∧ MOk S.1 ∧ RXH u.2.2.2.2.2.2.2.1 u.2.2.2.2.2.2.2.2.1 u.2.2.2.2.2.2.2.2.2.1 u.2.2.2.2.2.2.2.2.2.2.1 S.2.1 ∧ S.2.1.length ≤ 6 ∧ RXS u.2.2.2.2.2.2.2.2.2.2.2.2.2.1 u.2.2.2.2.2.2.2.2.2.2.2.1 u.2.2.2.2.2.2.2.2.2.2.2.2.1 S.2.2.1 ∧ Rep u.2.2.2.2.2.2.2.2.2.2.2.2.2.2.1 u.2.2.2.2.2.2.2.2.2.2.2.2.2.2.2 S.2.2.2 ∧ S.2.2.2.length ≤ 80 ∧ ∀ j : Nat, 0 ≤ u.2.2.2.2.2.2.1 j ∧ u.2.2.2.2.2.2.1 j ≤ 17
theorem push_le {h : List MS} {M : MS} (h6 : h.length ≤ 6) : (pushH h M).length ≤ 6 := by
  have := push_len (M := M) h6
  omega
theorem MOk.rules {M : MS} (h : MOk M) {x y : Int} (hx : 0 ≤ x ∧ x ≤ 1 ∧ 0 ≤ y ∧ y ≤ 1) : MOk (mRules M x y) := by
  obtain ⟨line, word, found, lr, er, pl, lk, cp⟩ := M
  obtain ⟨h1, h2, _, _, _, _, _, _, _, _, h11, h12, h13, h14, _⟩ := h
  exact ⟨h1, h2, Int.le_refl _, Nat.zero_le _, Int.le_refl _, by show (0 : Int) ≤ 100; omega, Int.le_refl _, Int.le_refl _, Int.le_refl _, by show (0 : Int) ≤ 16 * 0; omega, hx.1, hx.2.1, hx.2.2.1, hx.2.2.2, fun _ => ⟨rfl, rfl⟩⟩
theorem MOk.set {M : MS} (h : MOk M) {k : Nat} {v : Int32} : MOk (mSet M k v) := by
  obtain ⟨line, word, found, lr, er, pl, lk, cp⟩ := M
  obtain ⟨h1, h2, _, _, _, _, _, _, _, _, h11, h12, h13, h14, _⟩ := h
  exact ⟨(by show (line.set k v).length ≤ 60; rw [List.length_set]; exact h1), h2, Int.le_refl _, Nat.zero_le _, Int.le_refl _, by show (0 : Int) ≤ 100; omega, Int.le_refl _, Int.le_refl _, Int.le_refl _, by show (0 : Int) ≤ 16 * 0; omega, h11, h12, h13, h14, fun _ => ⟨rfl, rfl⟩⟩
theorem MOk.takeL {M : MS} (h : MOk M) {tx : List Int32} (ht : (tx.length : Int) ≤ 60) : MOk (mTakeL M tx) := by
  obtain ⟨line, word, found, lr, er, pl, lk, cp⟩ := M
  obtain ⟨h1, h2, _, _, _, _, _, _, _, _, h11, h12, h13, h14, _⟩ := h
  exact ⟨(by show (tx.map (fun x => x - iI 97)).length ≤ 60; rw [List.length_map]; omega), h2, Int.le_refl _, Nat.zero_le _, Int.le_refl _, by show (0 : Int) ≤ 100; omega, Int.le_refl _, Int.le_refl _, Int.le_refl _, by show (0 : Int) ≤ 16 * 0; omega, h11, h12, h13, h14, fun _ => ⟨rfl, rfl⟩⟩
theorem MOk.takeW {M : MS} (h : MOk M) {tx : List Int32} (ht : (tx.length : Int) ≤ 16) : MOk (mTakeW M tx) := by
  obtain ⟨line, word, found, lr, er, pl, lk, cp⟩ := M
  obtain ⟨h1, h2, _, _, _, _, _, _, _, _, h11, h12, h13, h14, _⟩ := h
  exact ⟨h1, (by show (tx.map (fun x => x - iI 97)).length ≤ 16; rw [List.length_map]; omega), Int.le_refl _, Nat.zero_le _, Int.le_refl _, by show (0 : Int) ≤ 100; omega, Int.le_refl _, Int.le_refl _, Int.le_refl _, by show (0 : Int) ≤ 16 * 0; omega, h11, h12, h13, h14, fun _ => ⟨rfl, rfl⟩⟩
theorem MOk.run {M : MS} (h : MOk M) : MOk (mOf M (mRun M).1) := mRun_ok h 60 (mT M) h
theorem Rep_no {f : Nat → Int32} : Rep 0 f [] := ⟨rfl, fun j hj => absurd hj (Nat.not_lt_zero j)⟩
theorem RXS_ok {sv : Nat → Int32} {Zs : Nat → Nat → Int} {Fs : Nat → Nat → Nat → Int32} {sl : Nat → Option MS} (h : RXS sv Zs Fs sl) {i : Nat} (hi : i < 2) {M : MS} (hM : sl i = some M) : MOk M := by
  rcases h i hi with ⟨_, q⟩ | ⟨_, M2, q, _, ok⟩
  · exact absurd (hM.symm.trans q) (by simp)
  · rw [Option.some.inj (hM.symm.trans q)]; exact ok
/-- a letter alone, as characters to be appended -/
theorem one_ok {c : Int} (h : 97 ≤ c ∧ c ≤ 122) : cntOk (lI c) 1 ∧ chF (lI c) 1 = [iI c] := by
  have hb : (bF (lI c) 0 : Int) = c ∧ ∀ k : Nat, k < 8 → 1 ≤ k → bF (lI c) k = 0 := by
    rcases (show c = 97 ∨ c = 98 ∨ c = 99 ∨ c = 100 ∨ c = 101 ∨ c = 102 ∨ c = 103 ∨ c = 104 ∨ c = 105 ∨ c = 106 ∨ c = 107 ∨ c = 108 ∨ c = 109 ∨ c = 110 ∨ c = 111 ∨ c = 112 ∨ c = 113 ∨ c = 114 ∨ c = 115 ∨ c = 116 ∨ c = 117 ∨ c = 118 ∨ c = 119 ∨ c = 120 ∨ c = 121 ∨ c = 122 by omega) with rfl | rfl | rfl | rfl | rfl | rfl | rfl | rfl | rfl | rfl | rfl | rfl | rfl | rfl | rfl | rfl | rfl | rfl | rfl | rfl | rfl | rfl | rfl | rfl | rfl | rfl <;> decide +kernel
  obtain ⟨h0, h1⟩ := hb
  refine ⟨⟨by omega, fun k hk => ?_, fun k a b => h1 k b a⟩, ?_⟩
  · obtain rfl : k = 0 := by omega
    omega
  · show [iI (bF (lI c) 0 : Int)] = [iI c]
    rw [h0]
/-! a contract over a larger world in blocks -/
theorem bfree {bs cs : List va_W} {is : List Nat} {sz : Nat} (hC : Bof bs is cs) : ∀ q, va_A cs.flatten sz q → va_A bs.flatten sz q := by
  rintro q (⟨k, e, hk⟩ | hq)
  · obtain ⟨c, hc1, hqc⟩ := List.mem_flatten.mp (List.mem_of_getElem? hk)
    obtain ⟨i, _, hi⟩ := hC.mem hc1
    obtain ⟨k2, e2⟩ := List.mem_iff_getElem?.mp (List.mem_flatten.mpr ⟨c, List.mem_of_getElem? hi, hqc⟩)
    exact Or.inl ⟨k2, e, e2⟩
  · exact Or.inr hq
theorem Ci.bframe {l : Launch} {D : va_G} {cy : Nat → ClassId} {y : MethodName} {ws : List Cond} {fr lo : Nat} {av : List Value} {w : va_W} {S S2 : Type} {post : Int32 → S → Prop} {w' : S → va_W} {post2 : Int32 → S2 → Prop} {bs cs : List va_W} {nb : S → List va_W} {b2 : S2 → List va_W} (hM : Ci l D cy y ws fr lo av w post w') (is : List Nat) (hC : Bof bs is cs) (hnd : va_nd is = true) (hw : cs.flatten = w) (hN : ∀ u, (nb u).flatten = w' u) (hL : ∀ u, (nb u).map (List.map Prod.fst) = cs.map (List.map Prod.fst))
    (himp : ∀ r u, post r u → ∃ u2, post2 r u2 ∧ bset bs is (nb u) = b2 u2) : Ci l D cy y ws fr lo av bs.flatten post2 (fun u2 => (b2 u2).flatten) := by
  subst hw
  intro sz p e ha hc hk s m args below hf happ hpre hT
  obtain ⟨q0, q1, qP, qK, qD, qT⟩ := hpre
  obtain ⟨r1, r2⟩ := hC.sub hnd qP qD
  obtain ⟨n, o, h1, h2, h3, ⟨⟨r, u, ho, hp, hB⟩, hF⟩, L, hfe, hL2⟩ := hM sz p e ha hc hk s m args below hf happ ⟨q0, q1, r1, qK, r2, qT⟩ hT
  have hfree := bfree (sz := sz) hC
  have hkk : ∀ q : Nat, q < s.heap.size → ¬ va_A cs.flatten s.heap.size q → (stepsAlone p.tables e n s).heap[q]? = s.heap[q]? := by rw [q1]; exact fun q z1 z2 => hF.2 q (by rw [q1]; exact z1) z2
  have hB2 : va_P D vwCl (nb u).flatten (stepsAlone p.tables e n s).heap := by rw [hN u]; exact hB
  have hj := (hC.join (A0 := fun _ => True) qP qD (hL u) hkk hB2).1
  obtain ⟨u2, hp2, hw2⟩ := himp r u hp
  exact ⟨n, o, h1, h2, h3, ⟨⟨r, u2, ho, hp2, by show va_P D vwCl (b2 u2).flatten _; rw [← hw2]; exact hj⟩, hF.1, fun q z1 z2 => hF.2 q z1 (fun z => z2 (hfree q z))⟩, L, hfe, fun q hq => hfree _ (hL2 q hq)⟩
theorem Ni.bframe {l : Launch} {D : va_G} {cy : Nat → ClassId} {y : MethodName} {ws : List Cond} {fr lo k : Nat} {av : List Value} {w : va_W} {S S2 : Type} {post : Int32 → S → Prop} {w' : S → va_W} {post2 : Int32 → S2 → Prop} {bs cs : List va_W} {nb : S → List va_W} {b2 : S2 → List va_W} (hM : Ni l D cy y ws fr lo k av w post w') (is : List Nat) (hC : Bof bs is cs) (hnd : va_nd is = true) (hw : cs.flatten = w) (hN : ∀ u, (nb u).flatten = w' u) (hL : ∀ u, (nb u).map (List.map Prod.fst) = cs.map (List.map Prod.fst))
    (himp : ∀ r u, post r u → ∃ u2, post2 r u2 ∧ bset bs is (nb u) = b2 u2) : Ni l D cy y ws fr lo k av bs.flatten post2 (fun u2 => (b2 u2).flatten) := by
  subst hw
  intro sz p e ha hc hk s m args below hf happ hpre hT
  obtain ⟨q0, q1, qP, qK, qD, qT, qC, qZ⟩ := hpre
  obtain ⟨r1, r2⟩ := hC.sub hnd qP qD
  have hfree := bfree (sz := sz) hC
  obtain ⟨n, o, h1, h2, h3, ⟨⟨r, u, ho, hp, hB⟩, hF⟩, L, hfe, hL2⟩ := hM sz p e ha hc hk s m args below hf happ ⟨q0, q1, r1, qK, r2, qT, qC, qZ.narrow hfree⟩ hT
  have hkk : ∀ q : Nat, q < s.heap.size → ¬ va_A cs.flatten s.heap.size q → (stepsAlone p.tables e n s).heap[q]? = s.heap[q]? := by rw [q1]; exact fun q z1 z2 => hF.2 q (by rw [q1]; exact z1) z2
  have hB2 : va_P D vwCl (nb u).flatten (stepsAlone p.tables e n s).heap := by rw [hN u]; exact hB
  have hj := (hC.join (A0 := fun _ => True) qP qD (hL u) hkk hB2).1
  obtain ⟨u2, hp2, hw2⟩ := himp r u hp
  exact ⟨n, o, h1, h2, h3, ⟨⟨r, u2, ho, hp2, by show va_P D vwCl (b2 u2).flatten _; rw [← hw2]; exact hj⟩, hF.1, fun q z1 z2 => hF.2 q z1 (fun z => z2 (hfree q z))⟩, L, hfe, fun q hq => hfree _ (hL2 q hq)⟩
/-- a call on a searcher that holds S: it answers v, and holds S' -/
def XCi (l : Launch) (D : va_G) (cy : Nat → ClassId) (ad : Nat → Nat) (y : MethodName) (ws : List Cond) (fr lo : Nat) (As : List Value) (S : SS) (v : Int32) (S' : SS) : Prop :=
  ∀ u : XU, Jx u S → Ci l D cy y ws fr lo (.ref (ad 0) :: As) (bX cy ad u).flatten (fun (r : Int32) (u' : XU) => r = v ∧ Jx u' S') (fun u' => (bX cy ad u').flatten)
def XNi (l : Launch) (D : va_G) (cy : Nat → ClassId) (ad : Nat → Nat) (y : MethodName) (ws : List Cond) (fr lo k : Nat) (As : List Value) (S : SS) (v : Int32) (S' : SS) : Prop :=
  ∀ u : XU, Jx u S → Ni l D cy y ws fr lo k (.ref (ad 0) :: As) (bX cy ad u).flatten (fun (r : Int32) (u' : XU) => r = v ∧ Jx u' S') (fun u' => (bX cy ad u').flatten)
set_option maxHeartbeats 4000000 in
set_option maxRecDepth 100000 in
theorem x_lineLength (l : Launch) (D : va_G) (cy : Nat → ClassId) (ad : Nat → Nat) (M : MS) (h : List MS) (sl : Nat → Option MS) (tx : List Int32)   : XCi l D cy ad yX4_lineLength wsX4_lineLength 1 20 [] (M, h, sl, tx) (iI (M.1.length : Int)) (M, h, sl, tx) := by
  intro u J
  obtain ⟨z, f, zt, ft, en, B, Kf, nx, ct, Zh, Fh, Zs, Fs, sv, tn, tf⟩ := u
  obtain ⟨hR, hM, hH, hh6, hXS, hXt, ht80, hk⟩ := J
  dsimp only at hR hM hH hh6 hXS hXt ht80 hk
  refine Ci.bframe (c_X4_lineLength l D cy ad z f M (hR) (hM)) (bs := [wTop ad, wSt cy ad 1 z f, wSt cy ad 8 zt ft, wEn cy ad en B Kf, wHb ad ct, wKb cy ad nx, wSt cy ad 20 (Zh 0) (Fh 0), wSt cy ad 27 (Zh 1) (Fh 1), wSt cy ad 34 (Zh 2) (Fh 2), wSt cy ad 41 (Zh 3) (Fh 3), wSt cy ad 48 (Zh 4) (Fh 4), wSt cy ad 55 (Zh 5) (Fh 5), wSa cy ad, wSt cy ad 63 (Zs 0) (Fs 0), wSt cy ad 70 (Zs 1) (Fs 1), wSv cy ad sv, wTx cy ad tn tf]) (cs := [wTop ad, wSt cy ad 1 z f]) (nb := fun (u : Unit) => [wTop ad, wSt cy ad 1 z f]) (b2 := fun u => bX cy ad u) [0, 1] rfl rfl rfl (fun _ => rfl) (fun _ => rfl) (fun r u hp => ?_)
  exact ⟨(z, f, zt, ft, en, B, Kf, nx, ct, Zh, Fh, Zs, Fs, sv, tn, tf), ⟨hp, hR, hM, hH, hh6, hXS, hXt, ht80, hk⟩, rfl⟩
set_option maxHeartbeats 4000000 in
set_option maxRecDepth 100000 in
theorem x_wordLength (l : Launch) (D : va_G) (cy : Nat → ClassId) (ad : Nat → Nat) (M : MS) (h : List MS) (sl : Nat → Option MS) (tx : List Int32)   : XCi l D cy ad yX4_wordLength wsX4_wordLength 1 20 [] (M, h, sl, tx) (iI (M.2.1.length : Int)) (M, h, sl, tx) := by
  intro u J
  obtain ⟨z, f, zt, ft, en, B, Kf, nx, ct, Zh, Fh, Zs, Fs, sv, tn, tf⟩ := u
  obtain ⟨hR, hM, hH, hh6, hXS, hXt, ht80, hk⟩ := J
  dsimp only at hR hM hH hh6 hXS hXt ht80 hk
  refine Ci.bframe (c_X4_wordLength l D cy ad z f M (hR) (hM)) (bs := [wTop ad, wSt cy ad 1 z f, wSt cy ad 8 zt ft, wEn cy ad en B Kf, wHb ad ct, wKb cy ad nx, wSt cy ad 20 (Zh 0) (Fh 0), wSt cy ad 27 (Zh 1) (Fh 1), wSt cy ad 34 (Zh 2) (Fh 2), wSt cy ad 41 (Zh 3) (Fh 3), wSt cy ad 48 (Zh 4) (Fh 4), wSt cy ad 55 (Zh 5) (Fh 5), wSa cy ad, wSt cy ad 63 (Zs 0) (Fs 0), wSt cy ad 70 (Zs 1) (Fs 1), wSv cy ad sv, wTx cy ad tn tf]) (cs := [wTop ad, wSt cy ad 1 z f]) (nb := fun (u : Unit) => [wTop ad, wSt cy ad 1 z f]) (b2 := fun u => bX cy ad u) [0, 1] rfl rfl rfl (fun _ => rfl) (fun _ => rfl) (fun r u hp => ?_)
  exact ⟨(z, f, zt, ft, en, B, Kf, nx, ct, Zh, Fh, Zs, Fs, sv, tn, tf), ⟨hp, hR, hM, hH, hh6, hXS, hXt, ht80, hk⟩, rfl⟩
set_option maxHeartbeats 4000000 in
set_option maxRecDepth 100000 in
theorem x_foundCount (l : Launch) (D : va_G) (cy : Nat → ClassId) (ad : Nat → Nat) (M : MS) (h : List MS) (sl : Nat → Option MS) (tx : List Int32)   : XCi l D cy ad yX4_foundCount wsX4_foundCount 1 20 [] (M, h, sl, tx) (iI (M.2.2.1.length : Int)) (M, h, sl, tx) := by
  intro u J
  obtain ⟨z, f, zt, ft, en, B, Kf, nx, ct, Zh, Fh, Zs, Fs, sv, tn, tf⟩ := u
  obtain ⟨hR, hM, hH, hh6, hXS, hXt, ht80, hk⟩ := J
  dsimp only at hR hM hH hh6 hXS hXt ht80 hk
  refine Ci.bframe (c_X4_foundCount l D cy ad z f M (hR) (hM)) (bs := [wTop ad, wSt cy ad 1 z f, wSt cy ad 8 zt ft, wEn cy ad en B Kf, wHb ad ct, wKb cy ad nx, wSt cy ad 20 (Zh 0) (Fh 0), wSt cy ad 27 (Zh 1) (Fh 1), wSt cy ad 34 (Zh 2) (Fh 2), wSt cy ad 41 (Zh 3) (Fh 3), wSt cy ad 48 (Zh 4) (Fh 4), wSt cy ad 55 (Zh 5) (Fh 5), wSa cy ad, wSt cy ad 63 (Zs 0) (Fs 0), wSt cy ad 70 (Zs 1) (Fs 1), wSv cy ad sv, wTx cy ad tn tf]) (cs := [wTop ad, wSt cy ad 1 z f]) (nb := fun (u : Unit) => [wTop ad, wSt cy ad 1 z f]) (b2 := fun u => bX cy ad u) [0, 1] rfl rfl rfl (fun _ => rfl) (fun _ => rfl) (fun r u hp => ?_)
  exact ⟨(z, f, zt, ft, en, B, Kf, nx, ct, Zh, Fh, Zs, Fs, sv, tn, tf), ⟨hp, hR, hM, hH, hh6, hXS, hXt, ht80, hk⟩, rfl⟩
set_option maxHeartbeats 4000000 in
set_option maxRecDepth 100000 in
theorem x_place (l : Launch) (D : va_G) (cy : Nat → ClassId) (ad : Nat → Nat) (M : MS) (h : List MS) (sl : Nat → Option MS) (tx : List Int32)   : XCi l D cy ad yX4_place wsX4_place 0 0 [] (M, h, sl, tx) (iI M.2.2.2.2.2.1) (M, h, sl, tx) := by
  intro u J
  obtain ⟨z, f, zt, ft, en, B, Kf, nx, ct, Zh, Fh, Zs, Fs, sv, tn, tf⟩ := u
  obtain ⟨hR, hM, hH, hh6, hXS, hXt, ht80, hk⟩ := J
  dsimp only at hR hM hH hh6 hXS hXt ht80 hk
  refine Ci.bframe (c_X4_place l D cy ad z f M (hR) (hM)) (bs := [wTop ad, wSt cy ad 1 z f, wSt cy ad 8 zt ft, wEn cy ad en B Kf, wHb ad ct, wKb cy ad nx, wSt cy ad 20 (Zh 0) (Fh 0), wSt cy ad 27 (Zh 1) (Fh 1), wSt cy ad 34 (Zh 2) (Fh 2), wSt cy ad 41 (Zh 3) (Fh 3), wSt cy ad 48 (Zh 4) (Fh 4), wSt cy ad 55 (Zh 5) (Fh 5), wSa cy ad, wSt cy ad 63 (Zs 0) (Fs 0), wSt cy ad 70 (Zs 1) (Fs 1), wSv cy ad sv, wTx cy ad tn tf]) (cs := [wTop ad, wSt cy ad 1 z f]) (nb := fun (u : Unit) => [wTop ad, wSt cy ad 1 z f]) (b2 := fun u => bX cy ad u) [0, 1] rfl rfl rfl (fun _ => rfl) (fun _ => rfl) (fun r u hp => ?_)
  exact ⟨(z, f, zt, ft, en, B, Kf, nx, ct, Zh, Fh, Zs, Fs, sv, tn, tf), ⟨hp, hR, hM, hH, hh6, hXS, hXt, ht80, hk⟩, rfl⟩
set_option maxHeartbeats 4000000 in
set_option maxRecDepth 100000 in
theorem x_lookCount (l : Launch) (D : va_G) (cy : Nat → ClassId) (ad : Nat → Nat) (M : MS) (h : List MS) (sl : Nat → Option MS) (tx : List Int32)   : XCi l D cy ad yX4_lookCount wsX4_lookCount 0 0 [] (M, h, sl, tx) (iI M.2.2.2.2.2.2.1) (M, h, sl, tx) := by
  intro u J
  obtain ⟨z, f, zt, ft, en, B, Kf, nx, ct, Zh, Fh, Zs, Fs, sv, tn, tf⟩ := u
  obtain ⟨hR, hM, hH, hh6, hXS, hXt, ht80, hk⟩ := J
  dsimp only at hR hM hH hh6 hXS hXt ht80 hk
  refine Ci.bframe (c_X4_lookCount l D cy ad z f M (hR) (hM)) (bs := [wTop ad, wSt cy ad 1 z f, wSt cy ad 8 zt ft, wEn cy ad en B Kf, wHb ad ct, wKb cy ad nx, wSt cy ad 20 (Zh 0) (Fh 0), wSt cy ad 27 (Zh 1) (Fh 1), wSt cy ad 34 (Zh 2) (Fh 2), wSt cy ad 41 (Zh 3) (Fh 3), wSt cy ad 48 (Zh 4) (Fh 4), wSt cy ad 55 (Zh 5) (Fh 5), wSa cy ad, wSt cy ad 63 (Zs 0) (Fs 0), wSt cy ad 70 (Zs 1) (Fs 1), wSv cy ad sv, wTx cy ad tn tf]) (cs := [wTop ad, wSt cy ad 1 z f]) (nb := fun (u : Unit) => [wTop ad, wSt cy ad 1 z f]) (b2 := fun u => bX cy ad u) [0, 1] rfl rfl rfl (fun _ => rfl) (fun _ => rfl) (fun r u hp => ?_)
  exact ⟨(z, f, zt, ft, en, B, Kf, nx, ct, Zh, Fh, Zs, Fs, sv, tn, tf), ⟨hp, hR, hM, hH, hh6, hXS, hXt, ht80, hk⟩, rfl⟩
set_option maxHeartbeats 4000000 in
set_option maxRecDepth 100000 in
theorem x_comparedCount (l : Launch) (D : va_G) (cy : Nat → ClassId) (ad : Nat → Nat) (M : MS) (h : List MS) (sl : Nat → Option MS) (tx : List Int32)   : XCi l D cy ad yX4_comparedCount wsX4_comparedCount 0 0 [] (M, h, sl, tx) (iI M.2.2.2.2.2.2.2) (M, h, sl, tx) := by
  intro u J
  obtain ⟨z, f, zt, ft, en, B, Kf, nx, ct, Zh, Fh, Zs, Fs, sv, tn, tf⟩ := u
  obtain ⟨hR, hM, hH, hh6, hXS, hXt, ht80, hk⟩ := J
  dsimp only at hR hM hH hh6 hXS hXt ht80 hk
  refine Ci.bframe (c_X4_comparedCount l D cy ad z f M (hR) (hM)) (bs := [wTop ad, wSt cy ad 1 z f, wSt cy ad 8 zt ft, wEn cy ad en B Kf, wHb ad ct, wKb cy ad nx, wSt cy ad 20 (Zh 0) (Fh 0), wSt cy ad 27 (Zh 1) (Fh 1), wSt cy ad 34 (Zh 2) (Fh 2), wSt cy ad 41 (Zh 3) (Fh 3), wSt cy ad 48 (Zh 4) (Fh 4), wSt cy ad 55 (Zh 5) (Fh 5), wSa cy ad, wSt cy ad 63 (Zs 0) (Fs 0), wSt cy ad 70 (Zs 1) (Fs 1), wSv cy ad sv, wTx cy ad tn tf]) (cs := [wTop ad, wSt cy ad 1 z f]) (nb := fun (u : Unit) => [wTop ad, wSt cy ad 1 z f]) (b2 := fun u => bX cy ad u) [0, 1] rfl rfl rfl (fun _ => rfl) (fun _ => rfl) (fun r u hp => ?_)
  exact ⟨(z, f, zt, ft, en, B, Kf, nx, ct, Zh, Fh, Zs, Fs, sv, tn, tf), ⟨hp, hR, hM, hH, hh6, hXS, hXt, ht80, hk⟩, rfl⟩
set_option maxHeartbeats 4000000 in
set_option maxRecDepth 100000 in
theorem x_skippedPlaces (l : Launch) (D : va_G) (cy : Nat → ClassId) (ad : Nat → Nat) (M : MS) (h : List MS) (sl : Nat → Option MS) (tx : List Int32)   : XCi l D cy ad yX4_skippedPlaces wsX4_skippedPlaces 2 41 [] (M, h, sl, tx) (iI (min M.2.2.2.2.2.1 (max ((M.1.length : Int) - (M.2.1.length : Int) + 1) 0) - M.2.2.2.2.2.2.1)) (M, h, sl, tx) := by
  intro u J
  obtain ⟨z, f, zt, ft, en, B, Kf, nx, ct, Zh, Fh, Zs, Fs, sv, tn, tf⟩ := u
  obtain ⟨hR, hM, hH, hh6, hXS, hXt, ht80, hk⟩ := J
  dsimp only at hR hM hH hh6 hXS hXt ht80 hk
  refine Ci.bframe (c_X4_skippedPlaces l D cy ad z f M (hR) (hM)) (bs := [wTop ad, wSt cy ad 1 z f, wSt cy ad 8 zt ft, wEn cy ad en B Kf, wHb ad ct, wKb cy ad nx, wSt cy ad 20 (Zh 0) (Fh 0), wSt cy ad 27 (Zh 1) (Fh 1), wSt cy ad 34 (Zh 2) (Fh 2), wSt cy ad 41 (Zh 3) (Fh 3), wSt cy ad 48 (Zh 4) (Fh 4), wSt cy ad 55 (Zh 5) (Fh 5), wSa cy ad, wSt cy ad 63 (Zs 0) (Fs 0), wSt cy ad 70 (Zs 1) (Fs 1), wSv cy ad sv, wTx cy ad tn tf]) (cs := [wTop ad, wSt cy ad 1 z f]) (nb := fun (u : Unit) => [wTop ad, wSt cy ad 1 z f]) (b2 := fun u => bX cy ad u) [0, 1] rfl rfl rfl (fun _ => rfl) (fun _ => rfl) (fun r u hp => ?_)
  exact ⟨(z, f, zt, ft, en, B, Kf, nx, ct, Zh, Fh, Zs, Fs, sv, tn, tf), ⟨hp, hR, hM, hH, hh6, hXS, hXt, ht80, hk⟩, rfl⟩
set_option maxHeartbeats 4000000 in
set_option maxRecDepth 100000 in
theorem x_occurrencesByTrying (l : Launch) (D : va_G) (cy : Nat → ClassId) (ad : Nat → Nat) (M : MS) (h : List MS) (sl : Nat → Option MS) (tx : List Int32)   : XCi l D cy ad yX4_occurrencesByTrying wsX4_occurrencesByTrying 3 64 [] (M, h, sl, tx) (iI (occF M)) (M, h, sl, tx) := by
  intro u J
  obtain ⟨z, f, zt, ft, en, B, Kf, nx, ct, Zh, Fh, Zs, Fs, sv, tn, tf⟩ := u
  obtain ⟨hR, hM, hH, hh6, hXS, hXt, ht80, hk⟩ := J
  dsimp only at hR hM hH hh6 hXS hXt ht80 hk
  refine Ci.bframe (c_X4_occurrencesByTrying l D cy ad z f M (hR) (hM)) (bs := [wTop ad, wSt cy ad 1 z f, wSt cy ad 8 zt ft, wEn cy ad en B Kf, wHb ad ct, wKb cy ad nx, wSt cy ad 20 (Zh 0) (Fh 0), wSt cy ad 27 (Zh 1) (Fh 1), wSt cy ad 34 (Zh 2) (Fh 2), wSt cy ad 41 (Zh 3) (Fh 3), wSt cy ad 48 (Zh 4) (Fh 4), wSt cy ad 55 (Zh 5) (Fh 5), wSa cy ad, wSt cy ad 63 (Zs 0) (Fs 0), wSt cy ad 70 (Zs 1) (Fs 1), wSv cy ad sv, wTx cy ad tn tf]) (cs := [wTop ad, wSt cy ad 1 z f]) (nb := fun (u : Unit) => [wTop ad, wSt cy ad 1 z f]) (b2 := fun u => bX cy ad u) [0, 1] rfl rfl rfl (fun _ => rfl) (fun _ => rfl) (fun r u hp => ?_)
  exact ⟨(z, f, zt, ft, en, B, Kf, nx, ct, Zh, Fh, Zs, Fs, sv, tn, tf), ⟨hp, hR, hM, hH, hh6, hXS, hXt, ht80, hk⟩, rfl⟩
set_option maxHeartbeats 4000000 in
set_option maxRecDepth 100000 in
theorem x_isOver1 (l : Launch) (D : va_G) (cy : Nat → ClassId) (ad : Nat → Nat) (M : MS) (h : List MS) (sl : Nat → Option MS) (tx : List Int32)  (ho : mOver M) : XCi l D cy ad yX4_isOver wsX4_isOver 3 61 [] (M, h, sl, tx) (iI 1) (M, h, sl, tx) := by
  intro u J
  obtain ⟨z, f, zt, ft, en, B, Kf, nx, ct, Zh, Fh, Zs, Fs, sv, tn, tf⟩ := u
  obtain ⟨hR, hM, hH, hh6, hXS, hXt, ht80, hk⟩ := J
  dsimp only at hR hM hH hh6 hXS hXt ht80 hk
  refine Ci.bframe (c_X4_isOver l D cy ad z f M (hR) (hM)) (bs := [wTop ad, wSt cy ad 1 z f, wSt cy ad 8 zt ft, wEn cy ad en B Kf, wHb ad ct, wKb cy ad nx, wSt cy ad 20 (Zh 0) (Fh 0), wSt cy ad 27 (Zh 1) (Fh 1), wSt cy ad 34 (Zh 2) (Fh 2), wSt cy ad 41 (Zh 3) (Fh 3), wSt cy ad 48 (Zh 4) (Fh 4), wSt cy ad 55 (Zh 5) (Fh 5), wSa cy ad, wSt cy ad 63 (Zs 0) (Fs 0), wSt cy ad 70 (Zs 1) (Fs 1), wSv cy ad sv, wTx cy ad tn tf]) (cs := [wTop ad, wSt cy ad 1 z f]) (nb := fun (u : Unit) => [wTop ad, wSt cy ad 1 z f]) (b2 := fun u => bX cy ad u) [0, 1] rfl rfl rfl (fun _ => rfl) (fun _ => rfl) (fun r u hp => ?_)
  rcases hp with ⟨_, hv⟩ | ⟨hv, _⟩
  · exact ⟨(z, f, zt, ft, en, B, Kf, nx, ct, Zh, Fh, Zs, Fs, sv, tn, tf), ⟨hv, hR, hM, hH, hh6, hXS, hXt, ht80, hk⟩, rfl⟩
  · exact absurd ho hv
set_option maxHeartbeats 4000000 in
set_option maxRecDepth 100000 in
theorem x_isOver0 (l : Launch) (D : va_G) (cy : Nat → ClassId) (ad : Nat → Nat) (M : MS) (h : List MS) (sl : Nat → Option MS) (tx : List Int32)  (ho : ¬ mOver M) : XCi l D cy ad yX4_isOver wsX4_isOver 3 61 [] (M, h, sl, tx) (iI 0) (M, h, sl, tx) := by
  intro u J
  obtain ⟨z, f, zt, ft, en, B, Kf, nx, ct, Zh, Fh, Zs, Fs, sv, tn, tf⟩ := u
  obtain ⟨hR, hM, hH, hh6, hXS, hXt, ht80, hk⟩ := J
  dsimp only at hR hM hH hh6 hXS hXt ht80 hk
  refine Ci.bframe (c_X4_isOver l D cy ad z f M (hR) (hM)) (bs := [wTop ad, wSt cy ad 1 z f, wSt cy ad 8 zt ft, wEn cy ad en B Kf, wHb ad ct, wKb cy ad nx, wSt cy ad 20 (Zh 0) (Fh 0), wSt cy ad 27 (Zh 1) (Fh 1), wSt cy ad 34 (Zh 2) (Fh 2), wSt cy ad 41 (Zh 3) (Fh 3), wSt cy ad 48 (Zh 4) (Fh 4), wSt cy ad 55 (Zh 5) (Fh 5), wSa cy ad, wSt cy ad 63 (Zs 0) (Fs 0), wSt cy ad 70 (Zs 1) (Fs 1), wSv cy ad sv, wTx cy ad tn tf]) (cs := [wTop ad, wSt cy ad 1 z f]) (nb := fun (u : Unit) => [wTop ad, wSt cy ad 1 z f]) (b2 := fun u => bX cy ad u) [0, 1] rfl rfl rfl (fun _ => rfl) (fun _ => rfl) (fun r u hp => ?_)
  rcases hp with ⟨hv, _⟩ | ⟨_, hv⟩
  · exact absurd hv ho
  · exact ⟨(z, f, zt, ft, en, B, Kf, nx, ct, Zh, Fh, Zs, Fs, sv, tn, tf), ⟨hv, hR, hM, hH, hh6, hXS, hXt, ht80, hk⟩, rfl⟩
set_option maxHeartbeats 4000000 in
set_option maxRecDepth 100000 in
theorem x_border (l : Launch) (D : va_G) (cy : Nat → ClassId) (ad : Nat → Nat) (M : MS) (h : List MS) (sl : Nat → Option MS) (tx : List Int32)   : XCi l D cy ad yX4_border wsX4_border 5 112 [] (M, h, sl, tx) (iI ((M.2.1.length : Int) - (perF M.2.1.length (gl M.2.1) : Int))) (M, h, sl, tx) := by
  intro u J
  obtain ⟨z, f, zt, ft, en, B, Kf, nx, ct, Zh, Fh, Zs, Fs, sv, tn, tf⟩ := u
  obtain ⟨hR, hM, hH, hh6, hXS, hXt, ht80, hk⟩ := J
  dsimp only at hR hM hH hh6 hXS hXt ht80 hk
  refine Ci.bframe (c_X4_border l D cy ad z f M en B Kf (hR) (hM) (hk)) (bs := [wTop ad, wSt cy ad 1 z f, wSt cy ad 8 zt ft, wEn cy ad en B Kf, wHb ad ct, wKb cy ad nx, wSt cy ad 20 (Zh 0) (Fh 0), wSt cy ad 27 (Zh 1) (Fh 1), wSt cy ad 34 (Zh 2) (Fh 2), wSt cy ad 41 (Zh 3) (Fh 3), wSt cy ad 48 (Zh 4) (Fh 4), wSt cy ad 55 (Zh 5) (Fh 5), wSa cy ad, wSt cy ad 63 (Zs 0) (Fs 0), wSt cy ad 70 (Zs 1) (Fs 1), wSv cy ad sv, wTx cy ad tn tf]) (cs := [wTop ad, wSt cy ad 1 z f, wEn cy ad en B Kf]) (nb := fun (u : Int × (Nat → Int) × (Nat → Int)) => [wTop ad, wSt cy ad 1 z f, wEn cy ad u.1 u.2.1 u.2.2]) (b2 := fun u => bX cy ad u) [0, 1, 3] rfl rfl rfl (fun _ => rfl) (fun _ => rfl) (fun r u hp => ?_)
  obtain ⟨en1, B1, K1⟩ := u
  dsimp only at hp
  obtain ⟨hv, hk1⟩ := hp
  exact ⟨(z, f, zt, ft, en1, B1, K1, nx, ct, Zh, Fh, Zs, Fs, sv, tn, tf), ⟨hv, hR, hM, hH, hh6, hXS, hXt, ht80, hk1⟩, rfl⟩
set_option maxHeartbeats 4000000 in
set_option maxRecDepth 100000 in
theorem x_period (l : Launch) (D : va_G) (cy : Nat → ClassId) (ad : Nat → Nat) (M : MS) (h : List MS) (sl : Nat → Option MS) (tx : List Int32)   : XCi l D cy ad yX4_period wsX4_period 5 112 [] (M, h, sl, tx) (iI ((perF M.2.1.length (gl M.2.1) : Int))) (M, h, sl, tx) := by
  intro u J
  obtain ⟨z, f, zt, ft, en, B, Kf, nx, ct, Zh, Fh, Zs, Fs, sv, tn, tf⟩ := u
  obtain ⟨hR, hM, hH, hh6, hXS, hXt, ht80, hk⟩ := J
  dsimp only at hR hM hH hh6 hXS hXt ht80 hk
  refine Ci.bframe (c_X4_period l D cy ad z f M en B Kf (hR) (hM) (hk)) (bs := [wTop ad, wSt cy ad 1 z f, wSt cy ad 8 zt ft, wEn cy ad en B Kf, wHb ad ct, wKb cy ad nx, wSt cy ad 20 (Zh 0) (Fh 0), wSt cy ad 27 (Zh 1) (Fh 1), wSt cy ad 34 (Zh 2) (Fh 2), wSt cy ad 41 (Zh 3) (Fh 3), wSt cy ad 48 (Zh 4) (Fh 4), wSt cy ad 55 (Zh 5) (Fh 5), wSa cy ad, wSt cy ad 63 (Zs 0) (Fs 0), wSt cy ad 70 (Zs 1) (Fs 1), wSv cy ad sv, wTx cy ad tn tf]) (cs := [wTop ad, wSt cy ad 1 z f, wEn cy ad en B Kf]) (nb := fun (u : Int × (Nat → Int) × (Nat → Int)) => [wTop ad, wSt cy ad 1 z f, wEn cy ad u.1 u.2.1 u.2.2]) (b2 := fun u => bX cy ad u) [0, 1, 3] rfl rfl rfl (fun _ => rfl) (fun _ => rfl) (fun r u hp => ?_)
  obtain ⟨en1, B1, K1⟩ := u
  dsimp only at hp
  obtain ⟨hv, hk1⟩ := hp
  exact ⟨(z, f, zt, ft, en1, B1, K1, nx, ct, Zh, Fh, Zs, Fs, sv, tn, tf), ⟨hv, hR, hM, hH, hh6, hXS, hXt, ht80, hk1⟩, rfl⟩
set_option maxHeartbeats 4000000 in
set_option maxRecDepth 100000 in
theorem x_occurrences (l : Launch) (D : va_G) (cy : Nat → ClassId) (ad : Nat → Nat) (M : MS) (h : List MS) (sl : Nat → Option MS) (tx : List Int32)   : XCi l D cy ad yX4_occurrences wsX4_occurrences 6 134 [] (M, h, sl, tx) (iI (occF M)) (M, h, sl, tx) := by
  intro u J
  obtain ⟨z, f, zt, ft, en, B, Kf, nx, ct, Zh, Fh, Zs, Fs, sv, tn, tf⟩ := u
  obtain ⟨hR, hM, hH, hh6, hXS, hXt, ht80, hk⟩ := J
  dsimp only at hR hM hH hh6 hXS hXt ht80 hk
  refine Ci.bframe (c_X4_occurrences l D cy ad z f M zt ft en B Kf (hR) (hM) (hk)) (bs := [wTop ad, wSt cy ad 1 z f, wSt cy ad 8 zt ft, wEn cy ad en B Kf, wHb ad ct, wKb cy ad nx, wSt cy ad 20 (Zh 0) (Fh 0), wSt cy ad 27 (Zh 1) (Fh 1), wSt cy ad 34 (Zh 2) (Fh 2), wSt cy ad 41 (Zh 3) (Fh 3), wSt cy ad 48 (Zh 4) (Fh 4), wSt cy ad 55 (Zh 5) (Fh 5), wSa cy ad, wSt cy ad 63 (Zs 0) (Fs 0), wSt cy ad 70 (Zs 1) (Fs 1), wSv cy ad sv, wTx cy ad tn tf]) (cs := [wTop ad, wSt cy ad 1 z f, wSt cy ad 8 zt ft, wEn cy ad en B Kf]) (nb := fun (u : (Nat → Int) × (Nat → Nat → Int32) × Int × (Nat → Int) × (Nat → Int)) => [wTop ad, wSt cy ad 1 z f, wSt cy ad 8 u.1 u.2.1, wEn cy ad u.2.2.1 u.2.2.2.1 u.2.2.2.2]) (b2 := fun u => bX cy ad u) [0, 1, 2, 3] rfl rfl rfl (fun _ => rfl) (fun _ => rfl) (fun r u hp => ?_)
  obtain ⟨zt1, ft1, en1, B1, K1⟩ := u
  dsimp only at hp
  obtain ⟨hv, hk1⟩ := hp
  exact ⟨(z, f, zt1, ft1, en1, B1, K1, nx, ct, Zh, Fh, Zs, Fs, sv, tn, tf), ⟨hv, hR, hM, hH, hh6, hXS, hXt, ht80, hk1⟩, rfl⟩
set_option maxHeartbeats 4000000 in
set_option maxRecDepth 100000 in
theorem x_comparedWith (l : Launch) (D : va_G) (cy : Nat → ClassId) (ad : Nat → Nat) (M : MS) (h : List MS) (sl : Nat → Option MS) (tx : List Int32) (x : Int) (y : Int) (hxy : 0 ≤ x ∧ x ≤ 1 ∧ 0 ≤ y ∧ y ≤ 1) : XCi l D cy ad yX4_comparedWith wsX4_comparedWith 6 134 [.int (iI x), .int (iI y)] (M, h, sl, tx) (iI (mRun (mRules M x y)).1.2.2.1) (M, h, sl, tx) := by
  intro u J
  obtain ⟨z, f, zt, ft, en, B, Kf, nx, ct, Zh, Fh, Zs, Fs, sv, tn, tf⟩ := u
  obtain ⟨hR, hM, hH, hh6, hXS, hXt, ht80, hk⟩ := J
  dsimp only at hR hM hH hh6 hXS hXt ht80 hk
  refine Ci.bframe (c_X4_comparedWith l D cy ad z f M zt ft en B Kf x y (hR) (hM) (hk) (hxy)) (bs := [wTop ad, wSt cy ad 1 z f, wSt cy ad 8 zt ft, wEn cy ad en B Kf, wHb ad ct, wKb cy ad nx, wSt cy ad 20 (Zh 0) (Fh 0), wSt cy ad 27 (Zh 1) (Fh 1), wSt cy ad 34 (Zh 2) (Fh 2), wSt cy ad 41 (Zh 3) (Fh 3), wSt cy ad 48 (Zh 4) (Fh 4), wSt cy ad 55 (Zh 5) (Fh 5), wSa cy ad, wSt cy ad 63 (Zs 0) (Fs 0), wSt cy ad 70 (Zs 1) (Fs 1), wSv cy ad sv, wTx cy ad tn tf]) (cs := [wTop ad, wSt cy ad 1 z f, wSt cy ad 8 zt ft, wEn cy ad en B Kf]) (nb := fun (u : (Nat → Int) × (Nat → Nat → Int32) × Int × (Nat → Int) × (Nat → Int)) => [wTop ad, wSt cy ad 1 z f, wSt cy ad 8 u.1 u.2.1, wEn cy ad u.2.2.1 u.2.2.2.1 u.2.2.2.2]) (b2 := fun u => bX cy ad u) [0, 1, 2, 3] rfl rfl rfl (fun _ => rfl) (fun _ => rfl) (fun r u hp => ?_)
  obtain ⟨zt1, ft1, en1, B1, K1⟩ := u
  dsimp only at hp
  obtain ⟨hv, hk1⟩ := hp
  exact ⟨(z, f, zt1, ft1, en1, B1, K1, nx, ct, Zh, Fh, Zs, Fs, sv, tn, tf), ⟨hv, hR, hM, hH, hh6, hXS, hXt, ht80, hk1⟩, rfl⟩
set_option maxHeartbeats 4000000 in
set_option maxRecDepth 100000 in
theorem x_undoCount (l : Launch) (D : va_G) (cy : Nat → ClassId) (ad : Nat → Nat) (M : MS) (h : List MS) (sl : Nat → Option MS) (tx : List Int32)   : XCi l D cy ad yX4_undoCount wsX4_undoCount 1 20 [] (M, h, sl, tx) (iI (h.length : Int)) (M, h, sl, tx) := by
  intro u J
  obtain ⟨z, f, zt, ft, en, B, Kf, nx, ct, Zh, Fh, Zs, Fs, sv, tn, tf⟩ := u
  obtain ⟨hR, hM, hH, hh6, hXS, hXt, ht80, hk⟩ := J
  dsimp only at hR hM hH hh6 hXS hXt ht80 hk
  refine Ci.bframe (c_X4_undoCount l D cy ad nx ct Zh Fh h (hH)) (bs := [wTop ad, wSt cy ad 1 z f, wSt cy ad 8 zt ft, wEn cy ad en B Kf, wHb ad ct, wKb cy ad nx, wSt cy ad 20 (Zh 0) (Fh 0), wSt cy ad 27 (Zh 1) (Fh 1), wSt cy ad 34 (Zh 2) (Fh 2), wSt cy ad 41 (Zh 3) (Fh 3), wSt cy ad 48 (Zh 4) (Fh 4), wSt cy ad 55 (Zh 5) (Fh 5), wSa cy ad, wSt cy ad 63 (Zs 0) (Fs 0), wSt cy ad 70 (Zs 1) (Fs 1), wSv cy ad sv, wTx cy ad tn tf]) (cs := [wTop ad, wHb ad ct]) (nb := fun (u : Unit) => [wTop ad, wHb ad ct]) (b2 := fun u => bX cy ad u) [0, 4] rfl rfl rfl (fun _ => rfl) (fun _ => rfl) (fun r u hp => ?_)
  exact ⟨(z, f, zt, ft, en, B, Kf, nx, ct, Zh, Fh, Zs, Fs, sv, tn, tf), ⟨hp, hR, hM, hH, hh6, hXS, hXt, ht80, hk⟩, rfl⟩
set_option maxHeartbeats 4000000 in
set_option maxRecDepth 100000 in
theorem x_clearText (l : Launch) (D : va_G) (cy : Nat → ClassId) (ad : Nat → Nat) (M : MS) (h : List MS) (sl : Nat → Option MS) (tx : List Int32)   : XCi l D cy ad yX4_clearText wsX4_clearText 1 20 [] (M, h, sl, tx) (iI (tx.length : Int)) (M, h, sl, []) := by
  intro u J
  obtain ⟨z, f, zt, ft, en, B, Kf, nx, ct, Zh, Fh, Zs, Fs, sv, tn, tf⟩ := u
  obtain ⟨hR, hM, hH, hh6, hXS, hXt, ht80, hk⟩ := J
  dsimp only at hR hM hH hh6 hXS hXt ht80 hk
  refine Ci.bframe (c_X4_clearText l D cy ad tn tf tx (⟨hXt, ht80⟩)) (bs := [wTop ad, wSt cy ad 1 z f, wSt cy ad 8 zt ft, wEn cy ad en B Kf, wHb ad ct, wKb cy ad nx, wSt cy ad 20 (Zh 0) (Fh 0), wSt cy ad 27 (Zh 1) (Fh 1), wSt cy ad 34 (Zh 2) (Fh 2), wSt cy ad 41 (Zh 3) (Fh 3), wSt cy ad 48 (Zh 4) (Fh 4), wSt cy ad 55 (Zh 5) (Fh 5), wSa cy ad, wSt cy ad 63 (Zs 0) (Fs 0), wSt cy ad 70 (Zs 1) (Fs 1), wSv cy ad sv, wTx cy ad tn tf]) (cs := [wTop ad, wTx cy ad tn tf]) (nb := fun (u : Unit) => [wTop ad, wTx cy ad 0 tf]) (b2 := fun u => bX cy ad u) [0, 16] rfl rfl rfl (fun _ => rfl) (fun _ => rfl) (fun r u hp => ?_)
  exact ⟨(z, f, zt, ft, en, B, Kf, nx, ct, Zh, Fh, Zs, Fs, sv, 0, tf), ⟨hp, hR, hM, hH, hh6, hXS, Rep_no, Nat.zero_le _, hk⟩, rfl⟩
set_option maxHeartbeats 4000000 in
set_option maxRecDepth 100000 in
theorem x_setRules (l : Launch) (D : va_G) (cy : Nat → ClassId) (ad : Nat → Nat) (M : MS) (h : List MS) (sl : Nat → Option MS) (tx : List Int32) (x : Int) (y : Int) (hxy : 0 ≤ x ∧ x ≤ 1 ∧ 0 ≤ y ∧ y ≤ 1) : XCi l D cy ad yX4_setRules wsX4_setRules 4 87 [.int (iI x), .int (iI y)] (M, h, sl, tx) (iI (M.2.2.2.1 + M.2.2.2.2.1)) (mRules M x y, pushH h M, sl, tx) := by
  intro u J
  obtain ⟨z, f, zt, ft, en, B, Kf, nx, ct, Zh, Fh, Zs, Fs, sv, tn, tf⟩ := u
  obtain ⟨hR, hM, hH, hh6, hXS, hXt, ht80, hk⟩ := J
  dsimp only at hR hM hH hh6 hXS hXt ht80 hk
  refine Ci.bframe (c_X4_setRules l D cy ad z f M nx ct Zh Fh h x y (hR) (hM) (hH) (hxy)) (bs := [wTop ad, wSt cy ad 1 z f, wSt cy ad 8 zt ft, wEn cy ad en B Kf, wHb ad ct, wKb cy ad nx, wSt cy ad 20 (Zh 0) (Fh 0), wSt cy ad 27 (Zh 1) (Fh 1), wSt cy ad 34 (Zh 2) (Fh 2), wSt cy ad 41 (Zh 3) (Fh 3), wSt cy ad 48 (Zh 4) (Fh 4), wSt cy ad 55 (Zh 5) (Fh 5), wSa cy ad, wSt cy ad 63 (Zs 0) (Fs 0), wSt cy ad 70 (Zs 1) (Fs 1), wSv cy ad sv, wTx cy ad tn tf]) (cs := [wTop ad, wSt cy ad 1 z f, wHb ad ct, wKb cy ad nx, wSt cy ad 20 (Zh 0) (Fh 0), wSt cy ad 27 (Zh 1) (Fh 1), wSt cy ad 34 (Zh 2) (Fh 2), wSt cy ad 41 (Zh 3) (Fh 3), wSt cy ad 48 (Zh 4) (Fh 4), wSt cy ad 55 (Zh 5) (Fh 5)]) (nb := fun (u : (Nat → Int) × (Nat → Nat → Int32) × Int × Int × (Nat → Nat → Int) × (Nat → Nat → Nat → Int32)) => [wTop ad, wSt cy ad 1 u.1 u.2.1, wHb ad u.2.2.2.1, wKb cy ad u.2.2.1, wSt cy ad 20 (u.2.2.2.2.1 0) (u.2.2.2.2.2 0), wSt cy ad 27 (u.2.2.2.2.1 1) (u.2.2.2.2.2 1), wSt cy ad 34 (u.2.2.2.2.1 2) (u.2.2.2.2.2 2), wSt cy ad 41 (u.2.2.2.2.1 3) (u.2.2.2.2.2 3), wSt cy ad 48 (u.2.2.2.2.1 4) (u.2.2.2.2.2 4), wSt cy ad 55 (u.2.2.2.2.1 5) (u.2.2.2.2.2 5)]) (b2 := fun u => bX cy ad u) [0, 1, 4, 5, 6, 7, 8, 9, 10, 11] rfl rfl rfl (fun _ => rfl) (fun _ => rfl) (fun r u hp => ?_)
  obtain ⟨z1, f1, nx1, ct1, Zh1, Fh1⟩ := u
  dsimp only at hp
  obtain ⟨hv, hR1, hH1⟩ := hp
  exact ⟨(z1, f1, zt, ft, en, B, Kf, nx1, ct1, Zh1, Fh1, Zs, Fs, sv, tn, tf), ⟨hv, hR1, hM.rules hxy, hH1, push_le hh6, hXS, hXt, ht80, hk⟩, rfl⟩
set_option maxHeartbeats 4000000 in
set_option maxRecDepth 100000 in
theorem x_finish (l : Launch) (D : va_G) (cy : Nat → ClassId) (ad : Nat → Nat) (M : MS) (h : List MS) (sl : Nat → Option MS) (tx : List Int32)   : XCi l D cy ad yX4_finish wsX4_finish 5 112 [] (M, h, sl, tx) (iI (mRun M).2) (mOf M (mRun M).1, pushH h M, sl, tx) := by
  intro u J
  obtain ⟨z, f, zt, ft, en, B, Kf, nx, ct, Zh, Fh, Zs, Fs, sv, tn, tf⟩ := u
  obtain ⟨hR, hM, hH, hh6, hXS, hXt, ht80, hk⟩ := J
  dsimp only at hR hM hH hh6 hXS hXt ht80 hk
  refine Ci.bframe (c_X4_finish l D cy ad z f M nx ct Zh Fh h en B Kf (hR) (hM) (hH) (hk)) (bs := [wTop ad, wSt cy ad 1 z f, wSt cy ad 8 zt ft, wEn cy ad en B Kf, wHb ad ct, wKb cy ad nx, wSt cy ad 20 (Zh 0) (Fh 0), wSt cy ad 27 (Zh 1) (Fh 1), wSt cy ad 34 (Zh 2) (Fh 2), wSt cy ad 41 (Zh 3) (Fh 3), wSt cy ad 48 (Zh 4) (Fh 4), wSt cy ad 55 (Zh 5) (Fh 5), wSa cy ad, wSt cy ad 63 (Zs 0) (Fs 0), wSt cy ad 70 (Zs 1) (Fs 1), wSv cy ad sv, wTx cy ad tn tf]) (cs := [wTop ad, wSt cy ad 1 z f, wHb ad ct, wKb cy ad nx, wSt cy ad 20 (Zh 0) (Fh 0), wSt cy ad 27 (Zh 1) (Fh 1), wSt cy ad 34 (Zh 2) (Fh 2), wSt cy ad 41 (Zh 3) (Fh 3), wSt cy ad 48 (Zh 4) (Fh 4), wSt cy ad 55 (Zh 5) (Fh 5), wEn cy ad en B Kf]) (nb := fun (u : (Nat → Int) × (Nat → Nat → Int32) × Int × Int × (Nat → Nat → Int) × (Nat → Nat → Nat → Int32) × Int × (Nat → Int) × (Nat → Int)) => [wTop ad, wSt cy ad 1 u.1 u.2.1, wHb ad u.2.2.2.1, wKb cy ad u.2.2.1, wSt cy ad 20 (u.2.2.2.2.1 0) (u.2.2.2.2.2.1 0), wSt cy ad 27 (u.2.2.2.2.1 1) (u.2.2.2.2.2.1 1), wSt cy ad 34 (u.2.2.2.2.1 2) (u.2.2.2.2.2.1 2), wSt cy ad 41 (u.2.2.2.2.1 3) (u.2.2.2.2.2.1 3), wSt cy ad 48 (u.2.2.2.2.1 4) (u.2.2.2.2.2.1 4), wSt cy ad 55 (u.2.2.2.2.1 5) (u.2.2.2.2.2.1 5), wEn cy ad u.2.2.2.2.2.2.1 u.2.2.2.2.2.2.2.1 u.2.2.2.2.2.2.2.2]) (b2 := fun u => bX cy ad u) [0, 1, 4, 5, 6, 7, 8, 9, 10, 11, 3] rfl rfl rfl (fun _ => rfl) (fun _ => rfl) (fun r u hp => ?_)
  obtain ⟨z1, f1, nx1, ct1, Zh1, Fh1, en1, B1, K1⟩ := u
  dsimp only at hp
  obtain ⟨hv, hR1, hH1, hk1⟩ := hp
  exact ⟨(z1, f1, zt, ft, en1, B1, K1, nx1, ct1, Zh1, Fh1, Zs, Fs, sv, tn, tf), ⟨hv, hR1, hM.run, hH1, push_le hh6, hXS, hXt, ht80, hk1⟩, rfl⟩
set_option maxHeartbeats 4000000 in
set_option maxRecDepth 100000 in
theorem x_rewind (l : Launch) (D : va_G) (cy : Nat → ClassId) (ad : Nat → Nat) (M : MS) (h : List MS) (sl : Nat → Option MS) (tx : List Int32)   : XCi l D cy ad yX4_rewind wsX4_rewind 4 87 [] (M, h, sl, tx) (iI M.2.2.2.2.2.2.1) (bgn M, pushH h M, sl, tx) := by
  intro u J
  obtain ⟨z, f, zt, ft, en, B, Kf, nx, ct, Zh, Fh, Zs, Fs, sv, tn, tf⟩ := u
  obtain ⟨hR, hM, hH, hh6, hXS, hXt, ht80, hk⟩ := J
  dsimp only at hR hM hH hh6 hXS hXt ht80 hk
  refine Ci.bframe (c_X4_rewind l D cy ad z f M nx ct Zh Fh h (hR) (hM) (hH)) (bs := [wTop ad, wSt cy ad 1 z f, wSt cy ad 8 zt ft, wEn cy ad en B Kf, wHb ad ct, wKb cy ad nx, wSt cy ad 20 (Zh 0) (Fh 0), wSt cy ad 27 (Zh 1) (Fh 1), wSt cy ad 34 (Zh 2) (Fh 2), wSt cy ad 41 (Zh 3) (Fh 3), wSt cy ad 48 (Zh 4) (Fh 4), wSt cy ad 55 (Zh 5) (Fh 5), wSa cy ad, wSt cy ad 63 (Zs 0) (Fs 0), wSt cy ad 70 (Zs 1) (Fs 1), wSv cy ad sv, wTx cy ad tn tf]) (cs := [wTop ad, wSt cy ad 1 z f, wHb ad ct, wKb cy ad nx, wSt cy ad 20 (Zh 0) (Fh 0), wSt cy ad 27 (Zh 1) (Fh 1), wSt cy ad 34 (Zh 2) (Fh 2), wSt cy ad 41 (Zh 3) (Fh 3), wSt cy ad 48 (Zh 4) (Fh 4), wSt cy ad 55 (Zh 5) (Fh 5)]) (nb := fun (u : (Nat → Int) × (Nat → Nat → Int32) × Int × Int × (Nat → Nat → Int) × (Nat → Nat → Nat → Int32)) => [wTop ad, wSt cy ad 1 u.1 u.2.1, wHb ad u.2.2.2.1, wKb cy ad u.2.2.1, wSt cy ad 20 (u.2.2.2.2.1 0) (u.2.2.2.2.2 0), wSt cy ad 27 (u.2.2.2.2.1 1) (u.2.2.2.2.2 1), wSt cy ad 34 (u.2.2.2.2.1 2) (u.2.2.2.2.2 2), wSt cy ad 41 (u.2.2.2.2.1 3) (u.2.2.2.2.2 3), wSt cy ad 48 (u.2.2.2.2.1 4) (u.2.2.2.2.2 4), wSt cy ad 55 (u.2.2.2.2.1 5) (u.2.2.2.2.2 5)]) (b2 := fun u => bX cy ad u) [0, 1, 4, 5, 6, 7, 8, 9, 10, 11] rfl rfl rfl (fun _ => rfl) (fun _ => rfl) (fun r u hp => ?_)
  obtain ⟨z1, f1, nx1, ct1, Zh1, Fh1⟩ := u
  dsimp only at hp
  obtain ⟨hv, hR1, hH1⟩ := hp
  exact ⟨(z1, f1, zt, ft, en, B, Kf, nx1, ct1, Zh1, Fh1, Zs, Fs, sv, tn, tf), ⟨hv, hR1, hM.bgn, hH1, push_le hh6, hXS, hXt, ht80, hk⟩, rfl⟩
set_option maxHeartbeats 4000000 in
set_option maxRecDepth 100000 in
theorem x_takeLine (l : Launch) (hfl : l.stackTraces = false) (D : va_G) (cy : Nat → ClassId) (ad : Nat → Nat) (M : MS) (h : List MS) (sl : Nat → Option MS) (tx : List Int32)  (he : errF tx 0 = -1) (hn : (tx.length : Int) ≤ 60) : XNi l D cy ad yL_takeLine wsL_takeLine 8 133 1 [] (M, h, sl, tx) (iI (tx.length : Int)) (mTakeL M tx, pushH h M, sl, []) := by
  intro u J
  obtain ⟨z, f, zt, ft, en, B, Kf, nx, ct, Zh, Fh, Zs, Fs, sv, tn, tf⟩ := u
  obtain ⟨hR, hM, hH, hh6, hXS, hXt, ht80, hk⟩ := J
  dsimp only at hR hM hH hh6 hXS hXt ht80 hk
  refine Ni.bframe (c_L_takeLine l hfl D cy ad z f M nx ct Zh Fh h tn tf tx (hR) (hM) (hH) (⟨hXt, ht80⟩)) (bs := [wTop ad, wSt cy ad 1 z f, wSt cy ad 8 zt ft, wEn cy ad en B Kf, wHb ad ct, wKb cy ad nx, wSt cy ad 20 (Zh 0) (Fh 0), wSt cy ad 27 (Zh 1) (Fh 1), wSt cy ad 34 (Zh 2) (Fh 2), wSt cy ad 41 (Zh 3) (Fh 3), wSt cy ad 48 (Zh 4) (Fh 4), wSt cy ad 55 (Zh 5) (Fh 5), wSa cy ad, wSt cy ad 63 (Zs 0) (Fs 0), wSt cy ad 70 (Zs 1) (Fs 1), wSv cy ad sv, wTx cy ad tn tf]) (cs := [wTop ad, wSt cy ad 1 z f, wHb ad ct, wKb cy ad nx, wSt cy ad 20 (Zh 0) (Fh 0), wSt cy ad 27 (Zh 1) (Fh 1), wSt cy ad 34 (Zh 2) (Fh 2), wSt cy ad 41 (Zh 3) (Fh 3), wSt cy ad 48 (Zh 4) (Fh 4), wSt cy ad 55 (Zh 5) (Fh 5), wTx cy ad tn tf]) (nb := fun (u : (Nat → Int) × (Nat → Nat → Int32) × Int × Int × (Nat → Nat → Int) × (Nat → Nat → Nat → Int32) × Int) => [wTop ad, wSt cy ad 1 u.1 u.2.1, wHb ad u.2.2.2.1, wKb cy ad u.2.2.1, wSt cy ad 20 (u.2.2.2.2.1 0) (u.2.2.2.2.2.1 0), wSt cy ad 27 (u.2.2.2.2.1 1) (u.2.2.2.2.2.1 1), wSt cy ad 34 (u.2.2.2.2.1 2) (u.2.2.2.2.2.1 2), wSt cy ad 41 (u.2.2.2.2.1 3) (u.2.2.2.2.2.1 3), wSt cy ad 48 (u.2.2.2.2.1 4) (u.2.2.2.2.2.1 4), wSt cy ad 55 (u.2.2.2.2.1 5) (u.2.2.2.2.2.1 5), wTx cy ad u.2.2.2.2.2.2 tf]) (b2 := fun u => bX cy ad u) [0, 1, 4, 5, 6, 7, 8, 9, 10, 11, 16] rfl rfl rfl (fun _ => rfl) (fun _ => rfl) (fun r u hp => ?_)
  obtain ⟨z1, f1, nx1, ct1, Zh1, Fh1, tn1⟩ := u
  dsimp only at hp
  rcases hp with ⟨⟨_, hv, hR1, hH1⟩, htn⟩ | ⟨_, hno, _⟩
  · exact ⟨(z1, f1, zt, ft, en, B, Kf, nx1, ct1, Zh1, Fh1, Zs, Fs, sv, tn1, tf), ⟨hv, hR1, hM.takeL hn, hH1, push_le hh6, hXS, (by rw [htn]; exact Rep_no), Nat.zero_le _, hk⟩, rfl⟩
  · exact absurd ⟨he, hn⟩ hno
set_option maxHeartbeats 4000000 in
set_option maxRecDepth 100000 in
theorem x_takeWord (l : Launch) (hfl : l.stackTraces = false) (D : va_G) (cy : Nat → ClassId) (ad : Nat → Nat) (M : MS) (h : List MS) (sl : Nat → Option MS) (tx : List Int32)  (he : errF tx 0 = -1) (hn : (tx.length : Int) ≤ 16) : XNi l D cy ad yL_takeWord wsL_takeWord 8 133 1 [] (M, h, sl, tx) (iI (tx.length : Int)) (mTakeW M tx, pushH h M, sl, []) := by
  intro u J
  obtain ⟨z, f, zt, ft, en, B, Kf, nx, ct, Zh, Fh, Zs, Fs, sv, tn, tf⟩ := u
  obtain ⟨hR, hM, hH, hh6, hXS, hXt, ht80, hk⟩ := J
  dsimp only at hR hM hH hh6 hXS hXt ht80 hk
  refine Ni.bframe (c_L_takeWord l hfl D cy ad z f M nx ct Zh Fh h tn tf tx (hR) (hM) (hH) (⟨hXt, ht80⟩)) (bs := [wTop ad, wSt cy ad 1 z f, wSt cy ad 8 zt ft, wEn cy ad en B Kf, wHb ad ct, wKb cy ad nx, wSt cy ad 20 (Zh 0) (Fh 0), wSt cy ad 27 (Zh 1) (Fh 1), wSt cy ad 34 (Zh 2) (Fh 2), wSt cy ad 41 (Zh 3) (Fh 3), wSt cy ad 48 (Zh 4) (Fh 4), wSt cy ad 55 (Zh 5) (Fh 5), wSa cy ad, wSt cy ad 63 (Zs 0) (Fs 0), wSt cy ad 70 (Zs 1) (Fs 1), wSv cy ad sv, wTx cy ad tn tf]) (cs := [wTop ad, wSt cy ad 1 z f, wHb ad ct, wKb cy ad nx, wSt cy ad 20 (Zh 0) (Fh 0), wSt cy ad 27 (Zh 1) (Fh 1), wSt cy ad 34 (Zh 2) (Fh 2), wSt cy ad 41 (Zh 3) (Fh 3), wSt cy ad 48 (Zh 4) (Fh 4), wSt cy ad 55 (Zh 5) (Fh 5), wTx cy ad tn tf]) (nb := fun (u : (Nat → Int) × (Nat → Nat → Int32) × Int × Int × (Nat → Nat → Int) × (Nat → Nat → Nat → Int32) × Int) => [wTop ad, wSt cy ad 1 u.1 u.2.1, wHb ad u.2.2.2.1, wKb cy ad u.2.2.1, wSt cy ad 20 (u.2.2.2.2.1 0) (u.2.2.2.2.2.1 0), wSt cy ad 27 (u.2.2.2.2.1 1) (u.2.2.2.2.2.1 1), wSt cy ad 34 (u.2.2.2.2.1 2) (u.2.2.2.2.2.1 2), wSt cy ad 41 (u.2.2.2.2.1 3) (u.2.2.2.2.2.1 3), wSt cy ad 48 (u.2.2.2.2.1 4) (u.2.2.2.2.2.1 4), wSt cy ad 55 (u.2.2.2.2.1 5) (u.2.2.2.2.2.1 5), wTx cy ad u.2.2.2.2.2.2 tf]) (b2 := fun u => bX cy ad u) [0, 1, 4, 5, 6, 7, 8, 9, 10, 11, 16] rfl rfl rfl (fun _ => rfl) (fun _ => rfl) (fun r u hp => ?_)
  obtain ⟨z1, f1, nx1, ct1, Zh1, Fh1, tn1⟩ := u
  dsimp only at hp
  rcases hp with ⟨⟨_, hv, hR1, hH1⟩, htn⟩ | ⟨_, hno, _⟩
  · exact ⟨(z1, f1, zt, ft, en, B, Kf, nx1, ct1, Zh1, Fh1, Zs, Fs, sv, tn1, tf), ⟨hv, hR1, hM.takeW hn, hH1, push_le hh6, hXS, (by rw [htn]; exact Rep_no), Nat.zero_le _, hk⟩, rfl⟩
  · exact absurd ⟨he, hn⟩ hno
set_option maxHeartbeats 4000000 in
set_option maxRecDepth 100000 in
theorem x_look0 (l : Launch) (hfl : l.stackTraces = false) (D : va_G) (cy : Nat → ClassId) (ad : Nat → Nat) (M : MS) (h : List MS) (sl : Nat → Option MS) (tx : List Int32)  (ho : ¬ mOver M) : XNi l D cy ad yL_look wsL_look 7 132 1 [] (M, h, sl, tx) (iI (mSk M M.2.2.2.2.2.1 (mD M M.2.2.2.2.2.1))) (mLook M, pushH h M, sl, tx) := by
  intro u J
  obtain ⟨z, f, zt, ft, en, B, Kf, nx, ct, Zh, Fh, Zs, Fs, sv, tn, tf⟩ := u
  obtain ⟨hR, hM, hH, hh6, hXS, hXt, ht80, hk⟩ := J
  dsimp only at hR hM hH hh6 hXS hXt ht80 hk
  refine Ni.bframe (c_L_look l hfl D cy ad z f M nx ct Zh Fh h en B Kf (hR) (hM) (hH) (hk)) (bs := [wTop ad, wSt cy ad 1 z f, wSt cy ad 8 zt ft, wEn cy ad en B Kf, wHb ad ct, wKb cy ad nx, wSt cy ad 20 (Zh 0) (Fh 0), wSt cy ad 27 (Zh 1) (Fh 1), wSt cy ad 34 (Zh 2) (Fh 2), wSt cy ad 41 (Zh 3) (Fh 3), wSt cy ad 48 (Zh 4) (Fh 4), wSt cy ad 55 (Zh 5) (Fh 5), wSa cy ad, wSt cy ad 63 (Zs 0) (Fs 0), wSt cy ad 70 (Zs 1) (Fs 1), wSv cy ad sv, wTx cy ad tn tf]) (cs := [wTop ad, wSt cy ad 1 z f, wHb ad ct, wKb cy ad nx, wSt cy ad 20 (Zh 0) (Fh 0), wSt cy ad 27 (Zh 1) (Fh 1), wSt cy ad 34 (Zh 2) (Fh 2), wSt cy ad 41 (Zh 3) (Fh 3), wSt cy ad 48 (Zh 4) (Fh 4), wSt cy ad 55 (Zh 5) (Fh 5), wEn cy ad en B Kf]) (nb := fun (u : (Nat → Int) × (Nat → Nat → Int32) × Int × Int × (Nat → Nat → Int) × (Nat → Nat → Nat → Int32) × Int × (Nat → Int) × (Nat → Int)) => [wTop ad, wSt cy ad 1 u.1 u.2.1, wHb ad u.2.2.2.1, wKb cy ad u.2.2.1, wSt cy ad 20 (u.2.2.2.2.1 0) (u.2.2.2.2.2.1 0), wSt cy ad 27 (u.2.2.2.2.1 1) (u.2.2.2.2.2.1 1), wSt cy ad 34 (u.2.2.2.2.1 2) (u.2.2.2.2.2.1 2), wSt cy ad 41 (u.2.2.2.2.1 3) (u.2.2.2.2.2.1 3), wSt cy ad 48 (u.2.2.2.2.1 4) (u.2.2.2.2.2.1 4), wSt cy ad 55 (u.2.2.2.2.1 5) (u.2.2.2.2.2.1 5), wEn cy ad u.2.2.2.2.2.2.1 u.2.2.2.2.2.2.2.1 u.2.2.2.2.2.2.2.2]) (b2 := fun u => bX cy ad u) [0, 1, 4, 5, 6, 7, 8, 9, 10, 11, 3] rfl rfl rfl (fun _ => rfl) (fun _ => rfl) (fun r u hp => ?_)
  obtain ⟨z1, f1, nx1, ct1, Zh1, Fh1, en1, B1, K1⟩ := u
  dsimp only at hp
  rcases hp with ⟨_, hv, hR1, hH1, hk1⟩ | ⟨_, hno, _⟩
  · exact ⟨(z1, f1, zt, ft, en1, B1, K1, nx1, ct1, Zh1, Fh1, Zs, Fs, sv, tn, tf), ⟨hv, hR1, hM.look ho, hH1, push_le hh6, hXS, hXt, ht80, hk1⟩, rfl⟩
  · exact absurd hno ho
set_option maxHeartbeats 4000000 in
set_option maxRecDepth 100000 in
theorem x_look1 (l : Launch) (hfl : l.stackTraces = false) (D : va_G) (cy : Nat → ClassId) (ad : Nat → Nat) (M : MS) (h : List MS) (sl : Nat → Option MS) (tx : List Int32)  (ho : mOver M) : XNi l D cy ad yL_look wsL_look 7 132 1 [] (M, h, sl, tx) (iI 90001) (M, h, sl, tx) := by
  intro u J
  obtain ⟨z, f, zt, ft, en, B, Kf, nx, ct, Zh, Fh, Zs, Fs, sv, tn, tf⟩ := u
  obtain ⟨hR, hM, hH, hh6, hXS, hXt, ht80, hk⟩ := J
  dsimp only at hR hM hH hh6 hXS hXt ht80 hk
  refine Ni.bframe (c_L_look l hfl D cy ad z f M nx ct Zh Fh h en B Kf (hR) (hM) (hH) (hk)) (bs := [wTop ad, wSt cy ad 1 z f, wSt cy ad 8 zt ft, wEn cy ad en B Kf, wHb ad ct, wKb cy ad nx, wSt cy ad 20 (Zh 0) (Fh 0), wSt cy ad 27 (Zh 1) (Fh 1), wSt cy ad 34 (Zh 2) (Fh 2), wSt cy ad 41 (Zh 3) (Fh 3), wSt cy ad 48 (Zh 4) (Fh 4), wSt cy ad 55 (Zh 5) (Fh 5), wSa cy ad, wSt cy ad 63 (Zs 0) (Fs 0), wSt cy ad 70 (Zs 1) (Fs 1), wSv cy ad sv, wTx cy ad tn tf]) (cs := [wTop ad, wSt cy ad 1 z f, wHb ad ct, wKb cy ad nx, wSt cy ad 20 (Zh 0) (Fh 0), wSt cy ad 27 (Zh 1) (Fh 1), wSt cy ad 34 (Zh 2) (Fh 2), wSt cy ad 41 (Zh 3) (Fh 3), wSt cy ad 48 (Zh 4) (Fh 4), wSt cy ad 55 (Zh 5) (Fh 5), wEn cy ad en B Kf]) (nb := fun (u : (Nat → Int) × (Nat → Nat → Int32) × Int × Int × (Nat → Nat → Int) × (Nat → Nat → Nat → Int32) × Int × (Nat → Int) × (Nat → Int)) => [wTop ad, wSt cy ad 1 u.1 u.2.1, wHb ad u.2.2.2.1, wKb cy ad u.2.2.1, wSt cy ad 20 (u.2.2.2.2.1 0) (u.2.2.2.2.2.1 0), wSt cy ad 27 (u.2.2.2.2.1 1) (u.2.2.2.2.2.1 1), wSt cy ad 34 (u.2.2.2.2.1 2) (u.2.2.2.2.2.1 2), wSt cy ad 41 (u.2.2.2.2.1 3) (u.2.2.2.2.2.1 3), wSt cy ad 48 (u.2.2.2.2.1 4) (u.2.2.2.2.2.1 4), wSt cy ad 55 (u.2.2.2.2.1 5) (u.2.2.2.2.2.1 5), wEn cy ad u.2.2.2.2.2.2.1 u.2.2.2.2.2.2.2.1 u.2.2.2.2.2.2.2.2]) (b2 := fun u => bX cy ad u) [0, 1, 4, 5, 6, 7, 8, 9, 10, 11, 3] rfl rfl rfl (fun _ => rfl) (fun _ => rfl) (fun r u hp => ?_)
  obtain ⟨z1, f1, nx1, ct1, Zh1, Fh1, en1, B1, K1⟩ := u
  dsimp only at hp
  rcases hp with ⟨hno, _⟩ | ⟨hv, _, rfl, rfl, rfl, rfl, rfl, rfl, rfl, rfl, rfl⟩
  · exact absurd ho hno
  · first | exact ⟨(z1, f1, zt, ft, en1, B1, K1, nx1, ct1, Zh1, Fh1, Zs, Fs, sv, tn, tf), ⟨hv, hR, hM, hH, hh6, hXS, hXt, ht80, hk⟩, rfl⟩ | exact ⟨(z, f, zt, ft, en, B, Kf, nx, ct, Zh, Fh, Zs, Fs, sv, tn, tf), ⟨hv, hR, hM, hH, hh6, hXS, hXt, ht80, hk⟩, rfl⟩
set_option maxHeartbeats 4000000 in
set_option maxRecDepth 100000 in
theorem x_setLetter0 (l : Launch) (hfl : l.stackTraces = false) (D : va_G) (cy : Nat → ClassId) (ad : Nat → Nat) (M : MS) (h : List MS) (sl : Nat → Option MS) (tx : List Int32) (x : Int) (y : Int) (hx1 : -2147483648 ≤ x ∧ x < 2147483648) (hi : 0 ≤ x ∧ x < (M.1.length : Int)) (hy : 0 ≤ y ∧ y ≤ 25) : XNi l D cy ad yL_setLetter wsL_setLetter 8 136 2 [.int (iI x), .int (iI y)] (M, h, sl, tx) (gl M.1 x.toNat) (mSet M x.toNat (iI y), pushH h M, sl, tx) := by
  intro u J
  obtain ⟨z, f, zt, ft, en, B, Kf, nx, ct, Zh, Fh, Zs, Fs, sv, tn, tf⟩ := u
  obtain ⟨hR, hM, hH, hh6, hXS, hXt, ht80, hk⟩ := J
  dsimp only at hR hM hH hh6 hXS hXt ht80 hk
  refine Ni.bframe (c_L_setLetter l hfl D cy ad z f M nx ct Zh Fh h x y (hR) (hM) (hH) (by omega) (by omega)) (bs := [wTop ad, wSt cy ad 1 z f, wSt cy ad 8 zt ft, wEn cy ad en B Kf, wHb ad ct, wKb cy ad nx, wSt cy ad 20 (Zh 0) (Fh 0), wSt cy ad 27 (Zh 1) (Fh 1), wSt cy ad 34 (Zh 2) (Fh 2), wSt cy ad 41 (Zh 3) (Fh 3), wSt cy ad 48 (Zh 4) (Fh 4), wSt cy ad 55 (Zh 5) (Fh 5), wSa cy ad, wSt cy ad 63 (Zs 0) (Fs 0), wSt cy ad 70 (Zs 1) (Fs 1), wSv cy ad sv, wTx cy ad tn tf]) (cs := [wTop ad, wSt cy ad 1 z f, wHb ad ct, wKb cy ad nx, wSt cy ad 20 (Zh 0) (Fh 0), wSt cy ad 27 (Zh 1) (Fh 1), wSt cy ad 34 (Zh 2) (Fh 2), wSt cy ad 41 (Zh 3) (Fh 3), wSt cy ad 48 (Zh 4) (Fh 4), wSt cy ad 55 (Zh 5) (Fh 5)]) (nb := fun (u : (Nat → Int) × (Nat → Nat → Int32) × Int × Int × (Nat → Nat → Int) × (Nat → Nat → Nat → Int32)) => [wTop ad, wSt cy ad 1 u.1 u.2.1, wHb ad u.2.2.2.1, wKb cy ad u.2.2.1, wSt cy ad 20 (u.2.2.2.2.1 0) (u.2.2.2.2.2 0), wSt cy ad 27 (u.2.2.2.2.1 1) (u.2.2.2.2.2 1), wSt cy ad 34 (u.2.2.2.2.1 2) (u.2.2.2.2.2 2), wSt cy ad 41 (u.2.2.2.2.1 3) (u.2.2.2.2.2 3), wSt cy ad 48 (u.2.2.2.2.1 4) (u.2.2.2.2.2 4), wSt cy ad 55 (u.2.2.2.2.1 5) (u.2.2.2.2.2 5)]) (b2 := fun u => bX cy ad u) [0, 1, 4, 5, 6, 7, 8, 9, 10, 11] rfl rfl rfl (fun _ => rfl) (fun _ => rfl) (fun r u hp => ?_)
  obtain ⟨z1, f1, nx1, ct1, Zh1, Fh1⟩ := u
  dsimp only at hp
  rcases hp with ⟨_, _, hv, hR1, hH1⟩ | ⟨_, hno, _⟩ | ⟨_, ⟨_, hno⟩, _⟩
  · exact ⟨(z1, f1, zt, ft, en, B, Kf, nx1, ct1, Zh1, Fh1, Zs, Fs, sv, tn, tf), ⟨hv, hR1, hM.set, hH1, push_le hh6, hXS, hXt, ht80, hk⟩, rfl⟩
  · exact absurd hi hno
  · exact absurd hy hno
set_option maxHeartbeats 4000000 in
set_option maxRecDepth 100000 in
theorem x_setLetter1 (l : Launch) (hfl : l.stackTraces = false) (D : va_G) (cy : Nat → ClassId) (ad : Nat → Nat) (M : MS) (h : List MS) (sl : Nat → Option MS) (tx : List Int32) (x : Int) (y : Int) (hx1 : -2147483648 ≤ x ∧ x < 2147483648) (hi : ¬ (0 ≤ x ∧ x < (M.1.length : Int))) (hy : 0 ≤ y ∧ y ≤ 25) : XNi l D cy ad yL_setLetter wsL_setLetter 8 136 2 [.int (iI x), .int (iI y)] (M, h, sl, tx) (iI 90001) (M, h, sl, tx) := by
  intro u J
  obtain ⟨z, f, zt, ft, en, B, Kf, nx, ct, Zh, Fh, Zs, Fs, sv, tn, tf⟩ := u
  obtain ⟨hR, hM, hH, hh6, hXS, hXt, ht80, hk⟩ := J
  dsimp only at hR hM hH hh6 hXS hXt ht80 hk
  refine Ni.bframe (c_L_setLetter l hfl D cy ad z f M nx ct Zh Fh h x y (hR) (hM) (hH) (by omega) (by omega)) (bs := [wTop ad, wSt cy ad 1 z f, wSt cy ad 8 zt ft, wEn cy ad en B Kf, wHb ad ct, wKb cy ad nx, wSt cy ad 20 (Zh 0) (Fh 0), wSt cy ad 27 (Zh 1) (Fh 1), wSt cy ad 34 (Zh 2) (Fh 2), wSt cy ad 41 (Zh 3) (Fh 3), wSt cy ad 48 (Zh 4) (Fh 4), wSt cy ad 55 (Zh 5) (Fh 5), wSa cy ad, wSt cy ad 63 (Zs 0) (Fs 0), wSt cy ad 70 (Zs 1) (Fs 1), wSv cy ad sv, wTx cy ad tn tf]) (cs := [wTop ad, wSt cy ad 1 z f, wHb ad ct, wKb cy ad nx, wSt cy ad 20 (Zh 0) (Fh 0), wSt cy ad 27 (Zh 1) (Fh 1), wSt cy ad 34 (Zh 2) (Fh 2), wSt cy ad 41 (Zh 3) (Fh 3), wSt cy ad 48 (Zh 4) (Fh 4), wSt cy ad 55 (Zh 5) (Fh 5)]) (nb := fun (u : (Nat → Int) × (Nat → Nat → Int32) × Int × Int × (Nat → Nat → Int) × (Nat → Nat → Nat → Int32)) => [wTop ad, wSt cy ad 1 u.1 u.2.1, wHb ad u.2.2.2.1, wKb cy ad u.2.2.1, wSt cy ad 20 (u.2.2.2.2.1 0) (u.2.2.2.2.2 0), wSt cy ad 27 (u.2.2.2.2.1 1) (u.2.2.2.2.2 1), wSt cy ad 34 (u.2.2.2.2.1 2) (u.2.2.2.2.2 2), wSt cy ad 41 (u.2.2.2.2.1 3) (u.2.2.2.2.2 3), wSt cy ad 48 (u.2.2.2.2.1 4) (u.2.2.2.2.2 4), wSt cy ad 55 (u.2.2.2.2.1 5) (u.2.2.2.2.2 5)]) (b2 := fun u => bX cy ad u) [0, 1, 4, 5, 6, 7, 8, 9, 10, 11] rfl rfl rfl (fun _ => rfl) (fun _ => rfl) (fun r u hp => ?_)
  obtain ⟨z1, f1, nx1, ct1, Zh1, Fh1⟩ := u
  dsimp only at hp
  rcases hp with ⟨hno, _⟩ | ⟨hv, _, rfl, rfl, rfl, rfl, rfl, rfl⟩ | ⟨_, ⟨hno, _⟩, _⟩
  · exact absurd hno hi
  · first | exact ⟨(z1, f1, zt, ft, en, B, Kf, nx1, ct1, Zh1, Fh1, Zs, Fs, sv, tn, tf), ⟨hv, hR, hM, hH, hh6, hXS, hXt, ht80, hk⟩, rfl⟩ | exact ⟨(z, f, zt, ft, en, B, Kf, nx, ct, Zh, Fh, Zs, Fs, sv, tn, tf), ⟨hv, hR, hM, hH, hh6, hXS, hXt, ht80, hk⟩, rfl⟩
  · exact absurd hno hi
set_option maxHeartbeats 4000000 in
set_option maxRecDepth 100000 in
theorem x_lineLetter (l : Launch) (hfl : l.stackTraces = false) (D : va_G) (cy : Nat → ClassId) (ad : Nat → Nat) (M : MS) (h : List MS) (sl : Nat → Option MS) (tx : List Int32) (x : Int) (hx1 : -2147483648 ≤ x ∧ x < 2147483648) (hi : 0 ≤ x ∧ x < (M.1.length : Int)) : XNi l D cy ad yL_lineLetter wsL_lineLetter 8 134 1 [.int (iI x)] (M, h, sl, tx) (gl M.1 x.toNat) (M, h, sl, tx) := by
  intro u J
  obtain ⟨z, f, zt, ft, en, B, Kf, nx, ct, Zh, Fh, Zs, Fs, sv, tn, tf⟩ := u
  obtain ⟨hR, hM, hH, hh6, hXS, hXt, ht80, hk⟩ := J
  dsimp only at hR hM hH hh6 hXS hXt ht80 hk
  refine Ni.bframe (c_L_lineLetter l hfl D cy ad z f M x (hR) (hM) (by omega)) (bs := [wTop ad, wSt cy ad 1 z f, wSt cy ad 8 zt ft, wEn cy ad en B Kf, wHb ad ct, wKb cy ad nx, wSt cy ad 20 (Zh 0) (Fh 0), wSt cy ad 27 (Zh 1) (Fh 1), wSt cy ad 34 (Zh 2) (Fh 2), wSt cy ad 41 (Zh 3) (Fh 3), wSt cy ad 48 (Zh 4) (Fh 4), wSt cy ad 55 (Zh 5) (Fh 5), wSa cy ad, wSt cy ad 63 (Zs 0) (Fs 0), wSt cy ad 70 (Zs 1) (Fs 1), wSv cy ad sv, wTx cy ad tn tf]) (cs := [wTop ad, wSt cy ad 1 z f]) (nb := fun (u : Unit) => [wTop ad, wSt cy ad 1 z f]) (b2 := fun u => bX cy ad u) [0, 1] rfl rfl rfl (fun _ => rfl) (fun _ => rfl) (fun r u hp => ?_)
  rcases hp with ⟨_, hv⟩ | ⟨_, hno⟩
  · exact ⟨(z, f, zt, ft, en, B, Kf, nx, ct, Zh, Fh, Zs, Fs, sv, tn, tf), ⟨hv, hR, hM, hH, hh6, hXS, hXt, ht80, hk⟩, rfl⟩
  · exact absurd hi hno
set_option maxHeartbeats 4000000 in
set_option maxRecDepth 100000 in
theorem x_wordLetter (l : Launch) (hfl : l.stackTraces = false) (D : va_G) (cy : Nat → ClassId) (ad : Nat → Nat) (M : MS) (h : List MS) (sl : Nat → Option MS) (tx : List Int32) (x : Int) (hx1 : -2147483648 ≤ x ∧ x < 2147483648) (hi : 0 ≤ x ∧ x < (M.2.1.length : Int)) : XNi l D cy ad yL_wordLetter wsL_wordLetter 8 134 1 [.int (iI x)] (M, h, sl, tx) (gl M.2.1 x.toNat) (M, h, sl, tx) := by
  intro u J
  obtain ⟨z, f, zt, ft, en, B, Kf, nx, ct, Zh, Fh, Zs, Fs, sv, tn, tf⟩ := u
  obtain ⟨hR, hM, hH, hh6, hXS, hXt, ht80, hk⟩ := J
  dsimp only at hR hM hH hh6 hXS hXt ht80 hk
  refine Ni.bframe (c_L_wordLetter l hfl D cy ad z f M x (hR) (hM) (by omega)) (bs := [wTop ad, wSt cy ad 1 z f, wSt cy ad 8 zt ft, wEn cy ad en B Kf, wHb ad ct, wKb cy ad nx, wSt cy ad 20 (Zh 0) (Fh 0), wSt cy ad 27 (Zh 1) (Fh 1), wSt cy ad 34 (Zh 2) (Fh 2), wSt cy ad 41 (Zh 3) (Fh 3), wSt cy ad 48 (Zh 4) (Fh 4), wSt cy ad 55 (Zh 5) (Fh 5), wSa cy ad, wSt cy ad 63 (Zs 0) (Fs 0), wSt cy ad 70 (Zs 1) (Fs 1), wSv cy ad sv, wTx cy ad tn tf]) (cs := [wTop ad, wSt cy ad 1 z f]) (nb := fun (u : Unit) => [wTop ad, wSt cy ad 1 z f]) (b2 := fun u => bX cy ad u) [0, 1] rfl rfl rfl (fun _ => rfl) (fun _ => rfl) (fun r u hp => ?_)
  rcases hp with ⟨_, hv⟩ | ⟨_, hno⟩
  · exact ⟨(z, f, zt, ft, en, B, Kf, nx, ct, Zh, Fh, Zs, Fs, sv, tn, tf), ⟨hv, hR, hM, hH, hh6, hXS, hXt, ht80, hk⟩, rfl⟩
  · exact absurd hi hno
set_option maxHeartbeats 4000000 in
set_option maxRecDepth 100000 in
theorem x_found0 (l : Launch) (hfl : l.stackTraces = false) (D : va_G) (cy : Nat → ClassId) (ad : Nat → Nat) (M : MS) (h : List MS) (sl : Nat → Option MS) (tx : List Int32) (x : Int) (hx1 : -2147483648 ≤ x ∧ x < 2147483648) (hi : 0 ≤ x ∧ x < (M.2.2.1.length : Int)) : XNi l D cy ad yL_found wsL_found 8 134 1 [.int (iI x)] (M, h, sl, tx) (gl M.2.2.1 x.toNat) (M, h, sl, tx) := by
  intro u J
  obtain ⟨z, f, zt, ft, en, B, Kf, nx, ct, Zh, Fh, Zs, Fs, sv, tn, tf⟩ := u
  obtain ⟨hR, hM, hH, hh6, hXS, hXt, ht80, hk⟩ := J
  dsimp only at hR hM hH hh6 hXS hXt ht80 hk
  refine Ni.bframe (c_L_found l hfl D cy ad z f M x (hR) (hM) (by omega)) (bs := [wTop ad, wSt cy ad 1 z f, wSt cy ad 8 zt ft, wEn cy ad en B Kf, wHb ad ct, wKb cy ad nx, wSt cy ad 20 (Zh 0) (Fh 0), wSt cy ad 27 (Zh 1) (Fh 1), wSt cy ad 34 (Zh 2) (Fh 2), wSt cy ad 41 (Zh 3) (Fh 3), wSt cy ad 48 (Zh 4) (Fh 4), wSt cy ad 55 (Zh 5) (Fh 5), wSa cy ad, wSt cy ad 63 (Zs 0) (Fs 0), wSt cy ad 70 (Zs 1) (Fs 1), wSv cy ad sv, wTx cy ad tn tf]) (cs := [wTop ad, wSt cy ad 1 z f]) (nb := fun (u : Unit) => [wTop ad, wSt cy ad 1 z f]) (b2 := fun u => bX cy ad u) [0, 1] rfl rfl rfl (fun _ => rfl) (fun _ => rfl) (fun r u hp => ?_)
  rcases hp with ⟨_, hv⟩ | ⟨_, hno⟩
  · exact ⟨(z, f, zt, ft, en, B, Kf, nx, ct, Zh, Fh, Zs, Fs, sv, tn, tf), ⟨hv, hR, hM, hH, hh6, hXS, hXt, ht80, hk⟩, rfl⟩
  · exact absurd hi hno
set_option maxHeartbeats 4000000 in
set_option maxRecDepth 100000 in
theorem x_found1 (l : Launch) (hfl : l.stackTraces = false) (D : va_G) (cy : Nat → ClassId) (ad : Nat → Nat) (M : MS) (h : List MS) (sl : Nat → Option MS) (tx : List Int32) (x : Int) (hx1 : -2147483648 ≤ x ∧ x < 2147483648) (hi : ¬ (0 ≤ x ∧ x < (M.2.2.1.length : Int))) : XNi l D cy ad yL_found wsL_found 8 134 1 [.int (iI x)] (M, h, sl, tx) (iI 90001) (M, h, sl, tx) := by
  intro u J
  obtain ⟨z, f, zt, ft, en, B, Kf, nx, ct, Zh, Fh, Zs, Fs, sv, tn, tf⟩ := u
  obtain ⟨hR, hM, hH, hh6, hXS, hXt, ht80, hk⟩ := J
  dsimp only at hR hM hH hh6 hXS hXt ht80 hk
  refine Ni.bframe (c_L_found l hfl D cy ad z f M x (hR) (hM) (by omega)) (bs := [wTop ad, wSt cy ad 1 z f, wSt cy ad 8 zt ft, wEn cy ad en B Kf, wHb ad ct, wKb cy ad nx, wSt cy ad 20 (Zh 0) (Fh 0), wSt cy ad 27 (Zh 1) (Fh 1), wSt cy ad 34 (Zh 2) (Fh 2), wSt cy ad 41 (Zh 3) (Fh 3), wSt cy ad 48 (Zh 4) (Fh 4), wSt cy ad 55 (Zh 5) (Fh 5), wSa cy ad, wSt cy ad 63 (Zs 0) (Fs 0), wSt cy ad 70 (Zs 1) (Fs 1), wSv cy ad sv, wTx cy ad tn tf]) (cs := [wTop ad, wSt cy ad 1 z f]) (nb := fun (u : Unit) => [wTop ad, wSt cy ad 1 z f]) (b2 := fun u => bX cy ad u) [0, 1] rfl rfl rfl (fun _ => rfl) (fun _ => rfl) (fun r u hp => ?_)
  rcases hp with ⟨hno, _⟩ | ⟨hv, _⟩
  · exact absurd hno hi
  · exact ⟨(z, f, zt, ft, en, B, Kf, nx, ct, Zh, Fh, Zs, Fs, sv, tn, tf), ⟨hv, hR, hM, hH, hh6, hXS, hXt, ht80, hk⟩, rfl⟩
set_option maxHeartbeats 4000000 in
set_option maxRecDepth 100000 in
theorem x_last (l : Launch) (hfl : l.stackTraces = false) (D : va_G) (cy : Nat → ClassId) (ad : Nat → Nat) (M : MS) (h : List MS) (sl : Nat → Option MS) (tx : List Int32) (x : Int) (hi : 0 ≤ x ∧ x ≤ 25) : XNi l D cy ad yL_last wsL_last 8 133 1 [.int (iI x)] (M, h, sl, tx) (iI (lastF M.2.1.length (gl M.2.1) (iI x))) (M, h, sl, tx) := by
  intro u J
  obtain ⟨z, f, zt, ft, en, B, Kf, nx, ct, Zh, Fh, Zs, Fs, sv, tn, tf⟩ := u
  obtain ⟨hR, hM, hH, hh6, hXS, hXt, ht80, hk⟩ := J
  dsimp only at hR hM hH hh6 hXS hXt ht80 hk
  refine Ni.bframe (c_L_last l hfl D cy ad z f M x (hR) (hM) (by omega)) (bs := [wTop ad, wSt cy ad 1 z f, wSt cy ad 8 zt ft, wEn cy ad en B Kf, wHb ad ct, wKb cy ad nx, wSt cy ad 20 (Zh 0) (Fh 0), wSt cy ad 27 (Zh 1) (Fh 1), wSt cy ad 34 (Zh 2) (Fh 2), wSt cy ad 41 (Zh 3) (Fh 3), wSt cy ad 48 (Zh 4) (Fh 4), wSt cy ad 55 (Zh 5) (Fh 5), wSa cy ad, wSt cy ad 63 (Zs 0) (Fs 0), wSt cy ad 70 (Zs 1) (Fs 1), wSv cy ad sv, wTx cy ad tn tf]) (cs := [wTop ad, wSt cy ad 1 z f]) (nb := fun (u : Unit) => [wTop ad, wSt cy ad 1 z f]) (b2 := fun u => bX cy ad u) [0, 1] rfl rfl rfl (fun _ => rfl) (fun _ => rfl) (fun r u hp => ?_)
  rcases hp with ⟨_, hv⟩ | ⟨_, hno⟩
  · exact ⟨(z, f, zt, ft, en, B, Kf, nx, ct, Zh, Fh, Zs, Fs, sv, tn, tf), ⟨hv, hR, hM, hH, hh6, hXS, hXt, ht80, hk⟩, rfl⟩
  · exact absurd hi hno
set_option maxHeartbeats 4000000 in
set_option maxRecDepth 100000 in
theorem x_letterSkip (l : Launch) (hfl : l.stackTraces = false) (D : va_G) (cy : Nat → ClassId) (ad : Nat → Nat) (M : MS) (h : List MS) (sl : Nat → Option MS) (tx : List Int32) (x : Int) (y : Int) (hx1 : -2147483648 ≤ x ∧ x < 2147483648) (hi : 0 ≤ x ∧ x < (M.2.1.length : Int)) (hy : 0 ≤ y ∧ y ≤ 25) : XNi l D cy ad yL_letterSkip wsL_letterSkip 8 135 2 [.int (iI x), .int (iI y)] (M, h, sl, tx) (iI (x - lastF M.2.1.length (gl M.2.1) (iI y))) (M, h, sl, tx) := by
  intro u J
  obtain ⟨z, f, zt, ft, en, B, Kf, nx, ct, Zh, Fh, Zs, Fs, sv, tn, tf⟩ := u
  obtain ⟨hR, hM, hH, hh6, hXS, hXt, ht80, hk⟩ := J
  dsimp only at hR hM hH hh6 hXS hXt ht80 hk
  refine Ni.bframe (c_L_letterSkip l hfl D cy ad z f M x y (hR) (hM) (by omega) (by omega)) (bs := [wTop ad, wSt cy ad 1 z f, wSt cy ad 8 zt ft, wEn cy ad en B Kf, wHb ad ct, wKb cy ad nx, wSt cy ad 20 (Zh 0) (Fh 0), wSt cy ad 27 (Zh 1) (Fh 1), wSt cy ad 34 (Zh 2) (Fh 2), wSt cy ad 41 (Zh 3) (Fh 3), wSt cy ad 48 (Zh 4) (Fh 4), wSt cy ad 55 (Zh 5) (Fh 5), wSa cy ad, wSt cy ad 63 (Zs 0) (Fs 0), wSt cy ad 70 (Zs 1) (Fs 1), wSv cy ad sv, wTx cy ad tn tf]) (cs := [wTop ad, wSt cy ad 1 z f]) (nb := fun (u : Unit) => [wTop ad, wSt cy ad 1 z f]) (b2 := fun u => bX cy ad u) [0, 1] rfl rfl rfl (fun _ => rfl) (fun _ => rfl) (fun r u hp => ?_)
  rcases hp with ⟨_, _, hv⟩ | ⟨_, hno⟩ | ⟨_, _, hno⟩
  · exact ⟨(z, f, zt, ft, en, B, Kf, nx, ct, Zh, Fh, Zs, Fs, sv, tn, tf), ⟨hv, hR, hM, hH, hh6, hXS, hXt, ht80, hk⟩, rfl⟩
  · exact absurd hi hno
  · exact absurd hy hno
set_option maxHeartbeats 4000000 in
set_option maxRecDepth 100000 in
theorem x_endSkip (l : Launch) (hfl : l.stackTraces = false) (D : va_G) (cy : Nat → ClassId) (ad : Nat → Nat) (M : MS) (h : List MS) (sl : Nat → Option MS) (tx : List Int32) (x : Int) (hx1 : -2147483648 ≤ x ∧ x < 2147483648) (hi : 0 ≤ x ∧ x < (M.2.1.length : Int)) : XNi l D cy ad yL_endSkip wsL_endSkip 8 134 1 [.int (iI x)] (M, h, sl, tx) (iI (endF M.2.1.length (gl M.2.1) x.toNat : Int)) (M, h, sl, tx) := by
  intro u J
  obtain ⟨z, f, zt, ft, en, B, Kf, nx, ct, Zh, Fh, Zs, Fs, sv, tn, tf⟩ := u
  obtain ⟨hR, hM, hH, hh6, hXS, hXt, ht80, hk⟩ := J
  dsimp only at hR hM hH hh6 hXS hXt ht80 hk
  refine Ni.bframe (c_L_endSkip l hfl D cy ad z f M en B Kf x (hR) (hM) (hk) (by omega)) (bs := [wTop ad, wSt cy ad 1 z f, wSt cy ad 8 zt ft, wEn cy ad en B Kf, wHb ad ct, wKb cy ad nx, wSt cy ad 20 (Zh 0) (Fh 0), wSt cy ad 27 (Zh 1) (Fh 1), wSt cy ad 34 (Zh 2) (Fh 2), wSt cy ad 41 (Zh 3) (Fh 3), wSt cy ad 48 (Zh 4) (Fh 4), wSt cy ad 55 (Zh 5) (Fh 5), wSa cy ad, wSt cy ad 63 (Zs 0) (Fs 0), wSt cy ad 70 (Zs 1) (Fs 1), wSv cy ad sv, wTx cy ad tn tf]) (cs := [wTop ad, wSt cy ad 1 z f, wEn cy ad en B Kf]) (nb := fun (u : Int × (Nat → Int) × (Nat → Int)) => [wTop ad, wSt cy ad 1 z f, wEn cy ad u.1 u.2.1 u.2.2]) (b2 := fun u => bX cy ad u) [0, 1, 3] rfl rfl rfl (fun _ => rfl) (fun _ => rfl) (fun r u hp => ?_)
  obtain ⟨en1, B1, K1⟩ := u
  dsimp only at hp
  rcases hp with ⟨⟨_, hv⟩, hk1⟩ | ⟨_, hno, _⟩
  · exact ⟨(z, f, zt, ft, en1, B1, K1, nx, ct, Zh, Fh, Zs, Fs, sv, tn, tf), ⟨hv, hR, hM, hH, hh6, hXS, hXt, ht80, hk1⟩, rfl⟩
  · exact absurd hi hno
set_option maxHeartbeats 4000000 in
set_option maxRecDepth 100000 in
theorem x_endTried (l : Launch) (hfl : l.stackTraces = false) (D : va_G) (cy : Nat → ClassId) (ad : Nat → Nat) (M : MS) (h : List MS) (sl : Nat → Option MS) (tx : List Int32) (x : Int) (hx1 : -2147483648 ≤ x ∧ x < 2147483648) (hi : 0 ≤ x ∧ x < (M.2.1.length : Int)) : XNi l D cy ad yL_endTried wsL_endTried 8 136 1 [.int (iI x)] (M, h, sl, tx) (iI (endF M.2.1.length (gl M.2.1) x.toNat : Int)) (M, h, sl, tx) := by
  intro u J
  obtain ⟨z, f, zt, ft, en, B, Kf, nx, ct, Zh, Fh, Zs, Fs, sv, tn, tf⟩ := u
  obtain ⟨hR, hM, hH, hh6, hXS, hXt, ht80, hk⟩ := J
  dsimp only at hR hM hH hh6 hXS hXt ht80 hk
  refine Ni.bframe (c_L_endTried l hfl D cy ad z f M x (hR) (hM) (by omega)) (bs := [wTop ad, wSt cy ad 1 z f, wSt cy ad 8 zt ft, wEn cy ad en B Kf, wHb ad ct, wKb cy ad nx, wSt cy ad 20 (Zh 0) (Fh 0), wSt cy ad 27 (Zh 1) (Fh 1), wSt cy ad 34 (Zh 2) (Fh 2), wSt cy ad 41 (Zh 3) (Fh 3), wSt cy ad 48 (Zh 4) (Fh 4), wSt cy ad 55 (Zh 5) (Fh 5), wSa cy ad, wSt cy ad 63 (Zs 0) (Fs 0), wSt cy ad 70 (Zs 1) (Fs 1), wSv cy ad sv, wTx cy ad tn tf]) (cs := [wTop ad, wSt cy ad 1 z f]) (nb := fun (u : Unit) => [wTop ad, wSt cy ad 1 z f]) (b2 := fun u => bX cy ad u) [0, 1] rfl rfl rfl (fun _ => rfl) (fun _ => rfl) (fun r u hp => ?_)
  rcases hp with ⟨_, hv⟩ | ⟨_, hno⟩
  · exact ⟨(z, f, zt, ft, en, B, Kf, nx, ct, Zh, Fh, Zs, Fs, sv, tn, tf), ⟨hv, hR, hM, hH, hh6, hXS, hXt, ht80, hk⟩, rfl⟩
  · exact absurd hi hno
set_option maxHeartbeats 4000000 in
set_option maxRecDepth 100000 in
theorem x_diff0 (l : Launch) (hfl : l.stackTraces = false) (D : va_G) (cy : Nat → ClassId) (ad : Nat → Nat) (M : MS) (h : List MS) (sl : Nat → Option MS) (tx : List Int32) (x : Int) (hx1 : -2147483648 ≤ x ∧ x < 2147483648) (hi : 0 ≤ x ∧ x + (M.2.1.length : Int) ≤ (M.1.length : Int)) (hm : ¬ (M.2.1.length : Int) = 0) : XNi l D cy ad yL_difference wsL_difference 7 113 1 [.int (iI x)] (M, h, sl, tx) (iI (mD M x)) (M, h, sl, tx) := by
  intro u J
  obtain ⟨z, f, zt, ft, en, B, Kf, nx, ct, Zh, Fh, Zs, Fs, sv, tn, tf⟩ := u
  obtain ⟨hR, hM, hH, hh6, hXS, hXt, ht80, hk⟩ := J
  dsimp only at hR hM hH hh6 hXS hXt ht80 hk
  refine Ni.bframe (c_L_difference l hfl D cy ad z f M x (hR) (hM) (by omega)) (bs := [wTop ad, wSt cy ad 1 z f, wSt cy ad 8 zt ft, wEn cy ad en B Kf, wHb ad ct, wKb cy ad nx, wSt cy ad 20 (Zh 0) (Fh 0), wSt cy ad 27 (Zh 1) (Fh 1), wSt cy ad 34 (Zh 2) (Fh 2), wSt cy ad 41 (Zh 3) (Fh 3), wSt cy ad 48 (Zh 4) (Fh 4), wSt cy ad 55 (Zh 5) (Fh 5), wSa cy ad, wSt cy ad 63 (Zs 0) (Fs 0), wSt cy ad 70 (Zs 1) (Fs 1), wSv cy ad sv, wTx cy ad tn tf]) (cs := [wTop ad, wSt cy ad 1 z f]) (nb := fun (u : Unit) => [wTop ad, wSt cy ad 1 z f]) (b2 := fun u => bX cy ad u) [0, 1] rfl rfl rfl (fun _ => rfl) (fun _ => rfl) (fun r u hp => ?_)
  rcases hp with ⟨_, _, hv⟩ | ⟨_, hno⟩ | ⟨_, _, hno⟩
  · exact ⟨(z, f, zt, ft, en, B, Kf, nx, ct, Zh, Fh, Zs, Fs, sv, tn, tf), ⟨hv, hR, hM, hH, hh6, hXS, hXt, ht80, hk⟩, rfl⟩
  · exfalso; omega
  · exact absurd hno hm
set_option maxHeartbeats 4000000 in
set_option maxRecDepth 100000 in
theorem x_diff1 (l : Launch) (hfl : l.stackTraces = false) (D : va_G) (cy : Nat → ClassId) (ad : Nat → Nat) (M : MS) (h : List MS) (sl : Nat → Option MS) (tx : List Int32) (x : Int) (hx1 : -2147483648 ≤ x ∧ x < 2147483648) (hi : ¬ (0 ≤ x ∧ x + (M.2.1.length : Int) ≤ (M.1.length : Int))) : XNi l D cy ad yL_difference wsL_difference 7 113 1 [.int (iI x)] (M, h, sl, tx) (iI 90001) (M, h, sl, tx) := by
  intro u J
  obtain ⟨z, f, zt, ft, en, B, Kf, nx, ct, Zh, Fh, Zs, Fs, sv, tn, tf⟩ := u
  obtain ⟨hR, hM, hH, hh6, hXS, hXt, ht80, hk⟩ := J
  dsimp only at hR hM hH hh6 hXS hXt ht80 hk
  refine Ni.bframe (c_L_difference l hfl D cy ad z f M x (hR) (hM) (by omega)) (bs := [wTop ad, wSt cy ad 1 z f, wSt cy ad 8 zt ft, wEn cy ad en B Kf, wHb ad ct, wKb cy ad nx, wSt cy ad 20 (Zh 0) (Fh 0), wSt cy ad 27 (Zh 1) (Fh 1), wSt cy ad 34 (Zh 2) (Fh 2), wSt cy ad 41 (Zh 3) (Fh 3), wSt cy ad 48 (Zh 4) (Fh 4), wSt cy ad 55 (Zh 5) (Fh 5), wSa cy ad, wSt cy ad 63 (Zs 0) (Fs 0), wSt cy ad 70 (Zs 1) (Fs 1), wSv cy ad sv, wTx cy ad tn tf]) (cs := [wTop ad, wSt cy ad 1 z f]) (nb := fun (u : Unit) => [wTop ad, wSt cy ad 1 z f]) (b2 := fun u => bX cy ad u) [0, 1] rfl rfl rfl (fun _ => rfl) (fun _ => rfl) (fun r u hp => ?_)
  rcases hp with ⟨hno, _⟩ | ⟨hv, _⟩ | ⟨_, hno, _⟩
  · exact absurd hno hi
  · exact ⟨(z, f, zt, ft, en, B, Kf, nx, ct, Zh, Fh, Zs, Fs, sv, tn, tf), ⟨hv, hR, hM, hH, hh6, hXS, hXt, ht80, hk⟩, rfl⟩
  · exfalso; omega
set_option maxHeartbeats 4000000 in
set_option maxRecDepth 100000 in
theorem x_diff2 (l : Launch) (hfl : l.stackTraces = false) (D : va_G) (cy : Nat → ClassId) (ad : Nat → Nat) (M : MS) (h : List MS) (sl : Nat → Option MS) (tx : List Int32) (x : Int) (hx1 : -2147483648 ≤ x ∧ x < 2147483648) (hi : 0 ≤ x ∧ x + (M.2.1.length : Int) ≤ (M.1.length : Int)) (hm : (M.2.1.length : Int) = 0) : XNi l D cy ad yL_difference wsL_difference 7 113 1 [.int (iI x)] (M, h, sl, tx) (iI 90002) (M, h, sl, tx) := by
  intro u J
  obtain ⟨z, f, zt, ft, en, B, Kf, nx, ct, Zh, Fh, Zs, Fs, sv, tn, tf⟩ := u
  obtain ⟨hR, hM, hH, hh6, hXS, hXt, ht80, hk⟩ := J
  dsimp only at hR hM hH hh6 hXS hXt ht80 hk
  refine Ni.bframe (c_L_difference l hfl D cy ad z f M x (hR) (hM) (by omega)) (bs := [wTop ad, wSt cy ad 1 z f, wSt cy ad 8 zt ft, wEn cy ad en B Kf, wHb ad ct, wKb cy ad nx, wSt cy ad 20 (Zh 0) (Fh 0), wSt cy ad 27 (Zh 1) (Fh 1), wSt cy ad 34 (Zh 2) (Fh 2), wSt cy ad 41 (Zh 3) (Fh 3), wSt cy ad 48 (Zh 4) (Fh 4), wSt cy ad 55 (Zh 5) (Fh 5), wSa cy ad, wSt cy ad 63 (Zs 0) (Fs 0), wSt cy ad 70 (Zs 1) (Fs 1), wSv cy ad sv, wTx cy ad tn tf]) (cs := [wTop ad, wSt cy ad 1 z f]) (nb := fun (u : Unit) => [wTop ad, wSt cy ad 1 z f]) (b2 := fun u => bX cy ad u) [0, 1] rfl rfl rfl (fun _ => rfl) (fun _ => rfl) (fun r u hp => ?_)
  rcases hp with ⟨_, hno, _⟩ | ⟨_, hno⟩ | ⟨hv, _⟩
  · exact absurd hm hno
  · exfalso; omega
  · exact ⟨(z, f, zt, ft, en, B, Kf, nx, ct, Zh, Fh, Zs, Fs, sv, tn, tf), ⟨hv, hR, hM, hH, hh6, hXS, hXt, ht80, hk⟩, rfl⟩
set_option maxHeartbeats 4000000 in
set_option maxRecDepth 100000 in
theorem x_append (l : Launch) (hfl : l.stackTraces = false) (D : va_G) (cy : Nat → ClassId) (ad : Nat → Nat) (M : MS) (h : List MS) (sl : Nat → Option MS) (tx : List Int32) (c9 : Int) (hc : 97 ≤ c9 ∧ c9 ≤ 122) (hn : tx.length < 80) : XNi l D cy ad yL_append wsL_append 7 116 1 [.long (lI c9)] (M, h, sl, tx) (iI ((tx.length : Int) + 1)) (M, h, sl, tx ++ [iI c9]) := by
  intro u J
  obtain ⟨z, f, zt, ft, en, B, Kf, nx, ct, Zh, Fh, Zs, Fs, sv, tn, tf⟩ := u
  obtain ⟨hR, hM, hH, hh6, hXS, hXt, ht80, hk⟩ := J
  dsimp only at hR hM hH hh6 hXS hXt ht80 hk
  have h1 := one_ok hc
  refine Ni.bframe (c_L_append l hfl D cy ad tn tf tx (lI c9) (⟨hXt, ht80⟩)) (bs := [wTop ad, wSt cy ad 1 z f, wSt cy ad 8 zt ft, wEn cy ad en B Kf, wHb ad ct, wKb cy ad nx, wSt cy ad 20 (Zh 0) (Fh 0), wSt cy ad 27 (Zh 1) (Fh 1), wSt cy ad 34 (Zh 2) (Fh 2), wSt cy ad 41 (Zh 3) (Fh 3), wSt cy ad 48 (Zh 4) (Fh 4), wSt cy ad 55 (Zh 5) (Fh 5), wSa cy ad, wSt cy ad 63 (Zs 0) (Fs 0), wSt cy ad 70 (Zs 1) (Fs 1), wSv cy ad sv, wTx cy ad tn tf]) (cs := [wTop ad, wTx cy ad tn tf]) (nb := fun (u : Int × (Nat → Int32)) => [wTop ad, wTx cy ad u.1 u.2]) (b2 := fun u => bX cy ad u) [0, 16] rfl rfl rfl (fun _ => rfl) (fun _ => rfl) (fun r u hp => ?_)
  obtain ⟨tn1, tf1⟩ := u
  dsimp only at hp
  rcases hp with ⟨n, n1, n2, n3, hv, hX1⟩ | ⟨_, hno, _⟩ | ⟨_, ⟨n, n1, n2, n3⟩, _⟩
  · obtain rfl := h1.1.uniq n2
    rw [h1.2] at hX1
    exact ⟨(z, f, zt, ft, en, B, Kf, nx, ct, Zh, Fh, Zs, Fs, sv, tn1, tf1), ⟨(hv.trans rfl), hR, hM, hH, hh6, hXS, hX1, (show (tx ++ [iI c9]).length ≤ 80 from by rw [List.length_append, List.length_singleton]; omega), hk⟩, rfl⟩
  · exact absurd ⟨1, Nat.le_refl _, h1.1⟩ hno
  · have := h1.1.uniq n2; omega
set_option maxHeartbeats 4000000 in
set_option maxRecDepth 100000 in
theorem x_undo0 (l : Launch) (hfl : l.stackTraces = false) (D : va_G) (cy : Nat → ClassId) (ad : Nat → Nat) (M : MS) (h : List MS) (sl : Nat → Option MS) (tx : List Int32) (M2 : MS) (hi : h[h.length - 1]? = some M2) : XNi l D cy ad yL_undo wsL_undo 7 112 1 [] (M, h, sl, tx) (iI ((h.length : Int) - 1)) (M2, h.take (h.length - 1), sl, tx) := by
  intro u J
  obtain ⟨z, f, zt, ft, en, B, Kf, nx, ct, Zh, Fh, Zs, Fs, sv, tn, tf⟩ := u
  obtain ⟨hR, hM, hH, hh6, hXS, hXt, ht80, hk⟩ := J
  dsimp only at hR hM hH hh6 hXS hXt ht80 hk
  refine Ni.bframe (c_L_undo l hfl D cy ad z f M nx ct Zh Fh h (hH)) (bs := [wTop ad, wSt cy ad 1 z f, wSt cy ad 8 zt ft, wEn cy ad en B Kf, wHb ad ct, wKb cy ad nx, wSt cy ad 20 (Zh 0) (Fh 0), wSt cy ad 27 (Zh 1) (Fh 1), wSt cy ad 34 (Zh 2) (Fh 2), wSt cy ad 41 (Zh 3) (Fh 3), wSt cy ad 48 (Zh 4) (Fh 4), wSt cy ad 55 (Zh 5) (Fh 5), wSa cy ad, wSt cy ad 63 (Zs 0) (Fs 0), wSt cy ad 70 (Zs 1) (Fs 1), wSv cy ad sv, wTx cy ad tn tf]) (cs := [wTop ad, wSt cy ad 1 z f, wHb ad ct, wKb cy ad nx, wSt cy ad 20 (Zh 0) (Fh 0), wSt cy ad 27 (Zh 1) (Fh 1), wSt cy ad 34 (Zh 2) (Fh 2), wSt cy ad 41 (Zh 3) (Fh 3), wSt cy ad 48 (Zh 4) (Fh 4), wSt cy ad 55 (Zh 5) (Fh 5)]) (nb := fun (u : (Nat → Int) × (Nat → Nat → Int32) × Int × Int) => [wTop ad, wSt cy ad 1 u.1 u.2.1, wHb ad u.2.2.2, wKb cy ad u.2.2.1, wSt cy ad 20 (Zh 0) (Fh 0), wSt cy ad 27 (Zh 1) (Fh 1), wSt cy ad 34 (Zh 2) (Fh 2), wSt cy ad 41 (Zh 3) (Fh 3), wSt cy ad 48 (Zh 4) (Fh 4), wSt cy ad 55 (Zh 5) (Fh 5)]) (b2 := fun u => bX cy ad u) [0, 1, 4, 5, 6, 7, 8, 9, 10, 11] rfl rfl rfl (fun _ => rfl) (fun _ => rfl) (fun r u hp => ?_)
  obtain ⟨z1, f1, nx1, ct1⟩ := u
  dsimp only at hp
  rcases hp with ⟨_, hv, hH1, hR1⟩ | ⟨_, hno, _⟩
  · exact ⟨(z1, f1, zt, ft, en, B, Kf, nx1, ct1, Zh, Fh, Zs, Fs, sv, tn, tf), ⟨hv, hR1 M2 hi, (hH.2.2.2.2 _ M2 hi).2, hH1, (show (h.take (h.length - 1)).length ≤ 6 from by rw [List.length_take]; omega), hXS, hXt, ht80, hk⟩, rfl⟩
  · rw [List.getElem?_eq_none (by omega)] at hi; cases hi
set_option maxHeartbeats 4000000 in
set_option maxRecDepth 100000 in
theorem x_undo1 (l : Launch) (hfl : l.stackTraces = false) (D : va_G) (cy : Nat → ClassId) (ad : Nat → Nat) (M : MS) (h : List MS) (sl : Nat → Option MS) (tx : List Int32)  (hi : h.length = 0) : XNi l D cy ad yL_undo wsL_undo 7 112 1 [] (M, h, sl, tx) (iI 90001) (M, h, sl, tx) := by
  intro u J
  obtain ⟨z, f, zt, ft, en, B, Kf, nx, ct, Zh, Fh, Zs, Fs, sv, tn, tf⟩ := u
  obtain ⟨hR, hM, hH, hh6, hXS, hXt, ht80, hk⟩ := J
  dsimp only at hR hM hH hh6 hXS hXt ht80 hk
  refine Ni.bframe (c_L_undo l hfl D cy ad z f M nx ct Zh Fh h (hH)) (bs := [wTop ad, wSt cy ad 1 z f, wSt cy ad 8 zt ft, wEn cy ad en B Kf, wHb ad ct, wKb cy ad nx, wSt cy ad 20 (Zh 0) (Fh 0), wSt cy ad 27 (Zh 1) (Fh 1), wSt cy ad 34 (Zh 2) (Fh 2), wSt cy ad 41 (Zh 3) (Fh 3), wSt cy ad 48 (Zh 4) (Fh 4), wSt cy ad 55 (Zh 5) (Fh 5), wSa cy ad, wSt cy ad 63 (Zs 0) (Fs 0), wSt cy ad 70 (Zs 1) (Fs 1), wSv cy ad sv, wTx cy ad tn tf]) (cs := [wTop ad, wSt cy ad 1 z f, wHb ad ct, wKb cy ad nx, wSt cy ad 20 (Zh 0) (Fh 0), wSt cy ad 27 (Zh 1) (Fh 1), wSt cy ad 34 (Zh 2) (Fh 2), wSt cy ad 41 (Zh 3) (Fh 3), wSt cy ad 48 (Zh 4) (Fh 4), wSt cy ad 55 (Zh 5) (Fh 5)]) (nb := fun (u : (Nat → Int) × (Nat → Nat → Int32) × Int × Int) => [wTop ad, wSt cy ad 1 u.1 u.2.1, wHb ad u.2.2.2, wKb cy ad u.2.2.1, wSt cy ad 20 (Zh 0) (Fh 0), wSt cy ad 27 (Zh 1) (Fh 1), wSt cy ad 34 (Zh 2) (Fh 2), wSt cy ad 41 (Zh 3) (Fh 3), wSt cy ad 48 (Zh 4) (Fh 4), wSt cy ad 55 (Zh 5) (Fh 5)]) (b2 := fun u => bX cy ad u) [0, 1, 4, 5, 6, 7, 8, 9, 10, 11] rfl rfl rfl (fun _ => rfl) (fun _ => rfl) (fun r u hp => ?_)
  obtain ⟨z1, f1, nx1, ct1⟩ := u
  dsimp only at hp
  rcases hp with ⟨hno, _⟩ | ⟨hv, _, rfl, rfl, rfl, rfl⟩
  · exact absurd hi hno
  · first | exact ⟨(z1, f1, zt, ft, en, B, Kf, nx1, ct1, Zh, Fh, Zs, Fs, sv, tn, tf), ⟨hv, hR, hM, hH, hh6, hXS, hXt, ht80, hk⟩, rfl⟩ | exact ⟨(z, f, zt, ft, en, B, Kf, nx, ct, Zh, Fh, Zs, Fs, sv, tn, tf), ⟨hv, hR, hM, hH, hh6, hXS, hXt, ht80, hk⟩, rfl⟩
set_option maxHeartbeats 4000000 in
set_option maxRecDepth 100000 in
theorem x_save (l : Launch) (hfl : l.stackTraces = false) (D : va_G) (cy : Nat → ClassId) (ad : Nat → Nat) (M : MS) (h : List MS) (sl : Nat → Option MS) (tx : List Int32)   : XNi l D cy ad yL_save wsL_save 8 133 1 [.int (iI 0)] (M, h, sl, tx) (iI (M.1.length : Int)) (M, h, fun j => if j = 0 then some M else sl j, tx) := by
  intro u J
  obtain ⟨z, f, zt, ft, en, B, Kf, nx, ct, Zh, Fh, Zs, Fs, sv, tn, tf⟩ := u
  obtain ⟨hR, hM, hH, hh6, hXS, hXt, ht80, hk⟩ := J
  dsimp only at hR hM hH hh6 hXS hXt ht80 hk
  refine Ni.bframe (c_L_save l hfl D cy ad z f M Zs Fs sv sl 0 (hR) (hM) (hXS) (by omega)) (bs := [wTop ad, wSt cy ad 1 z f, wSt cy ad 8 zt ft, wEn cy ad en B Kf, wHb ad ct, wKb cy ad nx, wSt cy ad 20 (Zh 0) (Fh 0), wSt cy ad 27 (Zh 1) (Fh 1), wSt cy ad 34 (Zh 2) (Fh 2), wSt cy ad 41 (Zh 3) (Fh 3), wSt cy ad 48 (Zh 4) (Fh 4), wSt cy ad 55 (Zh 5) (Fh 5), wSa cy ad, wSt cy ad 63 (Zs 0) (Fs 0), wSt cy ad 70 (Zs 1) (Fs 1), wSv cy ad sv, wTx cy ad tn tf]) (cs := [wTop ad, wSt cy ad 1 z f, wSa cy ad, wSt cy ad 63 (Zs 0) (Fs 0), wSt cy ad 70 (Zs 1) (Fs 1), wSv cy ad sv]) (nb := fun (u : (Nat → Nat → Int) × (Nat → Nat → Nat → Int32) × (Nat → Int32)) => [wTop ad, wSt cy ad 1 z f, wSa cy ad, wSt cy ad 63 (u.1 0) (u.2.1 0), wSt cy ad 70 (u.1 1) (u.2.1 1), wSv cy ad u.2.2]) (b2 := fun u => bX cy ad u) [0, 1, 12, 13, 14, 15] rfl rfl rfl (fun _ => rfl) (fun _ => rfl) (fun r u hp => ?_)
  obtain ⟨Zs1, Fs1, sv1⟩ := u
  dsimp only at hp
  rcases hp with ⟨_, hv, hS1⟩ | ⟨_, hno, _⟩
  · exact ⟨(z, f, zt, ft, en, B, Kf, nx, ct, Zh, Fh, Zs1, Fs1, sv1, tn, tf), ⟨hv, hR, hM, hH, hh6, hS1, hXt, ht80, hk⟩, rfl⟩
  · exact absurd (Or.inl rfl) hno
set_option maxHeartbeats 4000000 in
set_option maxRecDepth 100000 in
theorem x_load0 (l : Launch) (hfl : l.stackTraces = false) (D : va_G) (cy : Nat → ClassId) (ad : Nat → Nat) (M : MS) (h : List MS) (sl : Nat → Option MS) (tx : List Int32) (M2 : MS) (hi : sl 0 = some M2) : XNi l D cy ad yL_load wsL_load 8 133 2 [.int (iI 0)] (M, h, sl, tx) (iI (M2.1.length : Int)) (M2, pushH h M, sl, tx) := by
  intro u J
  obtain ⟨z, f, zt, ft, en, B, Kf, nx, ct, Zh, Fh, Zs, Fs, sv, tn, tf⟩ := u
  obtain ⟨hR, hM, hH, hh6, hXS, hXt, ht80, hk⟩ := J
  dsimp only at hR hM hH hh6 hXS hXt ht80 hk
  refine Ni.bframe (c_L_load l hfl D cy ad z f M nx ct Zh Fh h Zs Fs sv sl 0 (hR) (hM) (hH) (hXS) (by omega)) (bs := [wTop ad, wSt cy ad 1 z f, wSt cy ad 8 zt ft, wEn cy ad en B Kf, wHb ad ct, wKb cy ad nx, wSt cy ad 20 (Zh 0) (Fh 0), wSt cy ad 27 (Zh 1) (Fh 1), wSt cy ad 34 (Zh 2) (Fh 2), wSt cy ad 41 (Zh 3) (Fh 3), wSt cy ad 48 (Zh 4) (Fh 4), wSt cy ad 55 (Zh 5) (Fh 5), wSa cy ad, wSt cy ad 63 (Zs 0) (Fs 0), wSt cy ad 70 (Zs 1) (Fs 1), wSv cy ad sv, wTx cy ad tn tf]) (cs := [wTop ad, wSt cy ad 1 z f, wHb ad ct, wKb cy ad nx, wSt cy ad 20 (Zh 0) (Fh 0), wSt cy ad 27 (Zh 1) (Fh 1), wSt cy ad 34 (Zh 2) (Fh 2), wSt cy ad 41 (Zh 3) (Fh 3), wSt cy ad 48 (Zh 4) (Fh 4), wSt cy ad 55 (Zh 5) (Fh 5), wSa cy ad, wSt cy ad 63 (Zs 0) (Fs 0), wSt cy ad 70 (Zs 1) (Fs 1), wSv cy ad sv]) (nb := fun (u : (Nat → Int) × (Nat → Nat → Int32) × Int × Int × (Nat → Nat → Int) × (Nat → Nat → Nat → Int32)) => [wTop ad, wSt cy ad 1 u.1 u.2.1, wHb ad u.2.2.2.1, wKb cy ad u.2.2.1, wSt cy ad 20 (u.2.2.2.2.1 0) (u.2.2.2.2.2 0), wSt cy ad 27 (u.2.2.2.2.1 1) (u.2.2.2.2.2 1), wSt cy ad 34 (u.2.2.2.2.1 2) (u.2.2.2.2.2 2), wSt cy ad 41 (u.2.2.2.2.1 3) (u.2.2.2.2.2 3), wSt cy ad 48 (u.2.2.2.2.1 4) (u.2.2.2.2.2 4), wSt cy ad 55 (u.2.2.2.2.1 5) (u.2.2.2.2.2 5), wSa cy ad, wSt cy ad 63 (Zs 0) (Fs 0), wSt cy ad 70 (Zs 1) (Fs 1), wSv cy ad sv]) (b2 := fun u => bX cy ad u) [0, 1, 4, 5, 6, 7, 8, 9, 10, 11, 12, 13, 14, 15] rfl rfl rfl (fun _ => rfl) (fun _ => rfl) (fun r u hp => ?_)
  obtain ⟨z1, f1, nx1, ct1, Zh1, Fh1⟩ := u
  dsimp only at hp
  rcases hp with ⟨_, ⟨M3, h3, hv, hR1⟩, hH1⟩ | ⟨_, hno, _⟩ | ⟨_, ⟨_, hno⟩, _⟩
  · obtain rfl : M3 = M2 := Option.some.inj (h3.symm.trans hi)
    exact ⟨(z1, f1, zt, ft, en, B, Kf, nx1, ct1, Zh1, Fh1, Zs, Fs, sv, tn, tf), ⟨hv, hR1, (RXS_ok hXS (by omega) hi), hH1, push_le hh6, hXS, hXt, ht80, hk⟩, rfl⟩
  · exact absurd (Or.inl rfl) hno
  · exact absurd (hno.symm.trans hi) (by simp)
set_option maxHeartbeats 4000000 in
set_option maxRecDepth 100000 in
theorem x_load1 (l : Launch) (hfl : l.stackTraces = false) (D : va_G) (cy : Nat → ClassId) (ad : Nat → Nat) (M : MS) (h : List MS) (sl : Nat → Option MS) (tx : List Int32)  (hi : sl 0 = none) : XNi l D cy ad yL_load wsL_load 8 133 2 [.int (iI 0)] (M, h, sl, tx) (iI 90002) (M, h, sl, tx) := by
  intro u J
  obtain ⟨z, f, zt, ft, en, B, Kf, nx, ct, Zh, Fh, Zs, Fs, sv, tn, tf⟩ := u
  obtain ⟨hR, hM, hH, hh6, hXS, hXt, ht80, hk⟩ := J
  dsimp only at hR hM hH hh6 hXS hXt ht80 hk
  refine Ni.bframe (c_L_load l hfl D cy ad z f M nx ct Zh Fh h Zs Fs sv sl 0 (hR) (hM) (hH) (hXS) (by omega)) (bs := [wTop ad, wSt cy ad 1 z f, wSt cy ad 8 zt ft, wEn cy ad en B Kf, wHb ad ct, wKb cy ad nx, wSt cy ad 20 (Zh 0) (Fh 0), wSt cy ad 27 (Zh 1) (Fh 1), wSt cy ad 34 (Zh 2) (Fh 2), wSt cy ad 41 (Zh 3) (Fh 3), wSt cy ad 48 (Zh 4) (Fh 4), wSt cy ad 55 (Zh 5) (Fh 5), wSa cy ad, wSt cy ad 63 (Zs 0) (Fs 0), wSt cy ad 70 (Zs 1) (Fs 1), wSv cy ad sv, wTx cy ad tn tf]) (cs := [wTop ad, wSt cy ad 1 z f, wHb ad ct, wKb cy ad nx, wSt cy ad 20 (Zh 0) (Fh 0), wSt cy ad 27 (Zh 1) (Fh 1), wSt cy ad 34 (Zh 2) (Fh 2), wSt cy ad 41 (Zh 3) (Fh 3), wSt cy ad 48 (Zh 4) (Fh 4), wSt cy ad 55 (Zh 5) (Fh 5), wSa cy ad, wSt cy ad 63 (Zs 0) (Fs 0), wSt cy ad 70 (Zs 1) (Fs 1), wSv cy ad sv]) (nb := fun (u : (Nat → Int) × (Nat → Nat → Int32) × Int × Int × (Nat → Nat → Int) × (Nat → Nat → Nat → Int32)) => [wTop ad, wSt cy ad 1 u.1 u.2.1, wHb ad u.2.2.2.1, wKb cy ad u.2.2.1, wSt cy ad 20 (u.2.2.2.2.1 0) (u.2.2.2.2.2 0), wSt cy ad 27 (u.2.2.2.2.1 1) (u.2.2.2.2.2 1), wSt cy ad 34 (u.2.2.2.2.1 2) (u.2.2.2.2.2 2), wSt cy ad 41 (u.2.2.2.2.1 3) (u.2.2.2.2.2 3), wSt cy ad 48 (u.2.2.2.2.1 4) (u.2.2.2.2.2 4), wSt cy ad 55 (u.2.2.2.2.1 5) (u.2.2.2.2.2 5), wSa cy ad, wSt cy ad 63 (Zs 0) (Fs 0), wSt cy ad 70 (Zs 1) (Fs 1), wSv cy ad sv]) (b2 := fun u => bX cy ad u) [0, 1, 4, 5, 6, 7, 8, 9, 10, 11, 12, 13, 14, 15] rfl rfl rfl (fun _ => rfl) (fun _ => rfl) (fun r u hp => ?_)
  obtain ⟨z1, f1, nx1, ct1, Zh1, Fh1⟩ := u
  dsimp only at hp
  rcases hp with ⟨_, ⟨M3, h3, _⟩, _⟩ | ⟨_, hno, _⟩ | ⟨hv, _, rfl, rfl, rfl, rfl, rfl, rfl⟩
  · exact absurd (h3.symm.trans hi) (by simp)
  · exact absurd (Or.inl rfl) hno
  · first | exact ⟨(z1, f1, zt, ft, en, B, Kf, nx1, ct1, Zh1, Fh1, Zs, Fs, sv, tn, tf), ⟨hv, hR, hM, hH, hh6, hXS, hXt, ht80, hk⟩, rfl⟩ | exact ⟨(z, f, zt, ft, en, B, Kf, nx, ct, Zh, Fh, Zs, Fs, sv, tn, tf), ⟨hv, hR, hM, hH, hh6, hXS, hXt, ht80, hk⟩, rfl⟩
