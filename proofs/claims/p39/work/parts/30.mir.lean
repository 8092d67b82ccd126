/-! mirrored letters: x becomes 25 - x -/
def mirX (x : Int32) : Int32 := iI 25 - x
theorem mirX_inj {x y : Int32} : (mirX x = mirX y) = (x = y) := propext (Int32.sub_right_inj (iI 25))
def mirL (l : List Int32) : List Int32 := l.map mirX
theorem mirL_len (l : List Int32) : (mirL l).length = l.length := List.length_map _
theorem gl_mir {l : List Int32} {j : Nat} (h : j < l.length) : gl (mirL l) j = mirX (gl l j) := by
  unfold gl mirL
  rw [List.getD_eq_getElem?_getD, List.getD_eq_getElem?_getD, List.getElem?_map, List.getElem?_eq_getElem h]
  rfl
def mirM (M : MS) : MS := (mirL M.1, mirL M.2.1, M.2.2)
theorem diffF_mir (W L : Nat → Int32) (s : Int) : ∀ m : Nat, diffF m (fun j => mirX (W j)) (fun j => mirX (L j)) s = diffF m W L s
  | 0 => rfl
  | m + 1 => by simp only [diffF, mirX_inj, diffF_mir W L s m]
theorem lastF_mir (f : Nat → Int32) (x : Int32) : ∀ n : Nat, lastF n (fun j => mirX (f j)) (mirX x) = lastF n f x
  | 0 => rfl
  | n + 1 => by simp only [lastF, mirX_inj, lastF_mir f x n]
theorem perF_mir (m : Nat) (W : Nat → Int32) : perF m (fun j => mirX (W j)) = perF m W := by
  have h : perB m (fun j => mirX (W j)) = perB m W := by
    funext p
    unfold perB
    simp only [mirX_inj]
  unfold perF
  rw [h]
theorem endF_mir (m : Nat) (W : Nat → Int32) (j : Nat) : endF m (fun j => mirX (W j)) j = endF m W j := by
  have h : endB m (fun j => mirX (W j)) j = endB m W j := by
    funext p
    unfold endB
    simp only [mirX_inj]
  unfold endF
  rw [h]
theorem perW_mir (w : List Int32) : perF (mirL w).length (gl (mirL w)) = perF w.length (gl w) := by
  rw [mirL_len, perF_congr (fun j hj => gl_mir hj), perF_mir]
theorem endW_mir (w : List Int32) {j : Nat} (hj : j < w.length) : endF (mirL w).length (gl (mirL w)) j = endF w.length (gl w) j := by
  rw [mirL_len, endF_congr (fun j hj => gl_mir hj) hj, endF_mir]
theorem lastW_mir (w : List Int32) (x : Int32) : lastF (mirL w).length (gl (mirL w)) (mirX x) = lastF w.length (gl w) x := by
  rw [mirL_len, lastF_congr (fun j hj => gl_mir hj), lastF_mir]
theorem diffL_mir (w l : List Int32) {s : Int} (h0 : 0 ≤ s) (h1 : s + (w.length : Int) ≤ (l.length : Int)) : diffF w.length (gl (mirL w)) (gl (mirL l)) s = diffF w.length (gl w) (gl l) s := by
  rw [diffF_congr h0 (fun j hj => gl_mir hj) (fun j a b => gl_mir (by omega)), diffF_mir]
theorem mD_mir {M : MS} {s : Int} (h0 : 0 ≤ s) (h1 : s + (M.2.1.length : Int) ≤ (M.1.length : Int)) : mD (mirM M) s = mD M s := by
  show diffF (mirL M.2.1).length (gl (mirL M.2.1)) (gl (mirL M.1)) s = _
  rw [mirL_len]
  exact diffL_mir M.2.1 M.1 h0 h1
theorem mSk_mir {M : MS} {pl d : Int} (h0 : 0 ≤ pl) (h1 : pl + (M.2.1.length : Int) ≤ (M.1.length : Int)) (h2 : -1 ≤ d) (h3 : d < (M.2.1.length : Int)) : mSk (mirM M) pl d = mSk M pl d := by
  show skS M.2.2.2.1 M.2.2.2.2.1 (mirL M.2.1).length (gl (mirL M.2.1)) (gl (mirL M.1)) pl d = skS M.2.2.2.1 M.2.2.2.2.1 M.2.1.length (gl M.2.1) (gl M.1) pl d
  simp only [skS]
  by_cases hd : d = -1
  · rw [if_pos hd, if_pos hd, perW_mir]
  · rw [if_neg hd, if_neg hd, gl_mir (l := M.1) (j := (pl + d).toNat) (by omega), lastW_mir, endW_mir M.2.1 (by omega)]
theorem look_mir {M : MS} {t : LT} (h0 : 0 ≤ t.1) (h1 : t.1 + (M.2.1.length : Int) ≤ (M.1.length : Int)) : lookS M.2.1.length (gl (mirM M).2.1) (gl (mirM M).1) (mSk (mirM M)) t = lookS M.2.1.length (gl M.2.1) (gl M.1) (mSk M) t := by
  have hd := diffF_rng M.2.1.length (gl M.2.1) (gl M.1) t.1
  have e1 : diffF M.2.1.length (gl (mirM M).2.1) (gl (mirM M).1) t.1 = diffF M.2.1.length (gl M.2.1) (gl M.1) t.1 := diffL_mir M.2.1 M.1 h0 h1
  have e2 := mSk_mir (M := M) h0 h1 hd.1 hd.2
  simp only [lookS]
  rw [e1, e2]
theorem mOver_mir (M : MS) : mOver (mirM M) ↔ mOver M := by
  simp only [mOver, mirM, mirL_len]
theorem run_mir {M : MS} (hm : M.2.1.length ≤ 16) : ∀ (k : Nat) (t : LT), 0 ≤ t.1 → runS M.1.length M.2.1.length (gl (mirM M).2.1) (gl (mirM M).1) (mSk (mirM M)) k t = runS M.1.length M.2.1.length (gl M.2.1) (gl M.1) (mSk M) k t
  | 0, t, _ => rfl
  | k + 1, t, h0 => by
    simp only [runS]
    split
    · rfl
    · rename_i q
      have hs := mSk_pos (M := M) hm t.1 (by omega)
      rw [look_mir h0 (by omega), run_mir hm k _ (by simp only [lookS]; omega)]
theorem mRun_mir {M : MS} (h : MOk M) : mRun (mirM M) = mRun M := by
  show runS (mirL M.1).length (mirL M.2.1).length (gl (mirM M).2.1) (gl (mirM M).1) (mSk (mirM M)) 60 (mT M) = _
  rw [mirL_len, mirL_len]
  exact run_mir h.2.1 60 (mT M) h.2.2.2.2.1
theorem mLook_mir {M : MS} (h : MOk M) (ho : ¬ mOver M) : mLook (mirM M) = mirM (mLook M) := by
  simp only [mOver] at ho
  have h5 := h.2.2.2.2.1
  show mOf (mirM M) (lookS (mirL M.2.1).length (gl (mirM M).2.1) (gl (mirM M).1) (mSk (mirM M)) (mT M)) = _
  rw [mirL_len, look_mir (t := mT M) h5 (by show M.2.2.2.2.2.1 + _ ≤ _; omega)]
  rfl
theorem MOk_mir {M : MS} (h : MOk M) : MOk (mirM M) := by
  simp only [MOk, mirM, mirL_len]
  exact h
theorem cntF_mir {m n : Nat} {w l : List Int32} (hw : w.length = m) (hl : l.length = n) : ∀ s : Nat, s + m ≤ n + 1 → cntF m (gl (mirL w)) (gl (mirL l)) s = cntF m (gl w) (gl l) s
  | 0, _ => rfl
  | s + 1, h => by
    subst hw
    simp only [cntF]
    rw [cntF_mir rfl hl s (by omega), diffL_mir w l (s := (s : Int)) (by omega) (by omega)]
theorem occF_mir {M : MS} : occF (mirM M) = occF M := by
  show (if ((mirL M.2.1).length : Int) = 0 then 0 else cntF (mirL M.2.1).length (gl (mirL M.2.1)) (gl (mirL M.1)) ((mirL M.1).length + 1 - (mirL M.2.1).length)) = (if (M.2.1.length : Int) = 0 then 0 else cntF M.2.1.length (gl M.2.1) (gl M.1) (M.1.length + 1 - M.2.1.length))
  rw [mirL_len, mirL_len]
  by_cases h : M.2.1.length ≤ M.1.length
  · rw [cntF_mir rfl rfl _ (by omega)]
  · rw [show M.1.length + 1 - M.2.1.length = 0 by omega]
    rfl
theorem mSet_mir (M : MS) (k : Nat) (v : Int32) : mSet (mirM M) k (mirX v) = mirM (mSet M k v) := by
  show ((mirL M.1).set k (mirX v), mirL M.2.1, _) = (mirL (M.1.set k v), _, _)
  unfold mirL
  rw [List.map_set]
  rfl
/-! what holds of every state that the calls reach -/
/-- letters -/
def Ltr (l : List Int32) : Prop := ∀ j : Nat, j < l.length → 0 ≤ (gl l j).toInt ∧ (gl l j).toInt ≤ 25
/-- places found: they stand, they ascend, they lie ahead of the search -/
def Fnd (M : MS) : Prop := ∀ k : Nat, k < M.2.2.1.length → 0 ≤ (gl M.2.2.1 k).toInt ∧ (gl M.2.2.1 k).toInt < M.2.2.2.2.2.1 ∧ (gl M.2.2.1 k).toInt + (M.2.1.length : Int) ≤ (M.1.length : Int) ∧ mD M (gl M.2.2.1 k).toInt = -1 ∧ ∀ i : Nat, i < k → (gl M.2.2.1 i).toInt < (gl M.2.2.1 k).toInt
def Cnt (M : MS) : Prop := (M.2.2.1.length : Int) = if (M.2.1.length : Int) = 0 then 0 else cntF M.2.1.length (gl M.2.1) (gl M.1) (min M.2.2.2.2.2.1.toNat (M.1.length + 1 - M.2.1.length))
def Num (M : MS) : Prop := M.2.2.2.2.2.2.1 ≤ max ((M.1.length : Int) - M.2.1.length + 1) 0 ∧ M.2.2.2.2.2.2.1 ≤ M.2.2.2.2.2.2.2 ∧ M.2.2.2.2.2.2.2 ≤ M.2.2.2.2.2.2.1 * (M.2.1.length : Int)
def Inv (M : MS) : Prop := MOk M ∧ Ltr M.1 ∧ Ltr M.2.1 ∧ Fnd M ∧ Cnt M ∧ Num M
theorem skS_le {lr er : Int} {m : Nat} {W L : Nat → Int32} {pl d : Int} : skS lr er m W L pl d ≤ skS 1 1 m W L pl d := by
  simp only [skS]
  by_cases hd : d = -1
  · rw [if_pos hd, if_pos hd]
    exact Int.le_refl _
  · rw [if_neg hd, if_neg hd, if_neg (show ¬ (1 : Int) = 0 by decide), if_neg (show ¬ (1 : Int) = 0 by decide)]
    split <;> split <;> omega
theorem cntF_le {m : Nat} {W L : Nat → Int32} (a : Nat) : ∀ k : Nat, cntF m W L a ≤ cntF m W L (a + k)
  | 0 => Int.le_refl _
  | k + 1 => by
    have := cntF_le (m := m) (W := W) (L := L) a k
    show _ ≤ cntF m W L (a + k) + _
    split <;> omega
theorem cntF_mono {m : Nat} {W L : Nat → Int32} {a b : Nat} (h : a ≤ b) : cntF m W L a ≤ cntF m W L b := by
  have := cntF_le (m := m) (W := W) (L := L) a (b - a)
  rwa [show a + (b - a) = b by omega] at this
theorem cntF_0 {m : Nat} {W L : Nat → Int32} : cntF m W L 0 = 0 := rfl
theorem cntF_pos {m : Nat} {W L : Nat → Int32} {s b : Nat} (hs : diffF m W L (s : Int) = -1) (h : s < b) : 0 < cntF m W L b := by
  have h1 := cntF_mono (m := m) (W := W) (L := L) (Nat.zero_le s)
  have h2 := cntF_mono (m := m) (W := W) (L := L) (show s + 1 ≤ b from h)
  have h3 : cntF m W L (s + 1) = cntF m W L s + (if diffF m W L (s : Int) = -1 then 1 else 0) := rfl
  rw [if_pos hs] at h3
  rw [cntF_0] at h1
  omega
theorem Inv.fresh {M : MS} (h : MOk M) (h1 : Ltr M.1) (h2 : Ltr M.2.1) : Inv (bgn M) := by
  refine ⟨h.bgn, h1, h2, fun k hk => absurd hk (Nat.not_lt_zero _), ?_, ?_⟩
  · show (0 : Int) = _
    split
    · rfl
    · rw [show min (bgn M).2.2.2.2.2.1.toNat ((bgn M).1.length + 1 - (bgn M).2.1.length) = 0 from Nat.zero_min _]
      rfl
  · refine ⟨?_, Int.le_refl _, ?_⟩
    · show (0 : Int) ≤ _
      omega
    · show (0 : Int) ≤ 0 * _
      rw [Int.zero_mul]
      exact Int.le_refl _
/-- one look keeps it -/
theorem Inv.look {M : MS} (h : Inv M) (ho : ¬ mOver M) : Inv (mLook M) := by
  obtain ⟨hM, h1, h2, hf, hc, hn⟩ := h
  have hM2 := hM.look ho
  obtain ⟨line, word, found, lr, er, pl, lk, cp⟩ := M
  simp only [mOver] at ho
  have hMu := hM
  simp only [MOk] at hMu
  have hd := diffF_rng word.length (gl word) (gl line) pl
  have hs := skS_rng (lr := lr) (er := er) (m := word.length) (W := gl word) (L := gl line) (pl := pl) (d := diffF word.length (gl word) (gl line) pl) (by omega) (by omega) (by omega)
  refine ⟨hM2, h1, h2, ?_, ?_, ?_⟩
  · -- the places found
    intro k hk
    have hk2 : k < (if diffF word.length (gl word) (gl line) pl = -1 then found ++ [iI pl] else found).length := hk
    show 0 ≤ (gl (if diffF word.length (gl word) (gl line) pl = -1 then found ++ [iI pl] else found) k).toInt ∧ (gl (if diffF word.length (gl word) (gl line) pl = -1 then found ++ [iI pl] else found) k).toInt < pl + skS lr er word.length (gl word) (gl line) pl (diffF word.length (gl word) (gl line) pl) ∧ (gl (if diffF word.length (gl word) (gl line) pl = -1 then found ++ [iI pl] else found) k).toInt + (word.length : Int) ≤ (line.length : Int) ∧ diffF word.length (gl word) (gl line) (gl (if diffF word.length (gl word) (gl line) pl = -1 then found ++ [iI pl] else found) k).toInt = -1 ∧ ∀ i : Nat, i < k → (gl (if diffF word.length (gl word) (gl line) pl = -1 then found ++ [iI pl] else found) i).toInt < (gl (if diffF word.length (gl word) (gl line) pl = -1 then found ++ [iI pl] else found) k).toInt
    by_cases q : diffF word.length (gl word) (gl line) pl = -1
    · rw [if_pos q] at hk2
      simp only [if_pos q]
      have hlen : (found ++ [iI pl]).length = found.length + 1 := by simp
      have old : ∀ i : Nat, i < found.length → gl (found ++ [iI pl]) i = gl found i := by
        intro i hi
        unfold gl
        rw [List.getD_eq_getElem?_getD, List.getD_eq_getElem?_getD, List.getElem?_append_left hi]
      have new : gl (found ++ [iI pl]) found.length = iI pl := by
        unfold gl
        rw [List.getD_eq_getElem?_getD, List.getElem?_append_right (Nat.le_refl _)]
        simp
      have ipl : (iI pl).toInt = pl := iI_t (by omega) (by omega)
      by_cases e : k = found.length
      · subst e
        rw [new, ipl]
        refine ⟨by omega, by omega, by omega, q, fun i hi => ?_⟩
        rw [old i hi]
        exact (hf i hi).2.1
      · have hk3 : k < found.length := by omega
        obtain ⟨a1, a2, a3, a4, a5⟩ := hf k hk3
        have a2' : (gl found k).toInt < pl := a2
        rw [old k hk3]
        refine ⟨a1, by omega, a3, a4, fun i hi => ?_⟩
        rw [old i (by omega)]
        exact a5 i hi
    · rw [if_neg q] at hk2
      simp only [if_neg q]
      obtain ⟨a1, a2, a3, a4, a5⟩ := hf k hk2
      have a2' : (gl found k).toInt < pl := a2
      exact ⟨a1, by omega, a3, a4, a5⟩
  · -- how many there are
    have hc2 : (found.length : Int) = if (word.length : Int) = 0 then 0 else cntF word.length (gl word) (gl line) (min pl.toNat (line.length + 1 - word.length)) := hc
    rw [if_neg (by omega), show min pl.toNat (line.length + 1 - word.length) = pl.toNat by omega] at hc2
    show ((if diffF word.length (gl word) (gl line) pl = -1 then found ++ [iI pl] else found).length : Int) = if (word.length : Int) = 0 then 0 else cntF word.length (gl word) (gl line) (min (pl + skS lr er word.length (gl word) (gl line) pl (diffF word.length (gl word) (gl line) pl)).toNat (line.length + 1 - word.length))
    rw [if_neg (by omega : ¬ (word.length : Int) = 0)]
    have hpl : ((pl.toNat : Nat) : Int) = pl := by omega
    have h4 : ((if diffF word.length (gl word) (gl line) pl = -1 then found ++ [iI pl] else found).length : Int) = cntF word.length (gl word) (gl line) (pl.toNat + 1) := by
      show _ = cntF word.length (gl word) (gl line) pl.toNat + _
      rw [hpl, ← hc2]
      split
      · simp
      · simp
    rw [h4]
    obtain ⟨e, he, hle⟩ : ∃ e : Nat, min (pl + skS lr er word.length (gl word) (gl line) pl (diffF word.length (gl word) (gl line) pl)).toNat (line.length + 1 - word.length) = pl.toNat + 1 + e ∧ (e : Int) + 1 ≤ skS lr er word.length (gl word) (gl line) pl (diffF word.length (gl word) (gl line) pl) := ⟨min (pl + skS lr er word.length (gl word) (gl line) pl (diffF word.length (gl word) (gl line) pl)).toNat (line.length + 1 - word.length) - (pl.toNat + 1), by omega, by omega⟩
    rw [he]
    refine (cnt_skip e (fun t ht => ?_)).symm
    have hle2 := skS_le (lr := lr) (er := er) (m := word.length) (W := gl word) (L := gl line) (pl := pl) (d := diffF word.length (gl word) (gl line) pl)
    have := no_leap (m := word.length) (W := gl word) (L := gl line) (s := pl.toNat) (t := t + 1) (by omega) (by rw [hpl]; omega)
    rw [show pl.toNat + 1 + t = pl.toNat + (t + 1) by omega]
    exact this
  · -- looks and letters compared
    obtain ⟨n1, n2, n3⟩ := hn
    have n1' : lk ≤ max ((line.length : Int) - word.length + 1) 0 := n1
    have n2' : lk ≤ cp := n2
    have n3' : cp ≤ lk * (word.length : Int) := n3
    have e : (lk + 1) * (word.length : Int) = lk * (word.length : Int) + (word.length : Int) := by rw [Int.add_mul, Int.one_mul]
    refine ⟨?_, ?_, ?_⟩
    · show lk + 1 ≤ max ((line.length : Int) - word.length + 1) 0
      omega
    · show lk + 1 ≤ cp + ((word.length : Int) - max (diffF word.length (gl word) (gl line) pl) 0)
      omega
    · show cp + ((word.length : Int) - max (diffF word.length (gl word) (gl line) pl) 0) ≤ (lk + 1) * (word.length : Int)
      rw [e]
      omega
theorem Inv.looks {M : MS} : ∀ (k : Nat) (t : LT), Inv (mOf M t) → Inv (mOf M (runS M.1.length M.2.1.length (gl M.2.1) (gl M.1) (mSk M) k t).1)
  | 0, t, ht => ht
  | k + 1, t, ht => by
    simp only [runS]
    split
    · exact ht
    · rename_i ho
      exact Inv.looks k _ (Inv.look (M := mOf M t) ht ho)
theorem Inv.run {M : MS} (h : Inv M) : Inv (mOf M (mRun M).1) := Inv.looks 60 (mT M) h
/-- after all looks the search is over -/
theorem mRun_over {M : MS} (h : MOk M) : mOver (mOf M (mRun M).1) := by
  have h1 := run_over (n := M.1.length) (m := M.2.1.length) (W := gl M.2.1) (L := gl M.1) (sk := mSk M) h.1 h.2.1 (fun pl hm => mSk_pos h.2.1 pl hm) 60 (mT M) (by have := h.2.2.2.2.1; show (60 : Int) - M.2.2.2.2.2.1 ≤ (60 : Nat); omega)
  exact h1
theorem Inv.occ_le {M : MS} (h : Inv M) : (M.2.2.1.length : Int) ≤ occF M := by
  obtain ⟨_, _, _, _, hc, _⟩ := h
  unfold Cnt at hc
  unfold occF
  rw [hc]
  split
  · exact Int.le_refl _
  · exact cntF_mono (Nat.min_le_right _ _)
theorem Inv.occ_eq {M : MS} (h : Inv M) (ho : mOver M) (hm : ¬ (M.2.1.length : Int) = 0) : (M.2.2.1.length : Int) = occF M := by
  obtain ⟨hM, _, _, _, hc, _⟩ := h
  unfold Cnt at hc
  unfold occF
  simp only [mOver] at ho
  have h5 := hM.2.2.2.2.1
  rw [hc, if_neg hm, if_neg hm]
  congr 1
  omega
/-- a word that was taken out of the line stands in it -/
theorem occ_pos {M : MS} {a : Nat} (hm : ¬ (M.2.1.length : Int) = 0) (h1 : a + M.2.1.length ≤ M.1.length) (h2 : ∀ j : Nat, j < M.2.1.length → gl M.2.1 j = gl M.1 (a + j)) : 0 < occF M := by
  unfold occF
  rw [if_neg hm]
  refine cntF_pos (s := a) (stand_iff.mpr (fun j hj => ?_)) (by omega)
  rw [h2 j hj]
  congr 1
