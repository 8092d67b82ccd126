/-! the state of a search, as plain values: line, word, places found, rules, place, looks, letters compared -/
abbrev MS : Type := List Int32 × List Int32 × List Int32 × Int × Int × Int × Int × Int
/-- state, recorded states (the oldest first), slots, text -/
abbrev SS : Type := MS × List MS × (Nat → Option MS) × List Int32
def gl (l : List Int32) : Nat → Int32 := fun j => l.getD j 0
def mSk (M : MS) : Int → Int → Int := skS M.2.2.2.1 M.2.2.2.2.1 M.2.1.length (gl M.2.1) (gl M.1)
def mT (M : MS) : LT := (M.2.2.2.2.2.1, M.2.2.2.2.2.2.1, M.2.2.2.2.2.2.2, M.2.2.1)
def mOf (M : MS) (t : LT) : MS := (M.1, M.2.1, t.2.2.2, M.2.2.2.1, M.2.2.2.2.1, t.1, t.2.1, t.2.2.1)
def mOver (M : MS) : Prop := (M.2.1.length : Int) = 0 ∨ (M.1.length : Int) - M.2.1.length + 1 ≤ M.2.2.2.2.2.1
def mD (M : MS) (s : Int) : Int := diffF M.2.1.length (gl M.2.1) (gl M.1) s
def mLook (M : MS) : MS := mOf M (lookS M.2.1.length (gl M.2.1) (gl M.1) (mSk M) (mT M))
def mRun (M : MS) : LT × Int := runS M.1.length M.2.1.length (gl M.2.1) (gl M.1) (mSk M) 60 (mT M)
def bgn (M : MS) : MS := (M.1, M.2.1, [], M.2.2.2.1, M.2.2.2.2.1, 0, 0, 0)
def MOk (M : MS) : Prop := M.1.length ≤ 60 ∧ M.2.1.length ≤ 16 ∧ (M.2.2.1.length : Int) ≤ M.2.2.2.2.2.1 ∧ M.2.2.1.length ≤ 60 ∧ 0 ≤ M.2.2.2.2.2.1 ∧ M.2.2.2.2.2.1 ≤ 100 ∧ 0 ≤ M.2.2.2.2.2.2.1 ∧ M.2.2.2.2.2.2.1 ≤ M.2.2.2.2.2.1 ∧ 0 ≤ M.2.2.2.2.2.2.2 ∧ M.2.2.2.2.2.2.2 ≤ 16 * M.2.2.2.2.2.2.1 ∧ 0 ≤ M.2.2.2.1 ∧ M.2.2.2.1 ≤ 1 ∧ 0 ≤ M.2.2.2.2.1 ∧ M.2.2.2.2.1 ≤ 1 ∧ (M.2.1.length = 0 ∨ M.1.length < M.2.1.length → M.2.2.2.2.2.1 = 0 ∧ M.2.2.2.2.2.2.1 = 0)
theorem skS_rng {lr er : Int} {m : Nat} {W L : Nat → Int32} {pl d : Int} (hm : 0 < m ∧ m ≤ 16) (h1 : -1 ≤ d) (h2 : d < m) : 1 ≤ skS lr er m W L pl d ∧ skS lr er m W L pl d ≤ 17 := by
  have a1 := lastF_rng m W (L (pl + d).toNat)
  have a2 := perF_spec (W := W) hm.1
  have a4 := a2.2.1
  have a5 := a2.2.2.1
  simp only [skS]
  by_cases hd : d = -1
  · rw [if_pos hd]; omega
  · have a3 := endF_spec (W := W) (m := m) (j := d.toNat) (by omega)
    have a6 := a3.2.1
    have a7 := a3.2.2.1
    rw [if_neg hd]
    omega
theorem MOk.bgn {M : MS} (h : MOk M) : MOk (bgn M) := by
  obtain ⟨line, word, found, lr, er, pl, lk, cp⟩ := M
  obtain ⟨h1, h2, _, _, _, _, _, _, _, _, h11, h12, h13, h14, _⟩ := h
  exact ⟨h1, h2, Int.le_refl _, Nat.zero_le _, Int.le_refl _, by show (0 : Int) ≤ 100; omega, Int.le_refl _, Int.le_refl _, Int.le_refl _, by show (0 : Int) ≤ 16 * 0; omega, h11, h12, h13, h14, fun _ => ⟨rfl, rfl⟩⟩
theorem MOk.look {M : MS} (h : MOk M) (ho : ¬ mOver M) : MOk (mLook M) := by
  obtain ⟨line, word, found, lr, er, pl, lk, cp⟩ := M
  simp only [mOver] at ho
  simp only [MOk] at h
  have hd := diffF_rng word.length (gl word) (gl line) pl
  have hs := skS_rng (lr := lr) (er := er) (m := word.length) (W := gl word) (L := gl line) (pl := pl) (d := diffF word.length (gl word) (gl line) pl) (by omega) (by omega) (by omega)
  obtain ⟨t, ht⟩ : ∃ t, t = lookS word.length (gl word) (gl line) (skS lr er word.length (gl word) (gl line)) (pl, lk, cp, found) := ⟨_, rfl⟩
  have e1 : t.1 = pl + skS lr er word.length (gl word) (gl line) pl (diffF word.length (gl word) (gl line) pl) := by rw [ht]; rfl
  have e2 : t.2.1 = lk + 1 := by rw [ht]; rfl
  have e3 : t.2.2.1 = cp + ((word.length : Int) - max (diffF word.length (gl word) (gl line) pl) 0) := by rw [ht]; rfl
  have e4 : t.2.2.2.length ≤ found.length + 1 := by
    rw [ht]
    simp only [lookS]
    split
    · simp
    · omega
  show MOk (mOf (line, word, found, lr, er, pl, lk, cp) (lookS word.length (gl word) (gl line) (skS lr er word.length (gl word) (gl line)) (pl, lk, cp, found)))
  rw [← ht]
  simp only [mOf, MOk]
  refine ⟨?_, ?_, ?_, ?_, ?_, ?_, ?_, ?_, ?_, ?_, ?_, ?_, ?_, ?_, fun q => ?_⟩ <;> omega
theorem mOf_mT (M : MS) : mOf M (mT M) = M := rfl
theorem mRun_ok {M : MS} (h : MOk M) : ∀ (k : Nat) (t : LT), MOk (mOf M t) → MOk (mOf M (runS M.1.length M.2.1.length (gl M.2.1) (gl M.1) (mSk M) k t).1)
  | 0, t, ht => ht
  | k + 1, t, ht => by
    simp only [runS]
    split
    · exact ht
    · rename_i ho
      exact mRun_ok h k _ (MOk.look (M := mOf M t) ht ho)
/-- after sixty looks the search is over -/
theorem run_over {n m : Nat} {W L : Nat → Int32} {sk : Int → Int → Int} (hn : n ≤ 60) (hm : m ≤ 16) (hsk : ∀ pl : Int, 0 < m → 1 ≤ sk pl (diffF m W L pl)) : ∀ (k : Nat) (t : LT), (60 : Int) - t.1 ≤ k → (m : Int) = 0 ∨ (n : Int) - m + 1 ≤ (runS n m W L sk k t).1.1
  | 0, t, h => by
    simp only [runS]
    omega
  | k + 1, t, h => by
    simp only [runS]
    split
    · rename_i q; exact q
    · rename_i q
      refine run_over hn hm hsk k (lookS m W L sk t) ?_
      have := hsk t.1 (by omega)
      simp only [lookS]
      omega
theorem mSk_pos {M : MS} (h : M.2.1.length ≤ 16) (pl : Int) (hm : 0 < M.2.1.length) : 1 ≤ mSk M pl (diffF M.2.1.length (gl M.2.1) (gl M.1) pl) := by
  have hd := diffF_rng M.2.1.length (gl M.2.1) (gl M.1) pl
  exact (skS_rng ⟨hm, h⟩ hd.1 hd.2).1
/-! at how many places the word stands: no skip leaps over one -/
def cntF (m : Nat) (W L : Nat → Int32) : Nat → Int
  | 0 => 0
  | s + 1 => cntF m W L s + (if diffF m W L (s : Int) = -1 then 1 else 0)
theorem stand_iff {m : Nat} {W L : Nat → Int32} {s : Int} : diffF m W L s = -1 ↔ ∀ j : Nat, j < m → W j = L (s + (j : Int)).toNat := by
  have h := diffF_spec W L s m
  constructor
  · intro q j hj
    rw [q] at h
    exact h.2.2.2 j (by omega) hj
  · intro q
    rcases Int.lt_or_le (diffF m W L s) 0 with z | z
    · have := h.1; omega
    · have h2 := h.2.1
      have h3 := q (diffF m W L s).toNat (by omega)
      rw [show (((diffF m W L s).toNat : Nat) : Int) = diffF m W L s by omega] at h3
      exact absurd h3 (h.2.2.1 z)
theorem no_leap {m : Nat} {W L : Nat → Int32} {s : Nat} {t : Nat} (ht : 0 < t) (hlt : (t : Int) < skS 1 1 m W L (s : Int) (diffF m W L (s : Int))) : ¬ diffF m W L ((s + t : Nat) : Int) = -1 := by
  intro hst
  have hstand := stand_iff.mp hst
  have hd := diffF_spec W L (s : Int) m
  rcases Nat.eq_zero_or_pos m with hm | hm
  · subst hm
    simp only [diffF, skS, if_true, perF] at hlt
    omega
  by_cases q : diffF m W L (s : Int) = -1
  · rw [q] at hlt
    simp only [skS, if_true] at hlt
    have hs := stand_iff.mp q
    refine (perF_spec (W := W) hm).2.2.2 t ht (by omega) (fun i a b => ?_)
    rw [hs i a, hstand (i - t) (by omega)]
    congr 1
    omega
  · generalize hdd : diffF m W L (s : Int) = d at hd hlt q
    obtain ⟨d1, d2, d3, d4⟩ := hd
    have hd0 : 0 ≤ d := by omega
    simp only [skS, if_neg q] at hlt
    rw [if_neg (show ¬ (1 : Int) = 0 by decide), if_neg (show ¬ (1 : Int) = 0 by decide)] at hlt
    have hL := lastF_spec W (L ((s : Int) + d).toNat) m
    generalize hl : lastF m W (L ((s : Int) + d).toNat) = la at hL hlt
    obtain ⟨l1, l2, l3, l4⟩ := hL
    by_cases z : (t : Int) < d - la
    · -- the letter skip
      rcases Nat.lt_or_ge d.toNat t with y | y
      · omega
      · have h5 := hstand (d.toNat - t) (by omega)
        refine l4 (d.toNat - t) (by omega) (by omega) ?_
        rw [h5]
        congr 1
        omega
    · -- the end skip
      have he := endF_spec (W := W) (m := m) (j := d.toNat) (by omega)
      refine he.2.2.2 t ht (by omega) ⟨fun a b => ?_, fun i a b c => ?_⟩
      · refine d3 hd0 ?_
        rw [b, hstand (d.toNat - t) (by omega)]
        congr 1
        omega
      · rw [d4 i (by omega) a, hstand (i - t) (by omega)]
        congr 1
        omega
theorem cnt_skip {m : Nat} {W L : Nat → Int32} {s : Nat} : ∀ k : Nat, (∀ t : Nat, t < k → ¬ diffF m W L ((s + t : Nat) : Int) = -1) → cntF m W L (s + k) = cntF m W L s
  | 0, _ => rfl
  | k + 1, h => by
    show cntF m W L (s + k) + (if diffF m W L ((s + k : Nat) : Int) = -1 then 1 else 0) = _
    rw [if_neg (h k (by omega)), cnt_skip k (fun t ht => h t (by omega))]
    omega
/-- the search with both rules finds as many places as there are -/
theorem run_cnt {n m : Nat} {W L : Nat → Int32} (hm : 0 < m ∧ m ≤ 16) (hn : n ≤ 60) (hmn : m ≤ n) : ∀ (k : Nat) (pl lk cp : Int) (fo : List Int32), 0 ≤ pl → (60 : Int) - pl ≤ k → (fo.length : Int) = cntF m W L (min pl.toNat (n - m + 1)) → ((runS n m W L (skS 1 1 m W L) k (pl, lk, cp, fo)).1.2.2.2.length : Int) = cntF m W L (n - m + 1)
  | 0, pl, lk, cp, fo, h0, h1, h2 => by
    simp only [runS]
    rw [h2]
    congr 1
    omega
  | k + 1, pl, lk, cp, fo, h0, h1, h2 => by
    simp only [runS]
    split
    · rename_i q
      show (fo.length : Int) = _
      rw [h2]
      congr 1
      omega
    · rename_i q
      have hd := diffF_rng m W L pl
      have hs := skS_rng (lr := 1) (er := 1) (W := W) (L := L) (pl := pl) (d := diffF m W L pl) hm hd.1 hd.2
      have hpl : ((pl.toNat : Nat) : Int) = pl := by omega
      refine run_cnt hm hn hmn k _ _ _ _ (by simp only []; omega) (by simp only []; omega) ?_
      show ((if diffF m W L pl = -1 then fo ++ [iI pl] else fo).length : Int) = _
      have h3 : (fo.length : Int) = cntF m W L pl.toNat := by
        rw [h2]; congr 1; omega
      have h4 : ((if diffF m W L pl = -1 then fo ++ [iI pl] else fo).length : Int) = cntF m W L (pl.toNat + 1) := by
        show _ = cntF m W L pl.toNat + _
        rw [hpl, ← h3]
        split
        · simp
        · simp
      rw [h4]
      obtain ⟨e, he, hle⟩ : ∃ e : Nat, min (pl + skS 1 1 m W L pl (diffF m W L pl)).toNat (n - m + 1) = pl.toNat + 1 + e ∧ (e : Int) + 1 ≤ skS 1 1 m W L pl (diffF m W L pl) := ⟨min (pl + skS 1 1 m W L pl (diffF m W L pl)).toNat (n - m + 1) - (pl.toNat + 1), by omega, by omega⟩
      show _ = cntF m W L (min (pl + skS 1 1 m W L pl (diffF m W L pl)).toNat (n - m + 1))
      rw [he]
      refine (cnt_skip e (fun t ht => ?_)).symm
      have := no_leap (m := m) (W := W) (L := L) (s := pl.toNat) (t := t + 1) (by omega) (by rw [hpl]; omega)
      rw [show pl.toNat + 1 + t = pl.toNat + (t + 1) by omega]
      exact this
/-! the text -/
def errF : List Int32 → Int → Int
  | [], _ => -1
  | x :: t, i => if x.toInt < 97 ∨ 122 < x.toInt then i else errF t (i + 1)
/-- the calls, told over plain values -/
def pushH (h : List MS) (M : MS) : List MS := (if h.length = 6 then h.drop 1 else h) ++ [M]
def spPush (S : SS) (M : MS) : SS := (M, pushH S.2.1 S.1, S.2.2.1, S.2.2.2)
