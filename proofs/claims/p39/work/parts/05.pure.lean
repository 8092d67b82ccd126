/-! what a look finds: plain functions over rows of letters -/
def diffF : Nat → (Nat → Int32) → (Nat → Int32) → Int → Int
  | 0, _, _, _ => -1
  | m + 1, W, L, s => if W m = L (s + (m : Int)).toNat then diffF m W L s else (m : Int)
def DiffAt (m : Nat) (W L : Nat → Int32) (s k : Int) : Prop := -1 ≤ k ∧ k < m ∧ (0 ≤ k → ¬ W k.toNat = L (s + k).toNat) ∧ ∀ j : Nat, k < j → j < m → W j = L (s + (j : Int)).toNat
theorem diffF_spec (W L : Nat → Int32) (s : Int) : ∀ m : Nat, DiffAt m W L s (diffF m W L s)
  | 0 => ⟨by simp only [diffF]; omega, by simp only [diffF]; omega, fun h => by simp only [diffF] at h; omega, fun j _ h => absurd h (Nat.not_lt_zero _)⟩
  | m + 1 => by
    have ih := diffF_spec W L s m
    simp only [diffF]
    split
    · rename_i h
      refine ⟨ih.1, by have := ih.2.1; omega, ih.2.2.1, fun j h1 h2 => ?_⟩
      by_cases e : j = m
      · rw [e]; exact h
      · exact ih.2.2.2 j h1 (by omega)
    · rename_i h
      exact ⟨by omega, by omega, fun _ => by simpa using h, fun j h1 h2 => absurd h2 (by omega)⟩
theorem DiffAt.uniq {m : Nat} {W L : Nat → Int32} {s a b : Int} (h : DiffAt m W L s a) (g : DiffAt m W L s b) : a = b := by
  obtain ⟨h1, h2, h3, h4⟩ := h
  obtain ⟨g1, g2, g3, g4⟩ := g
  rcases Int.lt_trichotomy a b with q | q | q
  · have e : ((b.toNat : Nat) : Int) = b := by omega
    have := h4 b.toNat (by omega) (by omega)
    rw [e] at this
    exact absurd this (g3 (by omega))
  · exact q
  · have e : ((a.toNat : Nat) : Int) = a := by omega
    have := g4 a.toNat (by omega) (by omega)
    rw [e] at this
    exact absurd this (h3 (by omega))
theorem diffF_eq {m : Nat} {W L : Nat → Int32} {s k : Int} (h : DiffAt m W L s k) : k = diffF m W L s := h.uniq (diffF_spec W L s m)
theorem diffF_rng (m : Nat) (W L : Nat → Int32) (s : Int) : -1 ≤ diffF m W L s ∧ diffF m W L s < m := ⟨(diffF_spec W L s m).1, (diffF_spec W L s m).2.1⟩
theorem diffF_congr {m : Nat} {W L W' L' : Nat → Int32} {s : Int} (h0 : 0 ≤ s) (hW : ∀ j : Nat, j < m → W j = W' j) (hL : ∀ j : Nat, s ≤ j → (j : Int) < s + m → L j = L' j) : diffF m W L s = diffF m W' L' s := by
  induction m with
  | zero => rfl
  | succ m ih =>
    simp only [diffF]
    rw [hW m (by omega), hL (s + (m : Int)).toNat (by omega) (by omega), ih (fun j hj => hW j (by omega)) (fun j h1 h2 => hL j h1 (by omega))]
def lastF : Nat → (Nat → Int32) → Int32 → Int
  | 0, _, _ => -1
  | n + 1, f, x => if f n = x then (n : Int) else lastF n f x
def LastW (n : Nat) (f : Nat → Int32) (x : Int32) (k : Int) : Prop := -1 ≤ k ∧ k < n ∧ (0 ≤ k → f k.toNat = x) ∧ ∀ j : Nat, k < j → j < n → ¬ f j = x
theorem lastF_spec (f : Nat → Int32) (x : Int32) : ∀ n : Nat, LastW n f x (lastF n f x)
  | 0 => ⟨by simp only [lastF]; omega, by simp only [lastF]; omega, fun h => by simp only [lastF] at h; omega, fun j _ h => absurd h (Nat.not_lt_zero _)⟩
  | n + 1 => by
    have ih := lastF_spec f x n
    simp only [lastF]
    split
    · rename_i h
      exact ⟨by omega, by omega, fun _ => by simpa using h, fun j h1 h2 => absurd h2 (by omega)⟩
    · rename_i h
      refine ⟨ih.1, by have := ih.2.1; omega, ih.2.2.1, fun j h1 h2 => ?_⟩
      by_cases e : j = n
      · rw [e]; exact h
      · exact ih.2.2.2 j h1 (by omega)
theorem LastW.uniq {n : Nat} {f : Nat → Int32} {x : Int32} {a b : Int} (h : LastW n f x a) (g : LastW n f x b) : a = b := by
  obtain ⟨h1, h2, h3, h4⟩ := h
  obtain ⟨g1, g2, g3, g4⟩ := g
  rcases Int.lt_trichotomy a b with q | q | q
  · exact absurd (g3 (by omega)) (h4 b.toNat (by omega) (by omega))
  · exact q
  · exact absurd (h3 (by omega)) (g4 a.toNat (by omega) (by omega))
theorem lastF_eq {n : Nat} {f : Nat → Int32} {x : Int32} {k : Int} (h : LastW n f x k) : k = lastF n f x := h.uniq (lastF_spec f x n)
theorem lastF_rng (n : Nat) (f : Nat → Int32) (x : Int32) : -1 ≤ lastF n f x ∧ lastF n f x < n := ⟨(lastF_spec f x n).1, (lastF_spec f x n).2.1⟩
theorem lastF_congr {n : Nat} {f g : Nat → Int32} {x : Int32} (h : ∀ j : Nat, j < n → f j = g j) : lastF n f x = lastF n g x := by
  induction n with
  | zero => rfl
  | succ n ih => simp only [lastF]; rw [h n (by omega), ih (fun j hj => h j (by omega))]
theorem lastw_step {f : Nat → Int32} {x : Int32} {n : Nat} {i : Int} (h0 : -1 ≤ i) (hg : ∀ j : Nat, i < j → j < n → ¬ f j = x) (h : ¬ f i.toNat = x) : ∀ j : Nat, i + (-1) < j → j < n → ¬ f j = x := by
  intro j h1 h2
  by_cases e : (j : Int) = i
  · have e2 : j = i.toNat := by omega
    rw [e2]; exact h
  · exact hg j (by omega) h2
theorem diff_step {W L : Nat → Int32} {m : Nat} {s i : Int} (h0 : 0 ≤ i) (hg : ∀ j : Nat, i < j → j < m → W j = L (s + (j : Int)).toNat) (h : W i.toNat = L (s + i).toNat) : ∀ j : Nat, i + (-1) < j → j < m → W j = L (s + (j : Int)).toNat := by
  intro j h1 h2
  by_cases e : (j : Int) = i
  · have e2 : j = i.toNat := by omega
    rw [e2, show ((i.toNat : Nat) : Int) = i by omega]; exact h
  · exact hg j (by omega) h2
/-! rows of numbers -/
def zI (F : Nat → Int) : Nat → Int32 := fun j => iI (F j)
def updZ (F : Nat → Int) (k : Nat) (v : Int) : Nat → Int := fun j => if j = k then v else F j
theorem zI_upd (F : Nat → Int) (k : Nat) (v : Int) : upd (zI F) k (iI v) = zI (updZ F k v) := by
  funext j
  by_cases h : j = k
  · subst h; rw [upd_same]; simp [zI, updZ]
  · rw [upd_ne _ _ h]; simp [zI, updZ, h]
theorem updZ_same (F : Nat → Int) (k : Nat) (v : Int) : updZ F k v k = v := by simp [updZ]
theorem updZ_ne (F : Nat → Int) {k j : Nat} (v : Int) (h : j ≠ k) : updZ F k v j = F j := by simp [updZ, h]
/-! the skip behind a look, out of a table of end skips -/
def skX (B0 : Int) (Kf : Nat → Int) (lr er : Int) (m : Nat) (W L : Nat → Int32) (pl d : Int) : Int :=
  if d = -1 then (if (m : Int) = 0 then 0 else B0) else max (max 1 (if lr = 0 then 1 else d - lastF m W (L (pl + d).toNat))) (if er = 0 then 1 else Kf (d + 1).toNat)
/-- place, looks, letters compared, places found -/
abbrev LT : Type := Int × Int × Int × List Int32
def Rep (n : Int) (f : Nat → Int32) (l : List Int32) : Prop := n = l.length ∧ ∀ j : Nat, j < l.length → f j = l.getD j 0
theorem Rep.snoc {n : Int} {f : Nat → Int32} {l : List Int32} (h : Rep n f l) (x : Int32) : Rep (n + 1) (upd f n.toNat x) (l ++ [x]) := by
  obtain ⟨h1, h2⟩ := h
  have hn : n.toNat = l.length := by omega
  refine ⟨by simp; omega, fun j hj => ?_⟩
  rw [hn]
  by_cases e : j = l.length
  · subst e; rw [upd_same]; simp
  · rw [upd_ne _ _ e, h2 j (by simp at hj; omega)]
    simp only [List.length_append, List.length_cons, List.length_nil] at hj
    rw [List.getD_eq_getElem?_getD, List.getD_eq_getElem?_getD, List.getElem?_append_left (by omega)]
def lookS (m : Nat) (W L : Nat → Int32) (sk : Int → Int → Int) (t : LT) : LT := (t.1 + sk t.1 (diffF m W L t.1), t.2.1 + 1, t.2.2.1 + ((m : Int) - max (diffF m W L t.1) 0), if diffF m W L t.1 = -1 then t.2.2.2 ++ [iI t.1] else t.2.2.2)
def runS (n m : Nat) (W L : Nat → Int32) (sk : Int → Int → Int) : Nat → LT → LT × Int
  | 0, t => (t, 0)
  | k + 1, t => if (m : Int) = 0 ∨ (n : Int) - m + 1 ≤ t.1 then (t, 0) else ((runS n m W L sk k (lookS m W L sk t)).1, (runS n m W L sk k (lookS m W L sk t)).2 + 1)
theorem runS_over {n m : Nat} {W L : Nat → Int32} {sk : Int → Int → Int} {t : LT} (h : (m : Int) = 0 ∨ (n : Int) - m + 1 ≤ t.1) : ∀ k : Nat, runS n m W L sk k t = (t, 0)
  | 0 => rfl
  | k + 1 => by simp only [runS]; rw [if_pos h]
theorem runS_go {n m : Nat} {W L : Nat → Int32} {sk : Int → Int → Int} {t : LT} (h : ¬ ((m : Int) = 0 ∨ (n : Int) - m + 1 ≤ t.1)) (k : Nat) : runS n m W L sk (k + 1) t = ((runS n m W L sk k (lookS m W L sk t)).1, (runS n m W L sk k (lookS m W L sk t)).2 + 1) := by simp only [runS]; rw [if_neg h]
theorem skX_rng {B0 : Int} {Kf : Nat → Int} {lr er : Int} {m : Nat} {W L : Nat → Int32} {pl d : Int} (hB : 0 ≤ B0 ∧ B0 ≤ 17) (hk : ∀ j : Nat, 0 ≤ Kf j ∧ Kf j ≤ 17) (h1 : -1 ≤ d) (h2 : d < m) (h3 : m ≤ 16) : 0 ≤ skX B0 Kf lr er m W L pl d ∧ skX B0 Kf lr er m W L pl d ≤ 17 := by
  have a1 := lastF_rng m W (L (pl + d).toNat)
  have a2 := hk (d + 1).toNat
  simp only [skX]
  omega
theorem skX_pos {B0 : Int} {Kf : Nat → Int} {lr er : Int} {m : Nat} {W L : Nat → Int32} {pl d : Int} (hB : 1 ≤ B0) (hm : 0 < m) : 1 ≤ skX B0 Kf lr er m W L pl d := by
  simp only [skX]
  omega
theorem look_rep {nf nf1 d pl : Int} {Ff Ff1 : Nat → Int32} {fo : List Int32} (h : Rep nf Ff fo) (q : (d = -1 ∧ nf1 = nf + 1 ∧ Ff1 = upd Ff nf.toNat (iI pl)) ∨ (¬ d = -1 ∧ nf1 = nf ∧ Ff1 = Ff)) : Rep nf1 Ff1 (if d = -1 then fo ++ [iI pl] else fo) := by
  rcases q with ⟨h1, rfl, rfl⟩ | ⟨h1, rfl, rfl⟩
  · rw [if_pos h1]; exact h.snoc _
  · rw [if_neg h1]; exact h
theorem run_step {n m : Nat} {W L : Nat → Int32} {sk : Int → Int → Int} {i pl lk cp mI : Int} {fo : List Int32} {R : LT × Int} (hm : (m : Int) = mI) (hi : 0 ≤ i) (hlt : i < 60) (hno : ¬ ((m : Int) = 0 ∨ (n : Int) - m + 1 ≤ pl))
    (h : (runS n m W L sk (60 - i).toNat (pl, lk, cp, fo)).1 = R.1 ∧ i + (runS n m W L sk (60 - i).toNat (pl, lk, cp, fo)).2 = R.2) :
    (runS n m W L sk (60 - (i + 1)).toNat (pl + sk pl (diffF m W L pl), lk + 1, cp + (mI - max (diffF m W L pl) 0), if diffF m W L pl = -1 then fo ++ [iI pl] else fo)).1 = R.1 ∧ i + 1 + (runS n m W L sk (60 - (i + 1)).toNat (pl + sk pl (diffF m W L pl), lk + 1, cp + (mI - max (diffF m W L pl) 0), if diffF m W L pl = -1 then fo ++ [iI pl] else fo)).2 = R.2 := by
  subst hm
  rw [show (60 - i).toNat = (60 - (i + 1)).toNat + 1 by omega, runS_go hno] at h
  refine ⟨h.1, ?_⟩
  have h2 := h.2
  simp only [lookS] at h2
  omega
/-! the table of the end skips, as the program makes it -/
def growF (m : Int) (W : Nat → Int32) (B : Nat → Int) (e : Int) : Nat → Int → (Nat → Int) → Int × (Nat → Int)
  | 0, b, K => (b, K)
  | n + 1, b, K => if b ≤ 0 ∨ m < b ∨ W (e - 1).toNat = W (b - 1).toNat then (b, K) else growF m W B e n (B b.toNat) (if K b.toNat = 0 then updZ K b.toNat (b - e) else K)
theorem growF_stop {m : Int} {W : Nat → Int32} {B : Nat → Int} {e b : Int} {K : Nat → Int} (h : b ≤ 0 ∨ m < b ∨ W (e - 1).toNat = W (b - 1).toNat) : ∀ n : Nat, growF m W B e n b K = (b, K)
  | 0 => rfl
  | n + 1 => by simp only [growF]; rw [if_pos h]
theorem growF_go {m : Int} {W : Nat → Int32} {B : Nat → Int} {e b : Int} {K : Nat → Int} (h : ¬ (b ≤ 0 ∨ m < b ∨ W (e - 1).toNat = W (b - 1).toNat)) (n : Nat) : growF m W B e (n + 1) b K = growF m W B e n (B b.toNat) (if K b.toNat = 0 then updZ K b.toNat (b - e) else K) := by simp only [growF]; rw [if_neg h]
theorem updZ_rng {K : Nat → Int} {k : Nat} {v : Int} (hK : ∀ j : Nat, 0 ≤ K j ∧ K j ≤ 17) (hv : 0 ≤ v ∧ v ≤ 17) : ∀ j : Nat, 0 ≤ updZ K k v j ∧ updZ K k v j ≤ 17 := by
  intro j
  unfold updZ
  split
  · exact hv
  · exact hK j
theorem growF_rng {m : Int} {W : Nat → Int32} {B : Nat → Int} {e : Int} (hB : ∀ j : Nat, e ≤ j → (j : Int) ≤ m → (j : Int) + 1 ≤ B j ∧ B j ≤ m + 1) (he : 0 < e ∧ m ≤ 16) : ∀ (n : Nat) (b : Int) (K : Nat → Int), e + 1 ≤ b → b ≤ m + 1 → (∀ j : Nat, 0 ≤ K j ∧ K j ≤ 17) →
    (e + 1 ≤ (growF m W B e n b K).1 ∧ (growF m W B e n b K).1 ≤ m + 1) ∧ ∀ j : Nat, 0 ≤ (growF m W B e n b K).2 j ∧ (growF m W B e n b K).2 j ≤ 17
  | 0, b, K, h1, h2, h3 => ⟨⟨h1, h2⟩, h3⟩
  | n + 1, b, K, h1, h2, h3 => by
    simp only [growF]
    split
    · exact ⟨⟨h1, h2⟩, h3⟩
    · rename_i h
      have hb := hB b.toNat (by omega) (by omega)
      refine growF_rng hB he n _ _ (by omega) (by omega) ?_
      split
      · exact updZ_rng h3 (by omega)
      · exact h3
def findF (m : Nat) (W : Nat → Int32) : Nat → Int → (Nat → Int) → (Nat → Int) → (Nat → Int) × (Nat → Int)
  | 0, _, B, K => (B, K)
  | e + 1, b, B, K => findF m W e ((growF m W B ((e : Int) + 1) (m + 1) b K).1 - 1) (updZ B e ((growF m W B ((e : Int) + 1) (m + 1) b K).1 - 1)) (growF m W B ((e : Int) + 1) (m + 1) b K).2
def tailF (B : Nat → Int) : Nat → Nat → Int → (Nat → Int) → (Nat → Int)
  | 0, _, _, K => K
  | n + 1, e, b, K => tailF B n (e + 1) (if (e : Int) = b then B e else b) (if K e = 0 then updZ K e b else K)
def zF (i : Int) (K : Nat → Int) : Nat → Int := fun j => if (j : Int) < i then 0 else K j
def studyB (m : Nat) (W : Nat → Int32) (B K : Nat → Int) : Nat → Int := (findF m W m ((m : Int) + 1) (updZ B m ((m : Int) + 1)) (zF ((m : Int) + 1) K)).1
def studyK (m : Nat) (W : Nat → Int32) (B K : Nat → Int) : Nat → Int := tailF (studyB m W B K) (m + 1) 0 (studyB m W B K 0) (findF m W m ((m : Int) + 1) (updZ B m ((m : Int) + 1)) (zF ((m : Int) + 1) K)).2
theorem zF_step (i : Int) (h : 0 ≤ i) (K : Nat → Int) : updZ (zF i K) i.toNat 0 = zF (i + 1) K := by
  funext j
  simp only [updZ, zF]
  by_cases e : j = i.toNat
  · rw [if_pos e, if_pos (by omega)]
  · rw [if_neg e]
    by_cases q : (j : Int) < i
    · rw [if_pos q, if_pos (by omega)]
    · rw [if_neg q, if_neg (by omega)]
theorem zF_0 (K : Nat → Int) : zF 0 K = K := by
  funext j
  simp only [zF]
  rw [if_neg (by omega)]
theorem zF_rng {K : Nat → Int} (hK : ∀ j : Nat, 0 ≤ K j ∧ K j ≤ 17) (i : Int) : ∀ j : Nat, 0 ≤ zF i K j ∧ zF i K j ≤ 17 := by
  intro j
  simp only [zF]
  split
  · omega
  · exact hK j
theorem find_rngB {B : Nat → Int} {en e g : Int} (he : 0 < e ∧ e ≤ en) (hB : ∀ j : Nat, e ≤ j → (j : Int) ≤ en → (j : Int) + 1 ≤ B j ∧ B j ≤ en + 1) (hg : e + 1 ≤ g ∧ g ≤ en + 1) : ∀ j : Nat, e + (-1) ≤ j → (j : Int) ≤ en → (j : Int) + 1 ≤ updZ B (e - 1).toNat (g - 1) j ∧ updZ B (e - 1).toNat (g - 1) j ≤ en + 1 := by
  intro j h1 h2
  by_cases q : j = (e - 1).toNat
  · rw [q, updZ_same]; omega
  · rw [updZ_ne _ _ q]; exact hB j (by omega) h2
theorem find_step {m : Nat} {W : Nat → Int32} {en e b : Int} {B K : Nat → Int} {R : (Nat → Int) × (Nat → Int)} (hen : en = (m : Int)) (he : 0 < e) (h : findF m W e.toNat b B K = R) : findF m W (e + (-1)).toNat ((growF en W B e (en + 1).toNat b K).1 - 1) (updZ B (e - 1).toNat ((growF en W B e (en + 1).toNat b K).1 - 1)) (growF en W B e (en + 1).toNat b K).2 = R := by
  subst hen
  have h1 : e.toNat = (e + (-1)).toNat + 1 := by omega
  have h2 : (((e + (-1)).toNat : Nat) : Int) + 1 = e := by omega
  have h3 : (e - 1).toNat = (e + (-1)).toNat := by omega
  have h4 : ((m : Int) + 1).toNat = m + 1 := by omega
  rw [h1, findF, h2] at h
  rw [h3, h4]
  exact h
theorem tail_step {en e b b2 : Int} {B K K2 : Nat → Int} {R : Nat → Int} (he : 0 ≤ e) (hlt : e ≤ en) (h : tailF B (en + 1 - e).toNat e.toNat b K = R) (hb : (if e = b then B e.toNat else b) = b2) (hK : (if K e.toNat = 0 then updZ K e.toNat b else K) = K2) : tailF B (en + 1 - (e + 1)).toNat (e + 1).toNat b2 K2 = R := by
  have h1 : (en + 1 - e).toNat = (en + 1 - (e + 1)).toNat + 1 := by omega
  have h2 : (e + 1).toNat = e.toNat + 1 := by omega
  have h3 : ((e.toNat : Nat) : Int) = e := by omega
  rw [h1, tailF, h3, hb, hK] at h
  rw [h2]
  exact h
theorem findF_rng {m : Nat} (hm : m ≤ 16) {W : Nat → Int32} : ∀ (e : Nat) (b : Int) (B K : Nat → Int), e ≤ m → (e : Int) + 1 ≤ b → b ≤ (m : Int) + 1 → (∀ j : Nat, (e : Int) ≤ j → (j : Int) ≤ m → (j : Int) + 1 ≤ B j ∧ B j ≤ (m : Int) + 1) → (∀ j : Nat, 0 ≤ K j ∧ K j ≤ 17) →
    (∀ j : Nat, (j : Int) ≤ m → (j : Int) + 1 ≤ (findF m W e b B K).1 j ∧ (findF m W e b B K).1 j ≤ (m : Int) + 1) ∧ ∀ j : Nat, 0 ≤ (findF m W e b B K).2 j ∧ (findF m W e b B K).2 j ≤ 17
  | 0, b, B, K, h1, h2, h3, h4, h5 => ⟨fun j hj => h4 j (by omega) hj, h5⟩
  | e + 1, b, B, K, h1, h2, h3, h4, h5 => by
    have hg := growF_rng (m := (m : Int)) (W := W) (B := B) (e := (e : Int) + 1) (fun j q1 q2 => h4 j (by omega) q2) ⟨by omega, by omega⟩ (m + 1) b K (by omega) h3 h5
    simp only [findF]
    refine findF_rng hm e _ _ _ (by omega) (by omega) (by omega) (fun j q1 q2 => ?_) hg.2
    by_cases q : j = e
    · rw [q, updZ_same]; omega
    · rw [updZ_ne _ _ q]; exact h4 j (by omega) q2
theorem tailF_rng {B : Nat → Int} {m : Nat} (hm : m ≤ 16) (hB : ∀ j : Nat, (j : Int) ≤ m → 0 ≤ B j ∧ B j ≤ 17) : ∀ (n e : Nat) (b : Int) (K : Nat → Int), n + e ≤ m + 1 → 0 ≤ b ∧ b ≤ 17 → (∀ j : Nat, 0 ≤ K j ∧ K j ≤ 17) → ∀ j : Nat, 0 ≤ tailF B n e b K j ∧ tailF B n e b K j ≤ 17
  | 0, e, b, K, _, _, h => h
  | n + 1, e, b, K, h1, h2, h3 => by
    simp only [tailF]
    refine tailF_rng hm hB n (e + 1) _ _ (by omega) ?_ ?_
    · split
      · exact hB e (by omega)
      · exact h2
    · split
      · exact updZ_rng h3 h2
      · exact h3
