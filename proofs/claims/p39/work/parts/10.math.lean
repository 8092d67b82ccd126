/-! periods and end skips, told by trying; what the table tells -/
def leastF (p : Nat → Bool) : Nat → Nat → Nat
  | 0, k => k
  | n + 1, k => if p k = true then k else leastF p n (k + 1)
theorem leastF_spec (p : Nat → Bool) : ∀ (n k k0 : Nat), k ≤ k0 → k0 < k + n → p k0 = true → p (leastF p n k) = true ∧ k ≤ leastF p n k ∧ leastF p n k ≤ k0 ∧ ∀ j, k ≤ j → j < leastF p n k → p j = false
  | 0, k, k0, h1, h2, _ => by omega
  | n + 1, k, k0, h1, h2, h3 => by
    simp only [leastF]
    split
    · rename_i h; exact ⟨h, Nat.le_refl _, h1, fun j a b => by omega⟩
    · rename_i h
      have hne : k ≠ k0 := fun e => h (e ▸ h3)
      obtain ⟨q1, q2, q3, q4⟩ := leastF_spec p n (k + 1) k0 (by omega) (by omega) h3
      refine ⟨q1, by omega, q3, fun j a b => ?_⟩
      by_cases e : j = k
      · rw [e]; simpa using h
      · exact q4 j (by omega) b
def perP (m : Nat) (W : Nat → Int32) (p : Nat) : Prop := ∀ i : Nat, i < m → p ≤ i → W i = W (i - p)
def endP (m : Nat) (W : Nat → Int32) (j k : Nat) : Prop := (k ≤ j → ¬ W j = W (j - k)) ∧ ∀ i : Nat, i < m → j < i → k ≤ i → W i = W (i - k)
def perB (m : Nat) (W : Nat → Int32) (p : Nat) : Bool := decide (∀ i : Nat, i < m → p ≤ i → W i = W (i - p))
def endB (m : Nat) (W : Nat → Int32) (j k : Nat) : Bool := decide ((k ≤ j → ¬ W j = W (j - k)) ∧ ∀ i : Nat, i < m → j < i → k ≤ i → W i = W (i - k))
theorem perB_iff {m : Nat} {W : Nat → Int32} {p : Nat} : perB m W p = true ↔ perP m W p := decide_eq_true_iff
theorem endB_iff {m : Nat} {W : Nat → Int32} {j k : Nat} : endB m W j k = true ↔ endP m W j k := decide_eq_true_iff
def perF (m : Nat) (W : Nat → Int32) : Nat := if m = 0 then 0 else leastF (perB m W) m 1
def endF (m : Nat) (W : Nat → Int32) (j : Nat) : Nat := leastF (endB m W j) m 1
theorem perF_spec {m : Nat} {W : Nat → Int32} (hm : 0 < m) : perP m W (perF m W) ∧ 1 ≤ perF m W ∧ perF m W ≤ m ∧ ∀ p, 1 ≤ p → p < perF m W → ¬ perP m W p := by
  have h := leastF_spec (perB m W) m 1 m hm (by omega) (perB_iff.mpr (fun i a b => by omega))
  unfold perF
  rw [if_neg (by omega)]
  exact ⟨perB_iff.mp h.1, h.2.1, h.2.2.1, fun p a b q => absurd (perB_iff.mpr q) (by rw [h.2.2.2 p a b]; exact Bool.false_ne_true)⟩
theorem endF_spec {m : Nat} {W : Nat → Int32} {j : Nat} (hj : j < m) : endP m W j (endF m W j) ∧ 1 ≤ endF m W j ∧ endF m W j ≤ m ∧ ∀ k, 1 ≤ k → k < endF m W j → ¬ endP m W j k := by
  have h := leastF_spec (endB m W j) m 1 m (by omega) (by omega) (endB_iff.mpr ⟨fun h => by omega, fun i a b c => by omega⟩)
  exact ⟨endB_iff.mp h.1, h.2.1, h.2.2.1, fun p a b q => absurd (endB_iff.mpr q) (by rw [h.2.2.2 p a b]; exact Bool.false_ne_true)⟩
theorem perF_uniq {m : Nat} {W : Nat → Int32} {p : Nat} (h1 : 1 ≤ p) (h2 : p ≤ m) (h : perP m W p) (hmin : ∀ q, 1 ≤ q → q < p → ¬ perP m W q) : p = perF m W := by
  obtain ⟨a, b, c, d⟩ := perF_spec (W := W) (show 0 < m by omega)
  rcases Nat.lt_trichotomy p (perF m W) with q | q | q
  · exact absurd h (d p h1 q)
  · exact q
  · exact absurd a (hmin _ b q)
theorem endF_uniq {m : Nat} {W : Nat → Int32} {j k : Nat} (hj : j < m) (h1 : 1 ≤ k) (h : endP m W j k) (hmin : ∀ q, 1 ≤ q → q < k → ¬ endP m W j q) : k = endF m W j := by
  obtain ⟨a, b, c, d⟩ := endF_spec (W := W) hj
  rcases Nat.lt_trichotomy k (endF m W j) with q | q | q
  · exact absurd h (d k h1 q)
  · exact q
  · exact absurd a (hmin _ b q)
theorem perB_congr {m : Nat} {W V : Nat → Int32} (h : ∀ j : Nat, j < m → W j = V j) (p : Nat) : perB m W p = perB m V p := by
  unfold perB
  congr 1
  refine propext ⟨fun q i a b => ?_, fun q i a b => ?_⟩
  · rw [← h i a, ← h (i - p) (by omega)]; exact q i a b
  · rw [h i a, h (i - p) (by omega)]; exact q i a b
theorem endB_congr {m : Nat} {W V : Nat → Int32} (h : ∀ j : Nat, j < m → W j = V j) {j : Nat} (hj : j < m) (k : Nat) : endB m W j k = endB m V j k := by
  unfold endB
  congr 1
  refine propext ⟨fun q => ⟨fun a => ?_, fun i a b c => ?_⟩, fun q => ⟨fun a => ?_, fun i a b c => ?_⟩⟩
  · rw [← h j hj, ← h (j - k) (by omega)]; exact q.1 a
  · rw [← h i a, ← h (i - k) (by omega)]; exact q.2 i a b c
  · rw [h j hj, h (j - k) (by omega)]; exact q.1 a
  · rw [h i a, h (i - k) (by omega)]; exact q.2 i a b c
theorem perF_congr {m : Nat} {W V : Nat → Int32} (h : ∀ j : Nat, j < m → W j = V j) : perF m W = perF m V := by
  unfold perF
  rw [show perB m W = perB m V from funext (perB_congr h)]
theorem endF_congr {m : Nat} {W V : Nat → Int32} (h : ∀ j : Nat, j < m → W j = V j) {j : Nat} (hj : j < m) : endF m W j = endF m V j := by
  unfold endF
  rw [show endB m W j = endB m V j from funext (endB_congr h hj)]
/-! borders of the ends of a word: the end that begins at b is one of the end that begins at e -/
def Bd (m : Nat) (W : Nat → Int32) (e b : Nat) : Prop := e < b ∧ b ≤ m ∧ ∀ x : Nat, b ≤ x → x < m → W x = W (x - (b - e))
theorem Bd_end {m : Nat} {W : Nat → Int32} {e : Nat} (h : e < m) : Bd m W e m := ⟨h, Nat.le_refl _, fun x a b => by omega⟩
theorem Bd_trans {m : Nat} {W : Nat → Int32} {e b c : Nat} (h : Bd m W e b) (hc : b < c) : Bd m W e c ↔ Bd m W b c := by
  obtain ⟨h1, h2, h3⟩ := h
  constructor
  · rintro ⟨_, q2, q3⟩
    refine ⟨hc, q2, fun x a a2 => ?_⟩
    rw [q3 x a a2, h3 (x - (c - b)) (by omega) (by omega)]
    congr 1
    omega
  · rintro ⟨_, q2, q3⟩
    refine ⟨by omega, q2, fun x a a2 => ?_⟩
    rw [q3 x a a2, h3 (x - (c - b)) (by omega) (by omega)]
    congr 1
    omega
theorem Bd_step {m : Nat} {W : Nat → Int32} {e b : Nat} (hb : b < m) : Bd m W e b ↔ e < b ∧ Bd m W (e + 1) (b + 1) ∧ W e = W b := by
  constructor
  · rintro ⟨h1, h2, h3⟩
    refine ⟨h1, ⟨by omega, by omega, fun x a a2 => ?_⟩, ?_⟩
    · rw [h3 x (by omega) a2]; congr 1; omega
    · rw [h3 b (Nat.le_refl _) hb]; congr 1; omega
  · rintro ⟨h1, ⟨_, h2, h3⟩, h4⟩
    refine ⟨h1, by omega, fun x a a2 => ?_⟩
    by_cases e0 : x = b
    · subst e0; rw [← h4]; congr 1; omega
    · rw [h3 x (by omega) a2]; congr 1; omega
/-- the widest border of each end from e on stands in B; that of the empty end is m + 1 -/
def MinB (m : Nat) (W : Nat → Int32) (e : Nat) (b : Int) : Prop := if e = m then b = (m : Int) + 1 else (0 ≤ b ∧ Bd m W e b.toNat ∧ ∀ c : Nat, (c : Int) < b → ¬ Bd m W e c)
def AllB (m : Nat) (W : Nat → Int32) (e : Nat) (B : Nat → Int) : Prop := ∀ j : Nat, e ≤ j → j ≤ m → MinB m W j (B j)
/-- what is noted for b: the last end e' (of those from e on) of which b is a border behind another letter -/
def Mis (m : Nat) (W : Nat → Int32) (e b : Nat) : Prop := 1 ≤ e ∧ Bd m W e b ∧ ¬ W (e - 1) = W (b - 1)
def PK (m : Nat) (W : Nat → Int32) (e b : Nat) (K : Nat → Int) : Prop := (K b = 0 ∧ ∀ e2 : Nat, e ≤ e2 → ¬ Mis m W e2 b) ∨ ∃ e2 : Nat, e ≤ e2 ∧ Mis m W e2 b ∧ K b = (b : Int) - e2 ∧ ∀ e3 : Nat, e2 < e3 → ¬ Mis m W e3 b
theorem PK.down {m : Nat} {W : Nat → Int32} {e b : Nat} {K : Nat → Int} (h : PK m W (e + 1) b K) (hn : ¬ Mis m W e b) : PK m W e b K := by
  rcases h with ⟨h1, h2⟩ | ⟨e2, h1, h2⟩
  · refine Or.inl ⟨h1, fun e2 q => ?_⟩
    by_cases q2 : e2 = e
    · rw [q2]; exact hn
    · exact h2 e2 (by omega)
  · exact Or.inr ⟨e2, by omega, h2⟩
theorem PK.same {m : Nat} {W : Nat → Int32} {e b : Nat} {K K2 : Nat → Int} (h : PK m W e b K) (hk : K2 b = K b) : PK m W e b K2 := by
  unfold PK at h ⊢
  rw [hk]
  exact h
theorem grow_ok {m : Nat} {W : Nat → Int32} {B : Nat → Int} {e : Nat} (he : 1 ≤ e) (hem : e ≤ m) (hB : AllB m W e B) : ∀ (n b : Nat) (K : Nat → Int), m + 2 ≤ n + b → (b = m + 1 ∨ Bd m W e b) → b ≤ m + 1 → e < b → (∀ c : Nat, Bd m W e c → c < b → ¬ W (e - 1) = W (c - 1)) → (∀ c : Nat, c ≤ m → (c < b → PK m W e c K) ∧ (b ≤ c → PK m W (e + 1) c K)) →
    ∃ (g : Nat) (K2 : Nat → Int), growF (m : Int) W B (e : Int) n (b : Int) K = ((g : Int), K2) ∧ (g = m + 1 ∨ (Bd m W e g ∧ W (e - 1) = W (g - 1))) ∧ e < g ∧ g ≤ m + 1 ∧ (∀ c : Nat, Bd m W e c → c < g → ¬ W (e - 1) = W (c - 1)) ∧ ∀ c : Nat, c ≤ m → PK m W e c K2
  | 0, b, K, h1, h2, h3, h4, h5, h6 => by omega
  | n + 1, b, K, h1, h2, h3, h4, h5, h6 => by
    have e1 : ((e : Int) - 1).toNat = e - 1 := by omega
    have e2 : ((b : Int) - 1).toNat = b - 1 := by omega
    by_cases hs : (b : Int) ≤ 0 ∨ (m : Int) < b ∨ W ((e : Int) - 1).toNat = W ((b : Int) - 1).toNat
    · rw [growF_stop hs]
      rw [e1, e2] at hs
      refine ⟨b, K, rfl, ?_, h4, h3, h5, fun c hc => ?_⟩
      · rcases h2 with h | h
        · exact Or.inl h
        · rcases hs with q | q | q
          · omega
          · exact Or.inl (by omega)
          · exact Or.inr ⟨h, q⟩
      · rcases Nat.lt_or_ge c b with q | q
        · exact (h6 c hc).1 q
        · have hp := (h6 c hc).2 q
          by_cases hm : Mis m W e c
          · rcases hs with q1 | q1 | q1
            · omega
            · omega
            · obtain ⟨m1, m2, m3⟩ := hm
              have hbb : Bd m W e b := by
                rcases h2 with h | h
                · omega
                · exact h
              have hcb : b < c := by
                rcases Nat.lt_or_ge b c with z | z
                · exact z
                · have : c = b := by omega
                  subst this
                  exact absurd q1 m3
              have hbc := (Bd_trans hbb hcb).mp m2
              have hmis : Mis m W b c := ⟨by omega, hbc, by rw [← q1]; exact m3⟩
              rcases hp with ⟨_, p2⟩ | ⟨x, p1, p2⟩
              · exact absurd hmis (p2 b (by omega))
              · exact Or.inr ⟨x, by omega, p2⟩
          · exact hp.down hm
    · rw [growF_go hs]
      rw [e1, e2] at hs
      have hb0 : 0 < b := by omega
      have hbm : b ≤ m := by
        rcases Nat.lt_or_ge m b with q | q
        · exact absurd (Or.inr (Or.inl (by omega))) hs
        · exact q
      have hmm : ¬ W (e - 1) = W (b - 1) := fun q => hs (Or.inr (Or.inr q))
      have hbb : Bd m W e b := by
        rcases h2 with h | h
        · omega
        · exact h
      have e3 : ((b : Nat) : Int).toNat = b := by omega
      rw [e3]
      have hMb := hB b (by omega) hbm
      -- the next border
      obtain ⟨b2, hb2, q1, q2, q3, q4⟩ : ∃ b2 : Nat, B b = (b2 : Int) ∧ (b2 = m + 1 ∨ Bd m W b b2) ∧ b2 ≤ m + 1 ∧ b < b2 ∧ ∀ c : Nat, c < b2 → ¬ Bd m W b c := by
        unfold MinB at hMb
        by_cases z : b = m
        · rw [if_pos z] at hMb
          refine ⟨m + 1, by omega, Or.inl rfl, Nat.le_refl _, by omega, fun c hc hcc => ?_⟩
          have := hcc.1
          have := hcc.2.1
          omega
        · rw [if_neg z] at hMb
          obtain ⟨z1, z2, z3⟩ := hMb
          refine ⟨(B b).toNat, by omega, Or.inr z2, by have := z2.2.1; omega, z2.1, fun c hc => z3 c (by omega)⟩
      rw [hb2]
      refine grow_ok he hem hB n b2 _ (by omega) ?_ q2 (by omega) (fun c hc hcb => ?_) (fun c hc => ⟨fun hcb => ?_, fun hcb => ?_⟩)
      · rcases q1 with q | q
        · exact Or.inl q
        · exact Or.inr ((Bd_trans hbb q3).mpr q)
      · rcases Nat.lt_trichotomy c b with z | z | z
        · exact h5 c hc z
        · rw [z]; exact hmm
        · exact absurd ((Bd_trans hbb z).mp hc) (q4 c hcb)
      · rcases Nat.lt_trichotomy c b with z | z | z
        · refine ((h6 c hc).1 z).same ?_
          split
          · rw [updZ_ne _ _ (by omega)]
          · rfl
        · subst z
          have hp := (h6 c hc).2 (Nat.le_refl _)
          split
          · rename_i hk
            rcases hp with ⟨p1, p2⟩ | ⟨x, p1, p2, p3, p4⟩
            · exact Or.inr ⟨e, Nat.le_refl _, ⟨he, hbb, hmm⟩, updZ_same _ _ _, fun e3 z => p2 e3 (by omega)⟩
            · have := p2.2.1.1
              omega
          · rename_i hk
            rcases hp with ⟨p1, p2⟩ | ⟨x, p1, p2⟩
            · exact absurd p1 hk
            · exact Or.inr ⟨x, by omega, p2⟩
        · have hp := (h6 c hc).2 (by omega)
          refine (hp.down (fun hm => ?_)).same ?_
          · exact q4 c hcb ((Bd_trans hbb z).mp hm.2.1)
          · split
            · rw [updZ_ne _ _ (by omega)]
            · rfl
      · refine ((h6 c hc).2 (by omega)).same ?_
        split
        · rw [updZ_ne _ _ (by omega)]
        · rfl
theorem find_ok {m : Nat} {W : Nat → Int32} : ∀ (e : Nat) (b : Int) (B K : Nat → Int), e ≤ m → AllB m W e B → b = B e → (∀ c : Nat, c ≤ m → PK m W (e + 1) c K) → AllB m W 0 (findF m W e b B K).1 ∧ ∀ c : Nat, c ≤ m → PK m W 1 c (findF m W e b B K).2
  | 0, b, B, K, _, h2, _, h4 => ⟨h2, h4⟩
  | e + 1, b, B, K, h1, h2, h3, h4 => by
    have hM := h2 (e + 1) (Nat.le_refl _) h1
    obtain ⟨b0, hb0, q1, q2, q3, q4⟩ : ∃ b0 : Nat, b = (b0 : Int) ∧ (b0 = m + 1 ∨ Bd m W (e + 1) b0) ∧ b0 ≤ m + 1 ∧ e + 1 < b0 ∧ ∀ c : Nat, c < b0 → ¬ Bd m W (e + 1) c := by
      rw [h3]
      unfold MinB at hM
      by_cases z : e + 1 = m
      · rw [if_pos z] at hM
        refine ⟨m + 1, by omega, Or.inl rfl, Nat.le_refl _, by omega, fun c hc hcc => ?_⟩
        have := hcc.1
        have := hcc.2.1
        omega
      · rw [if_neg z] at hM
        obtain ⟨z1, z2, z3⟩ := hM
        exact ⟨(B (e + 1)).toNat, by omega, Or.inr z2, by have := z2.2.1; omega, z2.1, fun c hc => z3 c (by omega)⟩
    obtain ⟨g, K2, hg, g1, g2, g3, g4, g5⟩ := grow_ok (by omega) h1 h2 (m + 1) b0 K (by omega) q1 q2 q3 (fun c hc hcb => absurd hc (q4 c hcb)) (fun c hc => ⟨fun hcb => (h4 c hc).down (fun hm => q4 c hcb hm.2.1), fun _ => h4 c hc⟩)
    have hg' : growF (m : Int) W B ((e : Int) + 1) (m + 1) b K = ((g : Int), K2) := by rw [hb0]; exact hg
    simp only [findF]
    rw [hg']
    refine find_ok e _ _ _ (by omega) (fun j hj hjm => ?_) (updZ_same _ _ _).symm g5
    by_cases z : j = e
    · subst z
      rw [updZ_same]
      unfold MinB
      rw [if_neg (by omega)]
      have e1 : ((g : Int) - 1).toNat = g - 1 := by omega
      refine ⟨by omega, ?_, fun c hc hcc => ?_⟩
      · rw [e1]
        rcases g1 with g1 | ⟨g1, g6⟩
        · rw [g1]; exact Bd_end (by omega)
        · refine (Bd_step (by have := g1.2.1; omega)).mpr ⟨by omega, by rw [show g - 1 + 1 = g by omega]; exact g1, by simpa using g6⟩
      · have hcm : c < m := by
          have := hcc.2.1
          omega
        obtain ⟨_, y2, y3⟩ := (Bd_step hcm).mp hcc
        exact g4 (c + 1) y2 (by omega) (by simpa using y3)
    · rw [updZ_ne _ _ z]
      exact h2 j (by omega) hjm
def FB (m : Nat) (W : Nat → Int32) (e b : Nat) : Prop := Bd m W 0 b ∧ e ≤ b ∧ ∀ c : Nat, e ≤ c → c < b → ¬ Bd m W 0 c
theorem tail_ok {m : Nat} {W : Nat → Int32} {B : Nat → Int} (hB : AllB m W 0 B) : ∀ (n e b : Nat) (K : Nat → Int), n + e = m + 1 → (e ≤ m → FB m W e b) → ∀ c : Nat, c ≤ m → (c < e → tailF B n e (b : Int) K c = K c) ∧ (e ≤ c → (¬ K c = 0 → tailF B n e (b : Int) K c = K c) ∧ (K c = 0 → ∃ d : Nat, FB m W c d ∧ tailF B n e (b : Int) K c = (d : Int)))
  | 0, e, b, K, h1, h2 => fun c hc => ⟨fun _ => rfl, fun h => by omega⟩
  | n + 1, e, b, K, h1, h2 => by
    have hF := h2 (by omega)
    obtain ⟨b2, hb2, hF2⟩ : ∃ b2 : Nat, (if (e : Int) = (b : Int) then B e else (b : Int)) = (b2 : Int) ∧ (e + 1 ≤ m → FB m W (e + 1) b2) := by
      by_cases z : (e : Int) = (b : Int)
      · have z2 : e = b := by omega
        subst z2
        rw [if_pos rfl]
        have hM := hB e (Nat.zero_le _) (by omega)
        unfold MinB at hM
        by_cases y : e = m
        · rw [if_pos y] at hM
          exact ⟨m + 1, by omega, fun h => by omega⟩
        · rw [if_neg y] at hM
          obtain ⟨z1, z3, z4⟩ := hM
          refine ⟨(B e).toNat, by omega, fun _ => ⟨(Bd_trans hF.1 z3.1).mpr z3, z3.1, fun c c1 c2 c3 => z4 c (by omega) ((Bd_trans hF.1 (by omega)).mp c3)⟩⟩
      · rw [if_neg z]
        refine ⟨b, rfl, fun _ => ⟨hF.1, by have := hF.2.1; omega, fun c c1 c2 => hF.2.2 c (by omega) c2⟩⟩
    intro c hc
    simp only [tailF]
    rw [hb2]
    have ih := tail_ok hB n (e + 1) b2 (if K e = 0 then updZ K e (b : Int) else K) (by omega) hF2 c hc
    refine ⟨fun h => ?_, fun h => ?_⟩
    · rw [ih.1 (by omega)]
      split
      · rw [updZ_ne _ _ (by omega)]
      · rfl
    · by_cases z : c = e
      · subst z
        rw [ih.1 (by omega)]
        refine ⟨fun hk => ?_, fun hk => ?_⟩
        · rw [if_neg hk]
        · rw [if_pos hk, updZ_same]
          exact ⟨b, hF, rfl⟩
      · have i2 := ih.2 (by omega)
        have hkc : (if K e = 0 then updZ K e (b : Int) else K) c = K c := by
          split
          · rw [updZ_ne _ _ (by omega)]
          · rfl
        rw [hkc] at i2
        exact i2
theorem find_start {m : Nat} {W : Nat → Int32} (B K : Nat → Int) : AllB m W m (updZ B m ((m : Int) + 1)) ∧ ∀ c : Nat, c ≤ m → PK m W (m + 1) c (zF ((m : Int) + 1) K) := by
  refine ⟨fun j h1 h2 => ?_, fun c hc => Or.inl ⟨?_, fun e2 h hm => ?_⟩⟩
  · have : j = m := by omega
    subst this
    unfold MinB
    rw [if_pos rfl, updZ_same]
  · simp only [zF]
    rw [if_pos (by omega)]
  · have := hm.2.1.1
    have := hm.2.1.2.1
    omega
theorem study_ok {m : Nat} {W : Nat → Int32} (B K : Nat → Int) (hm : 0 < m) : studyB m W B K 0 = (perF m W : Int) ∧ ∀ j : Nat, j < m → studyK m W B K (j + 1) = (endF m W j : Int) := by
  obtain ⟨s1, s2⟩ := find_start (W := W) B K
  have hf := find_ok m ((m : Int) + 1) (updZ B m ((m : Int) + 1)) (zF ((m : Int) + 1) K) (Nat.le_refl _) s1 (updZ_same _ _ _).symm s2
  obtain ⟨f1, f2⟩ := hf
  have hM := f1 0 (Nat.le_refl _) (Nat.zero_le _)
  unfold MinB at hM
  rw [if_neg (by omega)] at hM
  obtain ⟨z1, z2, z3⟩ := hM
  have hB0 : (findF m W m ((m : Int) + 1) (updZ B m ((m : Int) + 1)) (zF ((m : Int) + 1) K)).1 = studyB m W B K := rfl
  rw [hB0] at z1 z2 z3 f1
  have hper : (studyB m W B K 0).toNat = perF m W := by
    refine perF_uniq (by have := z2.1; omega) z2.2.1 (fun i a b => by simpa using z2.2.2 i b a) (fun q q1 q2 q3 => z3 q (by omega) ⟨by omega, by have := z2.2.1; omega, fun x a b => by simpa using q3 x b a⟩)
  refine ⟨by omega, fun j hj => ?_⟩
  have hb : studyB m W B K 0 = (((studyB m W B K 0).toNat : Nat) : Int) := by omega
  have ht := tail_ok f1 (m + 1) 0 (studyB m W B K 0).toNat (findF m W m ((m : Int) + 1) (updZ B m ((m : Int) + 1)) (zF ((m : Int) + 1) K)).2 (by omega) (fun _ => ⟨z2, Nat.zero_le _, fun c _ c2 => z3 c (by omega)⟩) (j + 1) (by omega)
  rw [← hb] at ht
  have ht2 := ht.2 (Nat.zero_le _)
  have hK : tailF (studyB m W B K) (m + 1) 0 (studyB m W B K 0) (findF m W m ((m : Int) + 1) (updZ B m ((m : Int) + 1)) (zF ((m : Int) + 1) K)).2 = studyK m W B K := rfl
  rw [hK] at ht2
  have mis_of : ∀ k : Nat, 1 ≤ k → k ≤ j → endP m W j k → Mis m W (j + 1 - k) (j + 1) := by
    intro k k1 k2 hk
    refine ⟨by omega, ⟨by omega, by omega, fun x a b => ?_⟩, fun h => hk.1 k2 ?_⟩
    · rw [hk.2 x b (by omega) (by omega)]; congr 1; omega
    · rw [show j + 1 - k - 1 = j - k by omega, show j + 1 - 1 = j by omega] at h
      exact h.symm
  rcases f2 (j + 1) (by omega) with ⟨k0, k1⟩ | ⟨e2, k1, k2, k3, k4⟩
  · obtain ⟨d, hd, hk⟩ := ht2.2 k0
    rw [hk]
    congr 1
    refine endF_uniq hj (by have := hd.2.1; omega) ⟨fun h => by have := hd.2.1; omega, fun i a b c => by simpa using hd.1.2.2 i c a⟩ (fun q q1 q2 q3 => ?_)
    rcases Nat.lt_or_ge j q with y | y
    · exact hd.2.2 q (by omega) q2 ⟨by omega, by have := hd.1.2.1; omega, fun x a b => by simpa using q3.2 x b (by omega) a⟩
    · exact k1 _ (by omega) (mis_of q q1 y q3)
  · have hlt := k2.2.1.1
    have hk := ht2.1 (by omega)
    rw [hk, k3]
    have e1 : (((j + 1 : Nat)) : Int) - (e2 : Int) = ((j + 1 - e2 : Nat) : Int) := by omega
    rw [e1]
    congr 1
    refine endF_uniq hj (by omega) ⟨fun _ h => k2.2.2 ?_, fun i a b c => ?_⟩ (fun q q1 q2 q3 => k4 _ (by omega) (mis_of q q1 (by omega) q3))
    · rw [show j + 1 - 1 = j by omega, show e2 - 1 = j - (j + 1 - e2) by omega]
      exact h.symm
    · exact k2.2.1.2.2 i (by omega) a
theorem study_rng {m : Nat} (hm : m ≤ 16) {W : Nat → Int32} {B K : Nat → Int} (hK : ∀ j : Nat, 0 ≤ K j ∧ K j ≤ 17) : (∀ j : Nat, 0 ≤ studyK m W B K j ∧ studyK m W B K j ≤ 17) ∧ 1 ≤ studyB m W B K 0 ∧ studyB m W B K 0 ≤ 17 := by
  have h := findF_rng hm (W := W) m ((m : Int) + 1) (updZ B m ((m : Int) + 1)) (zF ((m : Int) + 1) K) (Nat.le_refl _) (Int.le_refl _) (Int.le_refl _) (fun j h1 h2 => by rw [show j = m by omega, updZ_same]; omega) (zF_rng hK _)
  have hB0 : (findF m W m ((m : Int) + 1) (updZ B m ((m : Int) + 1)) (zF ((m : Int) + 1) K)).1 = studyB m W B K := rfl
  rw [hB0] at h
  have h0 := h.1 0 (by omega)
  refine ⟨tailF_rng hm (fun j hj => by have := h.1 j hj; omega) (m + 1) 0 _ _ (by omega) (by omega) h.2, by omega, by omega⟩
