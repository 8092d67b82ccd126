/-! skips, told over plain functions -/
/-- what fits has seen, with i letters gone through -/
def FitP (W : Nat → Int32) (p q i : Int) : Prop := (q ≤ p → ¬ W p.toNat = W (p.toNat - q.toNat)) ∧ ∀ x : Nat, (x : Int) < i → p < x → q ≤ x → W x = W (x - q.toNat)
theorem FitP_all {W : Nat → Int32} {m p q : Int} (h : 0 ≤ p ∧ 0 ≤ q ∧ 0 ≤ m) : FitP W p q m ↔ endP m.toNat W p.toNat q.toNat := by
  constructor
  · rintro ⟨h1, h2⟩
    exact ⟨fun a => h1 (by omega), fun i a b c => h2 i (by omega) (by omega) (by omega)⟩
  · rintro ⟨h1, h2⟩
    exact ⟨fun a => h1 (by omega), fun i a b c => h2 i (by omega) (by omega) (by omega)⟩
theorem FitP_0 {W : Nat → Int32} {p q : Int} : FitP W p q (p + 1) ↔ (q ≤ p → ¬ W p.toNat = W (p.toNat - q.toNat)) := ⟨fun h => h.1, fun h => ⟨h, fun x a b => by omega⟩⟩
theorem FitP_s {W : Nat → Int32} {p q i : Int} (h0 : 0 ≤ p ∧ p < i) : FitP W p q (i + 1) ↔ FitP W p q i ∧ (q ≤ i → W i.toNat = W (i.toNat - q.toNat)) := by
  constructor
  · rintro ⟨h1, h2⟩
    exact ⟨⟨h1, fun x a b c => h2 x (by omega) b c⟩, fun a => h2 i.toNat (by omega) (by omega) (by omega)⟩
  · rintro ⟨⟨h1, h2⟩, h3⟩
    refine ⟨h1, fun x a b c => ?_⟩
    by_cases e : x = i.toNat
    · rw [e]; exact h3 (by omega)
    · exact h2 x (by omega) b c
theorem end_at {m : Int} {W : Nat → Int32} {p q : Int} (hp : 0 ≤ p ∧ p < m) (h1 : 1 ≤ q) (h : endP m.toNat W p.toNat q.toNat) (hmin : ∀ k : Nat, 1 ≤ k → (k : Int) < q → ¬ endP m.toNat W p.toNat k) : q = (endF m.toNat W p.toNat : Int) := by
  have := endF_uniq (W := W) (j := p.toNat) (k := q.toNat) (m := m.toNat) (by omega) (by omega) h (fun k a b => hmin k a (by omega))
  omega
def skS (lr er : Int) (m : Nat) (W L : Nat → Int32) (pl d : Int) : Int := if d = -1 then (perF m W : Int) else max (max 1 (if lr = 0 then 1 else d - lastF m W (L (pl + d).toNat))) (if er = 0 then 1 else (endF m W d.toNat : Int))

