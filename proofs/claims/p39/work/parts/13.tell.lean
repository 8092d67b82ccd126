/-! what the calls do, told over plain values -/
theorem push_len {h : List MS} {M : MS} (h6 : h.length ≤ 6) : ((pushH h M).length : Int) = min ((h.length : Int) + 1) 6 := by
  unfold pushH
  split
  · rename_i e
    simp only [List.length_append, List.length_drop, List.length_cons, List.length_nil]
    omega
  · simp only [List.length_append, List.length_cons, List.length_nil]
    omega
theorem errF_rng : ∀ (l : List Int32) (i : Int), errF l i = -1 ∨ (i ≤ errF l i ∧ errF l i < i + l.length)
  | [], i => Or.inl rfl
  | x :: t, i => by
    simp only [errF]
    split
    · exact Or.inr ⟨Int.le_refl _, by simp; omega⟩
    · rcases errF_rng t (i + 1) with h | h
      · exact Or.inl h
      · refine Or.inr ⟨by omega, ?_⟩
        simp only [List.length_cons]
        omega
theorem err_cons {tl : Int} {Tx : Nat → Int32} {tx : List Int32} {i : Int} (hT : Rep tl Tx tx) (h0 : 0 ≤ i) (h1 : i < tl) : tx.drop i.toNat = Tx i.toNat :: tx.drop (i + 1).toNat := by
  obtain ⟨t1, t2⟩ := hT
  have hlt : i.toNat < tx.length := by omega
  rw [List.drop_eq_getElem_cons hlt, show (i + 1).toNat = i.toNat + 1 by omega, t2 _ hlt]
  simp [List.getD_eq_getElem?_getD, hlt]
theorem err_ok {tl : Int} {Tx : Nat → Int32} {tx : List Int32} {i e : Int} (hT : Rep tl Tx tx) (h0 : 0 ≤ i) (h1 : i < tl) (he : errF (tx.drop i.toNat) i = e) (hc : 97 ≤ (Tx i.toNat).toInt ∧ (Tx i.toNat).toInt ≤ 122) : errF (tx.drop (i + 1).toNat) (i + 1) = e := by
  rw [err_cons hT h0 h1, errF, if_neg (by omega)] at he
  exact he
theorem err_bad {tl : Int} {Tx : Nat → Int32} {tx : List Int32} {i e : Int} (hT : Rep tl Tx tx) (h0 : 0 ≤ i) (h1 : i < tl) (he : errF (tx.drop i.toNat) i = e) (hc : (Tx i.toNat).toInt < 97 ∨ 122 < (Tx i.toNat).toInt) : i = e := by
  rw [err_cons hT h0 h1, errF, if_pos hc] at he
  exact he
theorem err_end {tl : Int} {Tx : Nat → Int32} {tx : List Int32} {i e : Int} (hT : Rep tl Tx tx) (h0 : 0 ≤ i) (h1 : i = tl) (he : errF (tx.drop i.toNat) i = e) : (-1 : Int) = e := by
  have := hT.1
  rw [List.drop_eq_nil_of_le (by omega)] at he
  exact he

def occF (M : MS) : Int := if (M.2.1.length : Int) = 0 then 0 else cntF M.2.1.length (gl M.2.1) (gl M.1) (M.1.length + 1 - M.2.1.length)
theorem cnt_step {M : MS} {k n : Int} (hk : 0 ≤ k) (hn : n = cntF M.2.1.length (gl M.2.1) (gl M.1) k.toNat) : n + (if mD M k = -1 then 1 else 0) = cntF M.2.1.length (gl M.2.1) (gl M.1) (k + 1).toNat := by
  rw [show (k + 1).toNat = k.toNat + 1 by omega, cntF, ← hn, show ((k.toNat : Nat) : Int) = k by omega]
  rfl
theorem occ_at {M : MS} {k n : Int} (hk : 0 ≤ k ∧ k ≤ max ((M.1.length : Int) - (M.2.1.length : Int) + 1) 0 ∧ ((M.2.1.length : Int) = 0 → k = 0)) (hn : n = cntF M.2.1.length (gl M.2.1) (gl M.1) k.toNat) (ho : (M.2.1.length : Int) = 0 ∨ (M.1.length : Int) - (M.2.1.length : Int) + 1 ≤ k) : n = occF M := by
  unfold occF
  by_cases q : (M.2.1.length : Int) = 0
  · rw [if_pos q, hn, hk.2.2 q]; rfl
  · rw [if_neg q, hn]; congr 1; omega
def mTakeL (M : MS) (tx : List Int32) : MS := (tx.map (fun x => x - iI 97), M.2.1, [], M.2.2.2.1, M.2.2.2.2.1, 0, 0, 0)
def mTakeW (M : MS) (tx : List Int32) : MS := (M.1, tx.map (fun x => x - iI 97), [], M.2.2.2.1, M.2.2.2.2.1, 0, 0, 0)
def mRules (M : MS) (x y : Int) : MS := (M.1, M.2.1, [], x, y, 0, 0, 0)
def mSet (M : MS) (k : Nat) (x : Int32) : MS := (M.1.set k x, M.2.1, [], M.2.2.2.1, M.2.2.2.2.1, 0, 0, 0)
theorem gl_map {tl : Int} {Tx : Nat → Int32} {tx : List Int32} (hT : Rep tl Tx tx) {j : Nat} (hj : j < tx.length) : Tx j - iI 97 = gl (tx.map (fun x => x - iI 97)) j := by
  rw [hT.2 j hj]
  simp [gl, List.getD_eq_getElem?_getD, hj]
