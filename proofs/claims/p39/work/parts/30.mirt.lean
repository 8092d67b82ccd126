/-! mirrored texts, recorded states and slots; what holds of all states -/
def mirT (t : List Int32) : List Int32 := t.map (fun c => iI 219 - c)
theorem mirT_len (t : List Int32) : (mirT t).length = t.length := List.length_map _
theorem mirT_snoc (t : List Int32) (a : Int) : mirT (t ++ [iI (97 + a)]) = mirT t ++ [iI (122 - a)] := by
  unfold mirT
  rw [List.map_append, List.map_cons, List.map_nil, iI_sub, show 219 - (97 + a) = 122 - a by omega]
def LetT (t : List Int32) : Prop := ∀ x ∈ t, 97 ≤ x.toInt ∧ x.toInt ≤ 122
theorem LetT.no : LetT [] := fun x h => absurd h List.not_mem_nil
theorem LetT.snoc {t : List Int32} (h : LetT t) {a : Int} (ha : 0 ≤ a ∧ a ≤ 25) : LetT (t ++ [iI (97 + a)]) := by
  intro x hx
  rcases List.mem_append.mp hx with q | q
  · exact h x q
  · rw [List.mem_singleton.mp q, iI_t (by omega) (by omega)]
    omega
theorem LetT.mir {t : List Int32} (h : LetT t) : LetT (mirT t) := by
  intro x hx
  obtain ⟨c, hc, rfl⟩ := List.mem_map.mp hx
  have h1 := h c hc
  have e : iI 219 - c = iI (219 - c.toInt) := by
    rw [← iI_sub, iI_of]
  rw [e, iI_t (by omega) (by omega)]
  omega
theorem LetT.err {t : List Int32} (h : LetT t) : ∀ i : Int, errF t i = -1 := by
  induction t with
  | nil => intro i; rfl
  | cons x t ih =>
    intro i
    have h1 := h x List.mem_cons_self
    rw [errF, if_neg (by omega)]
    exact ih (fun y hy => h y (List.mem_cons_of_mem _ hy)) (i + 1)
theorem x97 (c : Int32) : iI 219 - c - iI 97 = mirX (c - iI 97) := by
  unfold mirX
  rw [← iI_of c, iI_sub, iI_sub, iI_sub, iI_sub]
  congr 1
  omega
theorem map_mirT (t : List Int32) : (mirT t).map (fun x => x - iI 97) = mirL (t.map (fun x => x - iI 97)) := by
  unfold mirT mirL
  rw [List.map_map, List.map_map]
  refine List.map_congr_left (fun c _ => ?_)
  exact x97 c
theorem mTakeL_mir (M : MS) (t : List Int32) : mTakeL (mirM M) (mirT t) = mirM (mTakeL M t) := by
  show ((mirT t).map (fun x => x - iI 97), mirL M.2.1, _) = (mirL (t.map (fun x => x - iI 97)), mirL M.2.1, _)
  rw [map_mirT]
  rfl
theorem mTakeW_mir (M : MS) (t : List Int32) : mTakeW (mirM M) (mirT t) = mirM (mTakeW M t) := by
  show (mirL M.1, (mirT t).map (fun x => x - iI 97), _) = (mirL M.1, mirL (t.map (fun x => x - iI 97)), _)
  rw [map_mirT]
  rfl
theorem push_mir (h : List MS) (M : MS) : (pushH h M).map mirM = pushH (h.map mirM) (mirM M) := by
  unfold pushH
  rw [List.length_map]
  split
  · rw [List.map_append, List.map_drop]; rfl
  · rw [List.map_append]; rfl
def mirS (sl : Nat → Option MS) : Nat → Option MS := fun j => (sl j).map mirM
theorem save_mir (sl : Nat → Option MS) (M : MS) : (fun j => if j = 0 then some (mirM M) else mirS sl j) = mirS (fun j => if j = 0 then some M else sl j) := by
  funext j
  show (if j = 0 then some (mirM M) else (sl j).map mirM) = Option.map mirM (if j = 0 then some M else sl j)
  by_cases q : j = 0
  · rw [if_pos q, if_pos q]; rfl
  · rw [if_neg q, if_neg q]
/-- what holds of the state, of the recorded ones, of the kept ones -/
def IS (M : MS) (h : List MS) (sl : Nat → Option MS) : Prop := Inv M ∧ (∀ N ∈ h, Inv N) ∧ ∀ (j : Nat) (N : MS), sl j = some N → Inv N
theorem IS.push {M N : MS} {h : List MS} {sl : Nat → Option MS} (H : IS M h sl) (hN : Inv N) : IS N (pushH h M) sl := by
  refine ⟨hN, fun K hK => ?_, H.2.2⟩
  rcases List.mem_append.mp hK with q | q
  · split at q
    · exact H.2.1 K (List.mem_of_mem_drop q)
    · exact H.2.1 K q
  · rw [List.mem_singleton.mp q]; exact H.1
theorem IS.save {M : MS} {h : List MS} {sl : Nat → Option MS} (H : IS M h sl) : IS M h (fun j => if j = 0 then some M else sl j) := by
  refine ⟨H.1, H.2.1, fun j N hN => ?_⟩
  have hN : (if j = 0 then some M else sl j) = some N := hN
  split at hN
  · rw [← Option.some.inj hN]; exact H.1
  · exact H.2.2 j N hN
theorem IS.back {M N : MS} {h : List MS} {sl : Nat → Option MS} (H : IS M h sl) (hN : h[h.length - 1]? = some N) : IS N (h.take (h.length - 1)) sl :=
  ⟨H.2.1 N (List.mem_of_getElem? hN), fun K hK => H.2.1 K (List.mem_of_mem_take hK), H.2.2⟩
theorem Ltr_map {t : List Int32} (h : LetT t) : Ltr (t.map (fun x => x - iI 97)) := by
  intro j hj
  rw [List.length_map] at hj
  have e : gl (t.map (fun x => x - iI 97)) j = t[j] - iI 97 := by
    unfold gl
    rw [List.getD_eq_getElem?_getD, List.getElem?_map, List.getElem?_eq_getElem hj]
    rfl
  have h1 := h t[j] (List.getElem_mem hj)
  have e2 : t[j] - iI 97 = iI (t[j].toInt - 97) := by
    rw [← iI_sub, iI_of]
  rw [e, e2, iI_t (by omega) (by omega)]
  omega
theorem Inv.takeL {M : MS} (h : Inv M) {t : List Int32} (ht : LetT t) (hn : (t.length : Int) ≤ 60) : Inv (mTakeL M t) :=
  Inv.fresh (M := mTakeL M t) (h.1.takeL hn) (Ltr_map ht) h.2.2.1
theorem Inv.takeW {M : MS} (h : Inv M) {t : List Int32} (ht : LetT t) (hn : (t.length : Int) ≤ 16) : Inv (mTakeW M t) :=
  Inv.fresh (M := mTakeW M t) (h.1.takeW hn) h.2.1 (Ltr_map ht)
theorem Inv.rules {M : MS} (h : Inv M) {x y : Int} (hx : 0 ≤ x ∧ x ≤ 1 ∧ 0 ≤ y ∧ y ≤ 1) : Inv (mRules M x y) :=
  Inv.fresh (M := mRules M x y) (h.1.rules hx) h.2.1 h.2.2.1
theorem Inv.bgn {M : MS} (h : Inv M) : Inv (bgn M) := Inv.fresh h.1 h.2.1 h.2.2.1
theorem gl_set {l : List Int32} {k : Nat} {x : Int32} (hk : k < l.length) : gl (l.set k x) k = x := by
  unfold gl
  rw [List.getD_eq_getElem?_getD, List.getElem?_set_self hk]
  rfl
theorem gl_setne {l : List Int32} {k j : Nat} {x : Int32} (hk : ¬ k = j) : gl (l.set k x) j = gl l j := by
  unfold gl
  rw [List.getD_eq_getElem?_getD, List.getD_eq_getElem?_getD, List.getElem?_set_ne hk]
theorem Inv.set {M : MS} (h : Inv M) {k : Nat} {a : Int} (ha : 0 ≤ a ∧ a ≤ 25) : Inv (mSet M k (iI a)) := by
  refine Inv.fresh (M := mSet M k (iI a)) h.1.set ?_ h.2.2.1
  intro j hj
  have hj2 : j < (M.1.set k (iI a)).length := hj
  rw [List.length_set] at hj2
  show 0 ≤ (gl (M.1.set k (iI a)) j).toInt ∧ (gl (M.1.set k (iI a)) j).toInt ≤ 25
  by_cases q : k = j
  · subst q
    rw [gl_set hj2, iI_t (by omega) (by omega)]
    exact ha
  · rw [gl_setne q]
    exact h.2.1 j hj2
theorem mirX_z (x : Int32) : mirX x = iI (25 - x.toInt) := by
  unfold mirX
  rw [← iI_sub, iI_of]
theorem cntF_rng {m : Nat} {W L : Nat → Int32} : ∀ s : Nat, 0 ≤ cntF m W L s ∧ cntF m W L s ≤ (s : Int)
  | 0 => ⟨Int.le_refl _, Int.le_refl _⟩
  | s + 1 => by
    have h := cntF_rng (m := m) (W := W) (L := L) s
    simp only [cntF]
    split <;> omega
theorem occ_rng {M : MS} (h : MOk M) : 0 ≤ occF M ∧ occF M ≤ 61 := by
  unfold occF
  split
  · omega
  · have h1 := h.1
    have h2 := cntF_rng (m := M.2.1.length) (W := gl M.2.1) (L := gl M.1) (M.1.length + 1 - M.2.1.length)
    omega
/-- the numbers of a state, bounded -/
theorem MOk.nums {M : MS} (h : MOk M) : M.1.length ≤ 60 ∧ M.2.1.length ≤ 16 ∧ M.2.2.1.length ≤ 60 ∧ 0 ≤ M.2.2.2.2.2.1 ∧ M.2.2.2.2.2.1 ≤ 100 ∧ 0 ≤ M.2.2.2.2.2.2.1 ∧ M.2.2.2.2.2.2.1 ≤ 100 ∧ 0 ≤ M.2.2.2.2.2.2.2 ∧ M.2.2.2.2.2.2.2 ≤ 1600 ∧ 0 ≤ M.2.2.2.1 ∧ M.2.2.2.1 ≤ 1 ∧ 0 ≤ M.2.2.2.2.1 ∧ M.2.2.2.2.1 ≤ 1 := by
  obtain ⟨h1, h2, h3, h4, h5, h6, h7, h8, h9, h10, h11, h12, h13, h14, _⟩ := h
  exact ⟨h1, h2, h4, h5, h6, h7, by omega, h9, by omega, h11, h12, h13, h14⟩
theorem mD_rng (M : MS) (s : Int) : -1 ≤ mD M s ∧ mD M s < (M.2.1.length : Int) := diffF_rng _ _ _ _
