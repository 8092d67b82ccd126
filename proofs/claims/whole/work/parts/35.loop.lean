/-! the law's loop -/
set_option maxHeartbeats 4000000 in
set_option maxRecDepth 100000 in
theorem law_loop {p : Program} {l : Launch} {e : Env} {s : State} {m : MethodId} {below : List Frame} {meth : Method} {c : Code} {Q : State → Prop} {D : va_G} {cy : Nat → ClassId} {b L : Nat} {xs : Nat → Int32} {ad : Nat → Nat} {o0 m0 a0 p0 q0 v0 t0 : Nat} (C : LC p l s m c b L xs D cy)
    (kend : ∀ (H1 : Heap) (locs1 : List Loc) (ls1 : Array Slot) (cells1 slots1 : Nat), va_S (fun q : Nat => s.heap.size ≤ q) s.heap H1 locs1 → cells1 ≤ 601024 ∧ slots1 ≤ 7293034 → W p l e room_1 s m #[.ref b] below meth c H1 locs1 cells1 slots1 Q (F0 m 1478 ls1 [])) :
    ∀ (n i cells slots : Nat) (H : Heap) (locs : List Loc) (ls : Array Slot), L ≤ i + 3 * n → i ≤ L + 3 → cells + 2 * n ≤ 601024 ∧ slots + 12 * n ≤ 7293034 → LI D cy ad o0 m0 a0 p0 q0 v0 t0 (fun q : Nat => s.heap.size ≤ q) H → va_S (fun q : Nat => s.heap.size ≤ q) s.heap H locs → lv_has ls 7 (lvL i b (ad 0) m0 o0) → W p l e room_1 s m #[.ref b] below meth c H locs cells slots Q (F0 m 23 ls []) := by
  obtain ⟨hx, hb, hml, hown, hts, hX, hbl, hK, hT, hC, hZ, hfl, hL⟩ := id C
  have hbA : ¬ (fun q : Nat => s.heap.size ≤ q) b := Nat.not_le.mpr hbl
  intro n
  induction n with
  | zero =>
    intro i cells slots H locs ls hn hi hro hI hS hl
    have hl : lv_has ls 7 [(4, .int (iI (i : Int))), (0, .ref b), (1, .ref (ad 0)), (2, .ref m0), (3, .ref o0)] := hl
    refine lv_iload hx hb dL_law_23 (lv_at hl 0 rfl) ?_
    refine lv_aload_n hx hb dL_law_25 rfl (lv_at hl 1 rfl) ?_
    refine va_slen hx hb hX hbl hbA hS dL_law_26 ?_
    refine z_top (iI_nat L).symm ?_
    refine lv_iconst (v := iI 3) hx hb dL_law_27 rfl ?_
    refine z_sub hx hb dL_law_28 ?_
    exact z_icmp_gt (tgt := 1478) hx hb (iI_t (by omega) (by omega)) (iI_t (by omega) (by omega)) dL_law_29 (by decide) (fun _ => kend _ _ _ _ _ hS ⟨by omega, by omega⟩) (fun q => absurd q (by omega))
  | succ n ih =>
    intro i cells slots H locs ls hn hi hro hI hS hl
    have hl : lv_has ls 7 [(4, .int (iI (i : Int))), (0, .ref b), (1, .ref (ad 0)), (2, .ref m0), (3, .ref o0)] := hl
    refine lv_iload hx hb dL_law_23 (lv_at hl 0 rfl) ?_
    refine lv_aload_n hx hb dL_law_25 rfl (lv_at hl 1 rfl) ?_
    refine va_slen hx hb hX hbl hbA hS dL_law_26 ?_
    refine z_top (iI_nat L).symm ?_
    refine lv_iconst (v := iI 3) hx hb dL_law_27 rfl ?_
    refine z_sub hx hb dL_law_28 ?_
    refine z_icmp_gt (tgt := 1478) hx hb (iI_t (by omega) (by omega)) (iI_t (by omega) (by omega)) dL_law_29 (by decide) (fun _ => kend _ _ _ _ _ hS ⟨by omega, by omega⟩) (fun q => ?_)
    have hi2 : (i : Int) + 2 < L := by omega
    refine lv_aload_n hx hb dL_law_32 rfl (lv_at hl 1 rfl) ?_
    refine lv_iload hx hb dL_law_33 (lv_at hl 0 rfl) ?_
    refine va_sld hx hb hX hbl hbA hS (iI_in (by omega) (by omega) (by omega)) dL_law_35 ?_
    refine lv_bipush (v := iI 63) hx hb dL_law_36 (by decide +kernel) ?_
    refine lv_iand hx hb dL_law_38 ?_
    refine lv_topi (fun v _ => ?_)
    have hr2 : cells + 2 ≤ 601024 ∧ slots + 12 ≤ 7293034 := ⟨by omega, by omega⟩
    have kk : ∀ (H1 : Heap) (locs1 : List Loc) (ls1 : Array Slot), LI D cy ad o0 m0 a0 p0 q0 v0 t0 (fun q : Nat => s.heap.size ≤ q) H1 → va_S (fun q : Nat => s.heap.size ≤ q) s.heap H1 locs1 → lv_has ls1 7 (lvL i b (ad 0) m0 o0) → W p l e room_1 s m #[.ref b] below meth c H1 locs1 (cells + 2) (slots + 12) Q (F0 m 1472 ls1 []) := by
      intro H1 locs1 ls1 hI1 hS1 hl1
      have hl1 : lv_has ls1 7 [(4, .int (iI (i : Int))), (0, .ref b), (1, .ref (ad 0)), (2, .ref m0), (3, .ref o0)] := hl1
      refine z_iinc (lv' := [(4, .int (iI ((i : Int) + 3))), (0, .ref b), (1, .ref (ad 0)), (2, .ref m0), (3, .ref o0)]) hx hb dL_law_1472 hl1 (k := 0) rfl (by decide) rfl (fun ls2 hl2 => ?_)
      refine lv_goto (tgt := 23) hx hb dL_law_1475 (by decide) ?_
      exact ih (i + 3) (cells + 2) (slots + 12) H1 locs1 ls2 (by omega) (by omega) ⟨by omega, by omega⟩ hI1 hS1 (by
        have e3 : ((i + 3 : Nat) : Int) = (i : Int) + 3 := by omega
        unfold lvL
        rw [e3]
        exact hl2)
    by_cases hout : v.toInt < 0 ∨ 35 < v.toInt
    · exact lv_tableOut (tgt := 1472) hx hb dL_law_39 hout (by decide) (W.widen (k := cells + 2) (n := slots + 12) (by omega) (by omega) (kk _ _ _ hI hS hl))
    · have hcs : v.toInt = 0 ∨ v.toInt = 1 ∨ v.toInt = 2 ∨ v.toInt = 3 ∨ v.toInt = 4 ∨ v.toInt = 5 ∨ v.toInt = 6 ∨ v.toInt = 7 ∨ v.toInt = 8 ∨ v.toInt = 9 ∨ v.toInt = 10 ∨ v.toInt = 11 ∨ v.toInt = 12 ∨ v.toInt = 13 ∨ v.toInt = 14 ∨ v.toInt = 15 ∨ v.toInt = 16 ∨ v.toInt = 17 ∨ v.toInt = 18 ∨ v.toInt = 19 ∨ v.toInt = 20 ∨ v.toInt = 21 ∨ v.toInt = 22 ∨ v.toInt = 23 ∨ v.toInt = 24 ∨ v.toInt = 25 ∨ v.toInt = 26 ∨ v.toInt = 27 ∨ v.toInt = 28 ∨ v.toInt = 29 ∨ v.toInt = 30 ∨ v.toInt = 31 ∨ v.toInt = 32 ∨ v.toInt = 33 ∨ v.toInt = 34 ∨ v.toInt = 35 := by omega
      rcases hcs with hv | hv | hv | hv | hv | hv | hv | hv | hv | hv | hv | hv | hv | hv | hv | hv | hv | hv | hv | hv | hv | hv | hv | hv | hv | hv | hv | hv | hv | hv | hv | hv | hv | hv | hv | hv
      · exact lv_tableIn (off := 157) (tgt := 196) hx hb dL_law_39 (by omega) (by omega) (by rw [hv]; rfl) (by decide) (k_takeLine C hi2 hI hS hr2 hl kk)
      · exact lv_tableIn (off := 201) (tgt := 240) hx hb dL_law_39 (by omega) (by omega) (by rw [hv]; rfl) (by decide) (k_takeWord C hi2 hI hS hr2 hl kk)
      · exact lv_tableIn (off := 245) (tgt := 284) hx hb dL_law_39 (by omega) (by omega) (by rw [hv]; rfl) (by decide) (k_setRules C hi2 hI hS hr2 hl kk)
      · exact lv_tableIn (off := 314) (tgt := 353) hx hb dL_law_39 (by omega) (by omega) (by rw [hv]; rfl) (by decide) (k_look C hi2 hI hS hr2 hl kk)
      · exact lv_tableIn (off := 358) (tgt := 397) hx hb dL_law_39 (by omega) (by omega) (by rw [hv]; rfl) (by decide) (k_finish C hi2 hI hS hr2 hl kk)
      · exact lv_tableIn (off := 371) (tgt := 410) hx hb dL_law_39 (by omega) (by omega) (by rw [hv]; rfl) (by decide) (k_rewind C hi2 hI hS hr2 hl kk)
      · exact lv_tableIn (off := 384) (tgt := 423) hx hb dL_law_39 (by omega) (by omega) (by rw [hv]; rfl) (by decide) (k_setLetter C hi2 hI hS hr2 hl kk)
      · exact lv_tableIn (off := 452) (tgt := 491) hx hb dL_law_39 (by omega) (by omega) (by rw [hv]; rfl) (by decide) (k_lineLength C hi2 hI hS hr2 hl kk)
      · exact lv_tableIn (off := 465) (tgt := 504) hx hb dL_law_39 (by omega) (by omega) (by rw [hv]; rfl) (by decide) (k_wordLength C hi2 hI hS hr2 hl kk)
      · exact lv_tableIn (off := 478) (tgt := 517) hx hb dL_law_39 (by omega) (by omega) (by rw [hv]; rfl) (by decide) (k_lineLetter C hi2 hI hS hr2 hl kk)
      · exact lv_tableIn (off := 534) (tgt := 573) hx hb dL_law_39 (by omega) (by omega) (by rw [hv]; rfl) (by decide) (k_wordLetter C hi2 hI hS hr2 hl kk)
      · exact lv_tableIn (off := 590) (tgt := 629) hx hb dL_law_39 (by omega) (by omega) (by rw [hv]; rfl) (by decide) (k_place C hi2 hI hS hr2 hl kk)
      · exact lv_tableIn (off := 603) (tgt := 642) hx hb dL_law_39 (by omega) (by omega) (by rw [hv]; rfl) (by decide) (k_isOver C hi2 hI hS hr2 hl kk)
      · exact lv_tableIn (off := 616) (tgt := 655) hx hb dL_law_39 (by omega) (by omega) (by rw [hv]; rfl) (by decide) (k_lookCount C hi2 hI hS hr2 hl kk)
      · exact lv_tableIn (off := 629) (tgt := 668) hx hb dL_law_39 (by omega) (by omega) (by rw [hv]; rfl) (by decide) (k_comparedCount C hi2 hI hS hr2 hl kk)
      · exact lv_tableIn (off := 642) (tgt := 681) hx hb dL_law_39 (by omega) (by omega) (by rw [hv]; rfl) (by decide) (k_foundCount C hi2 hI hS hr2 hl kk)
      · exact lv_tableIn (off := 655) (tgt := 694) hx hb dL_law_39 (by omega) (by omega) (by rw [hv]; rfl) (by decide) (k_foundPlace C hi2 hI hS hr2 hl kk)
      · exact lv_tableIn (off := 711) (tgt := 750) hx hb dL_law_39 (by omega) (by omega) (by rw [hv]; rfl) (by decide) (k_skippedPlaces C hi2 hI hS hr2 hl kk)
      · exact lv_tableIn (off := 724) (tgt := 763) hx hb dL_law_39 (by omega) (by omega) (by rw [hv]; rfl) (by decide) (k_lastPlaceOf C hi2 hI hS hr2 hl kk)
      · exact lv_tableIn (off := 780) (tgt := 819) hx hb dL_law_39 (by omega) (by omega) (by rw [hv]; rfl) (by decide) (k_letterSkip C hi2 hI hS hr2 hl kk)
      · exact lv_tableIn (off := 848) (tgt := 887) hx hb dL_law_39 (by omega) (by omega) (by rw [hv]; rfl) (by decide) (k_endSkip C hi2 hI hS hr2 hl kk)
      · exact lv_tableIn (off := 904) (tgt := 943) hx hb dL_law_39 (by omega) (by omega) (by rw [hv]; rfl) (by decide) (k_endSkipByTrying C hi2 hI hS hr2 hl kk)
      · exact lv_tableIn (off := 960) (tgt := 999) hx hb dL_law_39 (by omega) (by omega) (by rw [hv]; rfl) (by decide) (k_border C hi2 hI hS hr2 hl kk)
      · exact lv_tableIn (off := 973) (tgt := 1012) hx hb dL_law_39 (by omega) (by omega) (by rw [hv]; rfl) (by decide) (k_period C hi2 hI hS hr2 hl kk)
      · exact lv_tableIn (off := 986) (tgt := 1025) hx hb dL_law_39 (by omega) (by omega) (by rw [hv]; rfl) (by decide) (k_occurrences C hi2 hI hS hr2 hl kk)
      · exact lv_tableIn (off := 999) (tgt := 1038) hx hb dL_law_39 (by omega) (by omega) (by rw [hv]; rfl) (by decide) (k_occurrencesByTrying C hi2 hI hS hr2 hl kk)
      · exact lv_tableIn (off := 1012) (tgt := 1051) hx hb dL_law_39 (by omega) (by omega) (by rw [hv]; rfl) (by decide) (k_comparedWith C hi2 hI hS hr2 hl kk)
      · exact lv_tableIn (off := 1081) (tgt := 1120) hx hb dL_law_39 (by omega) (by omega) (by rw [hv]; rfl) (by decide) (k_differenceAt C hi2 hI hS hr2 hl kk)
      · exact lv_tableIn (off := 1137) (tgt := 1176) hx hb dL_law_39 (by omega) (by omega) (by rw [hv]; rfl) (by decide) (k_appendText C hi2 hI hS hr2 hl kk)
      · exact lv_tableIn (off := 1225) (tgt := 1264) hx hb dL_law_39 (by omega) (by omega) (by rw [hv]; rfl) (by decide) (k_clearText C hi2 hI hS hr2 hl kk)
      · exact lv_tableIn (off := 1238) (tgt := 1277) hx hb dL_law_39 (by omega) (by omega) (by rw [hv]; rfl) (by decide) (k_textLength C hi2 hI hS hr2 hl kk)
      · exact lv_tableIn (off := 1251) (tgt := 1290) hx hb dL_law_39 (by omega) (by omega) (by rw [hv]; rfl) (by decide) (k_textError C hi2 hI hS hr2 hl kk)
      · exact lv_tableIn (off := 1264) (tgt := 1303) hx hb dL_law_39 (by omega) (by omega) (by rw [hv]; rfl) (by decide) (k_undo C hi2 hI hS hr2 hl kk)
      · exact lv_tableIn (off := 1308) (tgt := 1347) hx hb dL_law_39 (by omega) (by omega) (by rw [hv]; rfl) (by decide) (k_undoCount C hi2 hI hS hr2 hl kk)
      · exact lv_tableIn (off := 1321) (tgt := 1360) hx hb dL_law_39 (by omega) (by omega) (by rw [hv]; rfl) (by decide) (k_saveState C hi2 hI hS hr2 hl kk)
      · exact lv_tableIn (off := 1377) (tgt := 1416) hx hb dL_law_39 (by omega) (by omega) (by rw [hv]; rfl) (by decide) (k_loadState C hi2 hI hS hr2 hl kk)
