/-! what the tables and the start give the law -/
theorem inlX0 : ∀ w ∈ wsX00, w ∈ wsL_law := fun _ h => List.mem_append_left _ (List.mem_append_left _ (List.mem_append_left _ (List.mem_append_left _ (List.mem_append_left _ (List.mem_append_left _ (List.mem_append_right _ h))))))
theorem inlX1 : ∀ w ∈ wsX10, w ∈ wsL_law := fun _ h => List.mem_append_left _ (List.mem_append_left _ (List.mem_append_left _ (List.mem_append_left _ (List.mem_append_left _ (List.mem_append_right _ h)))))
theorem inlX2 : ∀ w ∈ wsX20, w ∈ wsL_law := fun _ h => List.mem_append_left _ (List.mem_append_left _ (List.mem_append_left _ (List.mem_append_left _ (List.mem_append_right _ h))))
theorem inlX3 : ∀ w ∈ wsX30, w ∈ wsL_law := fun _ h => List.mem_append_left _ (List.mem_append_left _ (List.mem_append_left _ (List.mem_append_left _ (List.mem_append_left _ (List.mem_append_left _ (List.mem_append_left _ (List.mem_append_right _ h)))))))
theorem inlX4 : ∀ w ∈ wsX40, w ∈ wsL_law := fun _ h => List.mem_append_left _ (List.mem_append_left _ (List.mem_append_left _ (List.mem_append_left _ (List.mem_append_left _ (List.mem_append_left _ (List.mem_append_left _ (List.mem_append_left _ (List.mem_append_right _ h))))))))
theorem ar_int {A : Array Value} {s : State} (h : (Cond.arrayClass .int).before A s = true) : ∃ cA : ClassId, ArrOfT s cA .int ∧ va_RA s cA .int := by
  obtain ⟨c, k, comp, h1, h2, h3⟩ := Cond.arrayClass_spec h
  exact ⟨c, fun _ _ => ⟨(fun _ q => by cases q), k, h2, comp, h3⟩, h1⟩
theorem ar_bool {A : Array Value} {s : State} (h : (Cond.arrayClass .boolean).before A s = true) : ∃ cA : ClassId, ArrOfT s cA .boolean ∧ va_RA s cA .boolean := by
  obtain ⟨c, k, comp, h1, h2, h3⟩ := Cond.arrayClass_spec h
  exact ⟨c, fun _ _ => ⟨(fun _ q => by cases q), k, h2, comp, h3⟩, h1⟩
theorem ar_st {A : Array Value} {s : State} (h : (Cond.arrayOver (.object RX3)).before A s = true) : ∃ cA : ClassId, ArrOfT s cA (.object RX3) ∧ va_RA s cA (.object RX3) := by
  obtain ⟨comp, c, k, f1, _, h2, h3, f4⟩ := Cond.arrayOver_spec h
  exact ⟨c, fun _ _ => ⟨(fun _ q => by cases q), k, h2, comp, h3⟩, k, comp, h2, h3, f1, f4⟩
theorem tS_222 {A : Array Value} {s : State} (hts : ∀ w ∈ lw_tbl, w.before A s = true) (hgv : (Jvm.Cond.and given_1 narrow_1).before A s = true) : ∃ a, vk_R RX4 222 "the text has an error" a s := by
  obtain ⟨a, _, _, _, q1, _⟩ := Cond.exactly_spec (flat_of_before _ hgv (.exactly (.string RX4 222) "java/lang/String") (by decide +kernel))
  exact ⟨a, vk_R.of (hts (.stringRef RX4 222 "the text has an error") (by decide +kernel)) q1⟩
theorem tS_224 {A : Array Value} {s : State} (hts : ∀ w ∈ lw_tbl, w.before A s = true) (hgv : (Jvm.Cond.and given_1 narrow_1).before A s = true) : ∃ a, vk_R RX4 224 "the text has too many letters" a s := by
  obtain ⟨a, _, _, _, q1, _⟩ := Cond.exactly_spec (flat_of_before _ hgv (.exactly (.string RX4 224) "java/lang/String") (by decide +kernel))
  exact ⟨a, vk_R.of (hts (.stringRef RX4 224 "the text has too many letters") (by decide +kernel)) q1⟩
theorem tS_87 {A : Array Value} {s : State} (hts : ∀ w ∈ lw_tbl, w.before A s = true) (hgv : (Jvm.Cond.and given_1 narrow_1).before A s = true) : ∃ a, vk_R RX4 87 "the search is over" a s := by
  obtain ⟨a, _, _, _, q1, _⟩ := Cond.exactly_spec (flat_of_before _ hgv (.exactly (.string RX4 87) "java/lang/String") (by decide +kernel))
  exact ⟨a, vk_R.of (hts (.stringRef RX4 87 "the search is over") (by decide +kernel)) q1⟩
theorem tS_213 {A : Array Value} {s : State} (hts : ∀ w ∈ lw_tbl, w.before A s = true) (hgv : (Jvm.Cond.and given_1 narrow_1).before A s = true) : ∃ a, vk_R RX4 213 "there is no such place" a s := by
  obtain ⟨a, _, _, _, q1, _⟩ := Cond.exactly_spec (flat_of_before _ hgv (.exactly (.string RX4 213) "java/lang/String") (by decide +kernel))
  exact ⟨a, vk_R.of (hts (.stringRef RX4 213 "there is no such place") (by decide +kernel)) q1⟩
theorem tS_215 {A : Array Value} {s : State} (hts : ∀ w ∈ lw_tbl, w.before A s = true) (hgv : (Jvm.Cond.and given_1 narrow_1).before A s = true) : ∃ a, vk_R RX4 215 "there is no such letter" a s := by
  obtain ⟨a, _, _, _, q1, _⟩ := Cond.exactly_spec (flat_of_before _ hgv (.exactly (.string RX4 215) "java/lang/String") (by decide +kernel))
  exact ⟨a, vk_R.of (hts (.stringRef RX4 215 "there is no such letter") (by decide +kernel)) q1⟩
theorem tS_167 {A : Array Value} {s : State} (hts : ∀ w ∈ lw_tbl, w.before A s = true) (hgv : (Jvm.Cond.and given_1 narrow_1).before A s = true) : ∃ a, vk_R RX4 167 "the word does not fit there" a s := by
  obtain ⟨a, _, _, _, q1, _⟩ := Cond.exactly_spec (flat_of_before _ hgv (.exactly (.string RX4 167) "java/lang/String") (by decide +kernel))
  exact ⟨a, vk_R.of (hts (.stringRef RX4 167 "the word does not fit there") (by decide +kernel)) q1⟩
theorem tS_170 {A : Array Value} {s : State} (hts : ∀ w ∈ lw_tbl, w.before A s = true) (hgv : (Jvm.Cond.and given_1 narrow_1).before A s = true) : ∃ a, vk_R RX4 170 "the word is empty" a s := by
  obtain ⟨a, _, _, _, q1, _⟩ := Cond.exactly_spec (flat_of_before _ hgv (.exactly (.string RX4 170) "java/lang/String") (by decide +kernel))
  exact ⟨a, vk_R.of (hts (.stringRef RX4 170 "the word is empty") (by decide +kernel)) q1⟩
theorem tS_181 {A : Array Value} {s : State} (hts : ∀ w ∈ lw_tbl, w.before A s = true) (hgv : (Jvm.Cond.and given_1 narrow_1).before A s = true) : ∃ a, vk_R RX4 181 "no characters that can be appended" a s := by
  obtain ⟨a, _, _, _, q1, _⟩ := Cond.exactly_spec (flat_of_before _ hgv (.exactly (.string RX4 181) "java/lang/String") (by decide +kernel))
  exact ⟨a, vk_R.of (hts (.stringRef RX4 181 "no characters that can be appended") (by decide +kernel)) q1⟩
theorem tS_184 {A : Array Value} {s : State} (hts : ∀ w ∈ lw_tbl, w.before A s = true) (hgv : (Jvm.Cond.and given_1 narrow_1).before A s = true) : ∃ a, vk_R RX4 184 "the text would be too long" a s := by
  obtain ⟨a, _, _, _, q1, _⟩ := Cond.exactly_spec (flat_of_before _ hgv (.exactly (.string RX4 184) "java/lang/String") (by decide +kernel))
  exact ⟨a, vk_R.of (hts (.stringRef RX4 184 "the text would be too long") (by decide +kernel)) q1⟩
theorem tS_197 {A : Array Value} {s : State} (hts : ∀ w ∈ lw_tbl, w.before A s = true) (hgv : (Jvm.Cond.and given_1 narrow_1).before A s = true) : ∃ a, vk_R RX4 197 "no state is recorded" a s := by
  obtain ⟨a, _, _, _, q1, _⟩ := Cond.exactly_spec (flat_of_before _ hgv (.exactly (.string RX4 197) "java/lang/String") (by decide +kernel))
  exact ⟨a, vk_R.of (hts (.stringRef RX4 197 "no state is recorded") (by decide +kernel)) q1⟩
theorem tS_217 {A : Array Value} {s : State} (hts : ∀ w ∈ lw_tbl, w.before A s = true) (hgv : (Jvm.Cond.and given_1 narrow_1).before A s = true) : ∃ a, vk_R RX4 217 "there is no such slot" a s := by
  obtain ⟨a, _, _, _, q1, _⟩ := Cond.exactly_spec (flat_of_before _ hgv (.exactly (.string RX4 217) "java/lang/String") (by decide +kernel))
  exact ⟨a, vk_R.of (hts (.stringRef RX4 217 "there is no such slot") (by decide +kernel)) q1⟩
theorem tS_208 {A : Array Value} {s : State} (hts : ∀ w ∈ lw_tbl, w.before A s = true) (hgv : (Jvm.Cond.and given_1 narrow_1).before A s = true) : ∃ a, vk_R RX4 208 "nothing was saved in the slot" a s := by
  obtain ⟨a, _, _, _, q1, _⟩ := Cond.exactly_spec (flat_of_before _ hgv (.exactly (.string RX4 208) "java/lang/String") (by decide +kernel))
  exact ⟨a, vk_R.of (hts (.stringRef RX4 208 "nothing was saved in the slot") (by decide +kernel)) q1⟩
theorem law_TB {A : Array Value} {s : State} (hts : ∀ w ∈ lw_tbl, w.before A s = true) (hgv : (Jvm.Cond.and given_1 narrow_1).before A s = true) : TB s := by
  refine ⟨fun q hq => va_Nw.of rfl (hts _ ?_), fun q hq => va_Nw.of rfl (hts _ ?_), ?_⟩
  · revert q
    decide +kernel
  · revert q
    decide +kernel
  · intro q hq
    simp only [tbS, List.mem_cons, List.not_mem_nil, or_false] at hq
    rcases hq with rfl | rfl | rfl | rfl | rfl | rfl | rfl | rfl | rfl | rfl | rfl | rfl
    · exact tS_222 hts hgv
    · exact tS_224 hts hgv
    · exact tS_87 hts hgv
    · exact tS_213 hts hgv
    · exact tS_215 hts hgv
    · exact tS_167 hts hgv
    · exact tS_170 hts hgv
    · exact tS_181 hts hgv
    · exact tS_184 hts hgv
    · exact tS_197 hts hgv
    · exact tS_217 hts hgv
    · exact tS_208 hts hgv
theorem law_TC {A : Array Value} {s : State} (hts : ∀ w ∈ lw_tbl, w.before A s = true) (hgv : (Jvm.Cond.and given_1 narrow_1).before A s = true) : TC s := by
  refine ⟨fun q hq => va_Nw.of rfl (hts _ ?_), va_Nc.of (flat_of_before _ hgv _ (by decide +kernel)), va_Nc.of (flat_of_before _ hgv _ (by decide +kernel)), va_Nc.of (flat_of_before _ hgv _ (by decide +kernel)), fun q hq => va_Nw.of rfl (hts _ ?_)⟩
  · revert q
    decide +kernel
  · revert q
    decide +kernel
theorem law_SZ {A : Array Value} {s : State} (hts : ∀ w ∈ lw_tbl, w.before A s = true) (hgv : (Jvm.Cond.and given_1 narrow_1).before A s = true) : SZ (fun q : Nat => s.heap.size ≤ q) s s.heap :=
  ⟨vx_Zqof (hts _ (by decide +kernel)) (hts _ (by decide +kernel)) (flat_of_before _ hgv _ (by decide +kernel)) (fun _ h => Nat.not_le.mpr h), vx_Zqof (hts _ (by decide +kernel)) (hts _ (by decide +kernel)) (flat_of_before _ hgv _ (by decide +kernel)) (fun _ h => Nat.not_le.mpr h)⟩
theorem law_AO {A : Array Value} {s : State} (hts : ∀ w ∈ lw_tbl, w.before A s = true) : va_AO RX3 s := va_AO.of (hts (.arrayOver (.object RX3)) (by decide +kernel))
theorem law_K {A : Array Value} {s : State} (hts : ∀ w ∈ lw_tbl, w.before A s = true) : ∃ (D : va_G) (cy : Nat → ClassId), va_K D vwCl (tysA cy) s := by
  have htl : ∀ w ∈ wsL_law, w.before A s = true := fun w h => hts w (wsL_law_in w h)
  obtain ⟨c0, i0, K0⟩ := u_known (C := RX0) (T := TX0) (N := 3) (n := 3) htl inlX0 (hts (.instantiable RX0 3) (by decide +kernel))
  obtain ⟨c1, i1, K1⟩ := u_known (C := RX1) (T := TX1) (N := 2) (n := 2) htl inlX1 (hts (.instantiable RX1 2) (by decide +kernel))
  obtain ⟨c2, i2, K2⟩ := u_known (C := RX2) (T := TX2) (N := 2) (n := 2) htl inlX2 (hts (.instantiable RX2 2) (by decide +kernel))
  obtain ⟨c3, i3, K3⟩ := u_known (C := RX3) (T := TX3) (N := 8) (n := 8) htl inlX3 (hts (.instantiable RX3 8) (by decide +kernel))
  obtain ⟨c4, i4, K4⟩ := u_known (C := RX4) (T := TX4) (N := 7) (n := 7) htl inlX4 (hts (.instantiable RX4 7) (by decide +kernel))
  obtain ⟨y0, a0, b0⟩ := ar_int (hts (.arrayClass .int) (by decide +kernel))
  obtain ⟨y1, a1, b1⟩ := ar_bool (hts (.arrayClass .boolean) (by decide +kernel))
  obtain ⟨y2, a2, b2⟩ := ar_st (hts (.arrayOver (.object RX3)) (by decide +kernel))
  refine ⟨(fun k => [c0, c1, c2, c3, c4].getD k c0, fun k => [i0, i1, i2, i3, i4].getD k i0), fun k => [y0, y1, y2].getD k y0, ?_, ?_⟩
  · intro k q hq
    match k, hq with
    | 0, hq => cases hq; exact K0
    | 1, hq => cases hq; exact K1
    | 2, hq => cases hq; exact K2
    | 3, hq => cases hq; exact K3
    | 4, hq => cases hq; exact K4
    | k + 5, hq => simp [vwCl] at hq
  · intro k q hq
    match k, hq with
    | 0, hq => cases hq; exact ⟨a0, b0⟩
    | 1, hq => cases hq; exact ⟨a1, b1⟩
    | 2, hq => cases hq; exact ⟨a2, b2⟩
    | 3, hq => cases hq; exact ⟨a0, b0⟩
    | k + 4, hq => simp [tysA] at hq
